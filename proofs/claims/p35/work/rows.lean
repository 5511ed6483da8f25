section
-- ===== PART A: goes FIRST, ahead of the names: the tables' words, and 'selects' of the private methods out of them =====
/-- a private method of a class that the tables say can be made, by its rows of tables_1 -/
def lw_okq (q : MethodName × Nat) : Prop := (q.1.cls ≠ "java/lang/invoke/MethodHandle" ∧ q.1.cls ≠ "java/lang/invoke/VarHandle") ∧ Cond.instantiable q.1.cls q.2 ∈ tables_1 ∧ Cond.privateMethod q.1 ∈ tables_1 ∧ Cond.instanceMethod q.1 ∈ tables_1
theorem lw_p0 : lw_okq (⟨"java/lang/Throwable", "fillInStackTrace", "(I)Ljava/lang/Throwable;"⟩, 6) := ⟨⟨by decide +kernel, by decide +kernel⟩, List.mem_of_getElem? (i := 143) (by decide +kernel), List.mem_of_getElem? (i := 141) (by decide +kernel), List.mem_of_getElem? (i := 142) (by decide +kernel)⟩
theorem lw_p1 : lw_okq (⟨"GustMill$State", "takeOffUnwanted", "()V"⟩, 16) := ⟨⟨by decide +kernel, by decide +kernel⟩, List.mem_of_getElem? (i := 20) (by decide +kernel), List.mem_of_getElem? (i := 177) (by decide +kernel), List.mem_of_getElem? (i := 178) (by decide +kernel)⟩
theorem lw_p2 : lw_okq (⟨"GustMill$State", "isAhead", "(II)Z"⟩, 16) := ⟨⟨by decide +kernel, by decide +kernel⟩, List.mem_of_getElem? (i := 20) (by decide +kernel), List.mem_of_getElem? (i := 189) (by decide +kernel), List.mem_of_getElem? (i := 190) (by decide +kernel)⟩
theorem lw_p3 : lw_okq (⟨"GustMill$State", "fillStones", "()V"⟩, 16) := ⟨⟨by decide +kernel, by decide +kernel⟩, List.mem_of_getElem? (i := 20) (by decide +kernel), List.mem_of_getElem? (i := 197) (by decide +kernel), List.mem_of_getElem? (i := 198) (by decide +kernel)⟩
theorem lw_p4 : lw_okq (⟨"GustMill$State", "grind", "()I"⟩, 16) := ⟨⟨by decide +kernel, by decide +kernel⟩, List.mem_of_getElem? (i := 20) (by decide +kernel), List.mem_of_getElem? (i := 205) (by decide +kernel), List.mem_of_getElem? (i := 206) (by decide +kernel)⟩
theorem lw_p5 : lw_okq (⟨"GustMill$State", "finishSacks", "()V"⟩, 16) := ⟨⟨by decide +kernel, by decide +kernel⟩, List.mem_of_getElem? (i := 20) (by decide +kernel), List.mem_of_getElem? (i := 219) (by decide +kernel), List.mem_of_getElem? (i := 220) (by decide +kernel)⟩
theorem lw_p6 : lw_okq (⟨"GustMill", "requireSack", "(I)V"⟩, 2) := ⟨⟨by decide +kernel, by decide +kernel⟩, List.mem_of_getElem? (i := 12) (by decide +kernel), List.mem_of_getElem? (i := 268) (by decide +kernel), List.mem_of_getElem? (i := 269) (by decide +kernel)⟩
def lw_privs_1 : List (MethodName × Nat) := [(⟨"java/lang/Throwable", "fillInStackTrace", "(I)Ljava/lang/Throwable;"⟩, 6), (⟨"GustMill$State", "takeOffUnwanted", "()V"⟩, 16), (⟨"GustMill$State", "isAhead", "(II)Z"⟩, 16), (⟨"GustMill$State", "fillStones", "()V"⟩, 16), (⟨"GustMill$State", "grind", "()I"⟩, 16), (⟨"GustMill$State", "finishSacks", "()V"⟩, 16), (⟨"GustMill", "requireSack", "(I)V"⟩, 2)]
theorem lw_r1 : ∀ q ∈ lw_privs_1, lw_okq q := List.forall_mem_cons.mpr ⟨lw_p0, List.forall_mem_cons.mpr ⟨lw_p1, List.forall_mem_cons.mpr ⟨lw_p2, List.forall_mem_cons.mpr ⟨lw_p3, List.forall_mem_cons.mpr ⟨lw_p4, List.forall_mem_cons.mpr ⟨lw_p5, List.forall_mem_cons.mpr ⟨lw_p6, fun _ h => absurd h List.not_mem_nil⟩⟩⟩⟩⟩⟩⟩
def lw_privs : List (MethodName × Nat) := lw_privs_1
def lw_tbl : List Cond := k2_sels lw_privs ++ tables_1
theorem lw_privs_ok : ∀ q ∈ lw_privs, lw_okq q := lw_r1
/-- the streams that the claim lets the run draw from -/
abbrev lw_cs : List Choice := [Jvm.Choice.named "NaN.bits"]
theorem lw_bits : nanBits ∈ lw_cs := by first | decide | exact List.mem_cons_self | simp [lw_cs, nanBits]
end
section
/-! ===== BEGIN words of one list among another's, by their places ===== -/
theorem goodIn_r {big : List Cond} (ws : List Cond) (ps : List Nat) (hp : ws = ps.filterMap (fun i => big[i]?)) (h : ws.all goodWord = true) : GoodIn big ws := by
  intro w hw
  have h1 := List.all_eq_true.mp h w hw
  rw [hp] at hw
  obtain ⟨i, -, hi⟩ := List.mem_filterMap.mp hw
  have hm : w ∈ big := by first | exact List.mem_of_getElem? hi | exact List.getElem?_mem hi
  exact ⟨hm, good_of_word h1⟩
theorem goodIn_app {big a b : List Cond} (ha : GoodIn big a) (hb : GoodIn big b) : GoodIn big (a ++ b) := fun w h => (List.mem_append.mp h).elim (ha w) (hb w)
theorem goodIn_ca {big a b : List Cond} {c : Cond} (ha : GoodIn big (c :: a)) (hb : GoodIn big b) : GoodIn big (c :: (a ++ b)) := fun w h => (List.mem_cons.mp h).elim (fun e => ha w (List.mem_cons.mpr (Or.inl e))) (fun h => (List.mem_append.mp h).elim (fun h => ha w (List.mem_cons.mpr (Or.inr h))) (hb w))
theorem goodIn_sub {big ws : List Cond} (hm : ∀ w ∈ ws, w ∈ big) (h : ws.all goodWord = true) : GoodIn big ws := fun w hw => ⟨hm w hw, good_of_word (List.all_eq_true.mp h w hw)⟩
/-! ===== END ===== -/

/-! ===== BEGIN exceptions that leave a method, and their catching by the caller (launches without stack traces) ===== -/
section VXA
/-! The laws vx_back, vx_callV, vx_callS, vx_callSW, vx_throw0, vx_throwS follow proofs of the library, with one case more: JvmDerived/Free/Laws.lean (Back.of_free), Shelf42/LK1.lean (callV, callS), Shelf/KitTraced.lean (throwNew0V, throwNewS). -/
/-- where a method has thrown q: the class by its name, the cell, what was written, the world -/
def vx_T (XC : String → State → State → Prop) (st : State) (q : Addr) (t : State) (mc ms : Nat) (free : Addr → Prop) : Prop :=
  ∃ (E : String) (ce : Cell) (L : List Loc), XC E st t ∧ t.heap[q]? = some ce ∧ ce.vm = .none ∧ st.vm.findClass E = some ce.cls ∧ st.WarmedH t.vm ∧ st.sameButNew ({ t with vm := st.vm } : State) L mc ms ∧ ∀ z ∈ L, free z.base
def vx_Q (Qc : Array Value → State → Outcome → State → Prop) (XC : String → State → State → Prop) (mc ms : Nat) (free : Addr → Prop) : Array Value → State → Outcome → State → Prop := fun a st o t =>
  (Qc a st o t ∧ ∃ L, FrameEnd st o t L mc ms ∧ ∀ q ∈ L, free q.base) ∨ ∃ q, o = .threw q ∧ vx_T XC st q t mc ms free
/-- a callee that returns or throws -/
def vx_Met (l : Launch) (y : MethodName) (ws : List Cond) (rm : Room) (Pc : Array Value → State → Prop) (Qc : Array Value → State → Outcome → State → Prop) (XC : String → State → State → Prop) (mc ms : Nat) (free : Addr → Prop) : Prop :=
  MetFree l y (headSpec ws rm) Pc (fun _ _ _ _ _ => True) (vx_Q Qc XC mc ms free)
def vx_Post (XC : String → State → State → Prop) (mc ms : Nat) (free : Addr → Prop) : Pt → Array Value → Addr → Pt → Prop := fun A a q B =>
  ∃ (g : JFrame) (mk : MethodId) (t : State) (L : List Loc) (E : String) (ce : Cell), B.U.heap = t.heap ∧ B.U.vm = t.vm ∧ XC E (A.U.calling g mk a) t ∧ t.heap[q]? = some ce ∧ ce.vm = .none ∧ A.U.vm.findClass E = some ce.cls ∧ B.locs = A.locs ++ L ∧ (∀ z ∈ L, free z.base) ∧ B.cells = A.cells + mc ∧ B.slots = A.slots + ms
def vx_Back (l : Launch) (R : Room) (p : Program) (e : Env) (below : List Frame) (s : State) (sargs : Array Value) (y : MethodName) (len W9 : Nat)
    (Pre : Pt → Array Value → Prop) (Post : Pt → Array Value → Option Value → Pt → Prop) (PostX : Pt → Array Value → Addr → Pt → Prop) : Prop :=
  ∀ (m : MethodId) (meth : Method) (c : Code) (A : Pt) (g : JFrame) (ig : Instr) (mk : MethodId) (a : Array Value),
    Stand p l e R s m sargs below meth c A.U A.locs A.cells A.slots → g.method = m → g.locals.size = c.maxLocals → decode c.code g.pc = .ok (ig, len) →
    2 * g.monitorRoom + (g.stack.map fun v => v.category).sum ≤ W9 → A.U.methodNamed? y = some mk → Pre A a →
    (∃ (v : Option Value) (B : Pt), Stand p l e R s m sargs below meth c B.U B.locs B.cells B.slots ∧ Post A a v B ∧
      Steps p.tables e below (doInvoke e (A.U.setTop g) [] mk a).1 (B.U.setTop { g with pc := g.pc + len, stack := v.toList ++ g.stack })) ∨
    (∃ (q : Addr) (B : Pt), Stand p l e R s m sargs below meth c B.U B.locs B.cells B.slots ∧ PostX A a q B ∧
      Steps p.tables e below (doInvoke e (A.U.setTop g) [] mk a).1 ((B.U.setTop g).pushFrame (.throwing q)))
section Payer
variable {l : Launch} {R : Room} {p : Program} {e : Env} {below : List Frame} {s : State} {sargs : Array Value} {y : MethodName} {len W9 : Nat}
theorem vx_back {ws : List Cond} {rm : Room} {Pc : Array Value → State → Prop} {Qc : Array Value → State → Outcome → State → Prop} {XC : String → State → State → Prop} {mc ms : Nat} {free : Addr → Prop} {bytes : ByteArray} {maxL : Nat} {ret : Option FieldType}
    (hM : vx_Met l y ws rm Pc Qc XC mc ms free) (hblind : FrameBlind Pc) (hrc : rm.cells = mc) (hrs : rm.slots = ms)
    (hframes : rm.frames + 1 ≤ R.frames) (hlocals : W9 + (maxL + 11) + rm.locals ≤ R.locals)
    (hws : ∀ w ∈ ws, ∀ a' U, s.WarmedH U.vm → w.before a' U = true) (hcode : Cond.code y bytes maxL ret ∈ ws) (hinit : ∀ a' U, s.WarmedH U.vm → (Cond.initialized y.cls).before a' U = true) :
    vx_Back l R p e below s sargs y len W9 (PreOf R mc ms Pc) (PostOf Qc mc ms free) (vx_Post XC mc ms free) := by
  intro m meth c A g ig mk a X hg hsize hdg hW hn hp
  have h1 : (headSpec ws rm).pre.before a A.U = true := atoms_intro fun w hw => hws w hw _ _ X.warmed
  have h2 : (Cond.code y bytes maxL ret).before a A.U = true := hws _ hcode _ _ X.warmed
  have h3 : (Cond.initialized y.cls).before a A.U = true := hinit _ _ X.warmed
  have h4 : A.cells + (headSpec ws rm).room.cells ≤ R.cells := by rw [show (headSpec ws rm).room.cells = mc from hrc]; exact hp.1
  have h5 : A.slots + (headSpec ws rm).room.slots ≤ R.slots := by rw [show (headSpec ws rm).room.slots = ms from hrs]; exact hp.2.1
  have hPc : Pc a (A.U.calling g mk a) := hblind _ _ _ _ hp.2.2
  obtain ⟨U, Ls, c0, s0⟩ := A
  dsimp only [Pt.U, Pt.locs, Pt.cells, Pt.slots] at h1 h2 h3 h4 h5 X hn hPc ⊢
  obtain ⟨methY, cY, hmY, hcY, -, hlY, -, -, -, -⟩ := Cond.code_spec hn h2
  obtain ⟨kY, hkY, -⟩ := className_of_methodNamed hn
  have hinitY : kY.init = .initialized := Cond.initialized_spec (findClass_of_methodNamed hn) hkY h3
  have h : At U g.method c below := by rw [hg]; exact X.here
  have hlocals9 : W9 + (maxL + 11) + (headSpec ws rm).room.locals ≤ R.locals := hlocals
  have happ : (headSpec ws rm).appliesLoose y e.platform (U.calling g mk a) = true :=
    Spec.appliesLoose_calling (g := g) h hdg hn hkY hinitY
      (X.room_calling (g := g) (R' := (headSpec ws rm).room) hsize hmY hcY hframes (by rw [hlY]; omega) h4 h5) h1
  obtain ⟨mid, hmid⟩ := h.above
  have hfr : (U.setTop g).frames = (.java g :: mid) ++ below := by rw [State.frames_setTop' g h.top, hmid]; rfl
  obtain ⟨o, s₂, hsteps, -, hend, hq⟩ := Steps.callFree hM p X.admits X.cas X.clock (acts := []) hfr happ hPc trivial
  have hq' : vx_Q Qc XC mc ms free a (U.calling g mk a) o s₂ := hq
  rw [State.frames_setTop' g h.top] at hend
  obtain ⟨g₀, hg0⟩ := Option.isSome_iff_exists.mp h.top
  obtain ⟨r, hr⟩ := State.topJava?_eq_some.mp hg0
  have hr' : (({ U with heap := s₂.heap, slotsUsed := s₂.slotsUsed } : State).setVm s₂.vm).frames = .java g₀ :: r := hr
  rcases hq' with ⟨hqc, L, hfe, hL⟩ | ⟨q, rfl, E, ce, L, hx, hce, hcv, hcl, hW₂, hsm, hL⟩
  · obtain ⟨⟨v, rfl⟩, hW₂, e2, q2, q3, q4, q5, q6⟩ := id hfe
    have e3 : s₂ = ({ (U.calling g mk a).setFrames s₂.frames with heap := s₂.heap, slotsUsed := s₂.slotsUsed } : State).setVm s₂.vm := by
      have : s₂ = ({ s₂ with vm := (U.calling g mk a).vm } : State).setVm s₂.vm := rfl
      rw [e2] at this
      exact this
    obtain ⟨c₂, i₂, len₂, hc₂, hd₂, hf₂⟩ := hend
    have hW' : U.WarmedH s₂.vm := hW₂
    have hcc : c₂ = c := by
      have h1 : s₂.code? g.method = U.code? g.method := by
        rw [State.code?_eq, State.code?_eq, hW'.alike.method?]
      exact Option.some.inj (hc₂.symm.trans (h1.trans h.code))
    subst hcc
    have hlen : len₂ = len := by rw [hdg] at hd₂; cases hd₂; rfl
    subst hlen
    have hs₂ : s₂ = (({ U with heap := s₂.heap, slotsUsed := s₂.slotsUsed } : State).setVm s₂.vm).setTop { g with pc := g.pc + len₂, stack := v.toList ++ g.stack } := by
      refine e3.trans ?_
      rw [hf₂, State.calling_eq h.top, State.setFrames_setFrames, State.setTop_of_frames _ hr', hr]
      rfl
    have hsame : U.sameButNew ({ U with heap := s₂.heap, slotsUsed := s₂.slotsUsed } : State) L mc ms := by
      refine ⟨?_, q2, q3, q4, q5, q6⟩
      obtain ⟨t, ht, -⟩ := State.frames_cons hr
      show ({ U with heap := s₂.heap, slotsUsed := s₂.slotsUsed } : State) = { U.setFrames U.frames with heap := s₂.heap, slotsUsed := s₂.slotsUsed }
      rw [State.setFrames_self ht]
    subst hg
    refine Or.inl ⟨v, ⟨(({ U with heap := s₂.heap, slotsUsed := s₂.slotsUsed } : State).setVm s₂.vm), Ls ++ L, c0 + mc, s0 + ms⟩,
      ⟨X.admits, X.cas, X.clock, X.frames, X.room, X.hears, X.method, X.code, (X.here.setHeapUsed s₂.heap s₂.slotsUsed).setVm hW'.alike, X.tail, State.WarmedH.trans X.warmed hW', X.limits, X.bytes, X.same.trans (hsame.setVm s.vm)⟩,
      ⟨g, mk, s₂, L, rfl, rfl, hqc, rfl, hL, rfl, rfl⟩, ?_⟩
    show Steps p.tables e below _ ((({ U with heap := s₂.heap, slotsUsed := s₂.slotsUsed } : State).setVm s₂.vm).setTop { g with pc := g.pc + len₂, stack := v.toList ++ g.stack })
    rw [← hs₂]
    exact hsteps
  · obtain ⟨e2, q2, q3, q4, q5, q6⟩ := id hsm
    have e3 : s₂ = ({ (U.calling g mk a).setFrames s₂.frames with heap := s₂.heap, slotsUsed := s₂.slotsUsed } : State).setVm s₂.vm := by
      have : s₂ = ({ s₂ with vm := (U.calling g mk a).vm } : State).setVm s₂.vm := rfl
      rw [e2] at this
      exact this
    have hf₂ : s₂.frames = .throwing q :: .java g :: U.frames.tail := hend
    have hW' : U.WarmedH s₂.vm := hW₂
    have hs₂ : s₂ = ((({ U with heap := s₂.heap, slotsUsed := s₂.slotsUsed } : State).setVm s₂.vm).setTop g).pushFrame (.throwing q) := by
      refine e3.trans ?_
      rw [hf₂, State.calling_eq h.top, State.setFrames_setFrames, State.pushFrame, State.frames_setTop _ hr', State.setTop_of_frames _ hr', State.setFrames_setFrames, hr]
      rfl
    have hsame : U.sameButNew ({ U with heap := s₂.heap, slotsUsed := s₂.slotsUsed } : State) L mc ms := by
      refine ⟨?_, q2, q3, q4, q5, q6⟩
      obtain ⟨t, ht, -⟩ := State.frames_cons hr
      show ({ U with heap := s₂.heap, slotsUsed := s₂.slotsUsed } : State) = { U.setFrames U.frames with heap := s₂.heap, slotsUsed := s₂.slotsUsed }
      rw [State.setFrames_self ht]
    subst hg
    refine Or.inr ⟨q, ⟨(({ U with heap := s₂.heap, slotsUsed := s₂.slotsUsed } : State).setVm s₂.vm), Ls ++ L, c0 + mc, s0 + ms⟩,
      ⟨X.admits, X.cas, X.clock, X.frames, X.room, X.hears, X.method, X.code, (X.here.setHeapUsed s₂.heap s₂.slotsUsed).setVm hW'.alike, X.tail, State.WarmedH.trans X.warmed hW', X.limits, X.bytes, X.same.trans (hsame.setVm s.vm)⟩,
      ⟨g, mk, s₂, L, E, ce, rfl, rfl, hx, hce, hcv, hcl, rfl, hL, rfl, rfl⟩, ?_⟩
    show Steps p.tables e below _ (((({ U with heap := s₂.heap, slotsUsed := s₂.slotsUsed } : State).setVm s₂.vm).setTop g).pushFrame (.throwing q))
    rw [← hs₂]
    exact hsteps
end Payer
section Calls
variable {p : Program} {l : Launch} {e : Env} {R : Room} {s : State} {m : MethodId} {args : Array Value} {below : List Frame} {meth : Method} {c : Code} {T : State} {locs : List Loc} {cells slots : Nat}
theorem vx_callV (X : Stand p l e R s m args below meth c T locs cells slots) (hexec : p.tables.exec = Jvm.exec) {own C : String} {index : Nat} {y : MethodName} {bytes : ByteArray} {maxL : Nat} {ret : Option FieldType}
    (hown : s.vm.findClass own = some m.cls) (hlink : (Cond.methodLink own index y).before args s = true) (hinst : (Cond.instanceMethod y).before args s = true) (hsel : (Cond.selects C y y).before args s = true)
    (hcode : (Cond.code y bytes maxL ret).before args s = true) (hy : y.cls ≠ "java/lang/invoke/MethodHandle" ∧ y.cls ≠ "java/lang/invoke/VarHandle")
    {W9 : Nat} {Pre : Pt → Array Value → Prop} {Post : Pt → Array Value → Option Value → Pt → Prop} {PostX : Pt → Array Value → Addr → Pt → Prop} (hK : vx_Back l R p e below s args y 3 W9 Pre Post PostX)
    {b : Addr} {cellB : Cell} (hcell : T.heap[b]? = some cellB) (hobj : cellB.vm.isStatics = false) (hcls : s.vm.findClass C = some cellB.cls)
    {g : JFrame} (hg : g.method = m) (hsize : g.locals.size = c.maxLocals) {argsL rest : List Value} (hlen : ∀ sig, parseMethodDescriptor y.desc = some sig → argsL.length = sig.parameters.length)
    (hstack : g.stack = argsL.reverse ++ .ref b :: rest) (hW : 2 * g.monitorRoom + (rest.map fun v => v.category).sum ≤ W9) (hdg : decode c.code g.pc = .ok (.invokevirtual index, 3))
    (hpre : ∀ vm₁, s.WarmedH vm₁ → Pre ⟨T.setVm vm₁, locs, cells, slots⟩ (Value.ref b :: argsL).toArray) :
    (∃ (v : Option Value) (vm₁ : Vm) (B : Pt), s.WarmedH vm₁ ∧ Stand p l e R s m args below meth c B.U B.locs B.cells B.slots ∧ Post ⟨T.setVm vm₁, locs, cells, slots⟩ (Value.ref b :: argsL).toArray v B ∧
      ∀ target, Steps p.tables e below (B.U.setTop { g with pc := g.pc + 3, stack := v.toList ++ rest }) target → Steps p.tables e below (T.setTop g) target) ∨
    (∃ (q : Addr) (vm₁ : Vm) (B : Pt), s.WarmedH vm₁ ∧ Stand p l e R s m args below meth c B.U B.locs B.cells B.slots ∧ PostX ⟨T.setVm vm₁, locs, cells, slots⟩ (Value.ref b :: argsL).toArray q B ∧
      Steps p.tables e below (T.setTop g) ((B.U.setTop { g with stack := rest }).pushFrame (.throwing q))) := by
  obtain ⟨mk, methM, hnamed, hmethM, hstM, habM⟩ := Cond.instanceMethod_spec hinst
  obtain ⟨methM', cM, hmethM', -, -, -, -, -, -, hsigM⟩ := Cond.code_spec hnamed hcode
  cases hmethM.symm.trans hmethM'
  obtain ⟨c2, r2, m2, q1, q2, q3, q4, kP, hkP, hkPi⟩ := Cond.selects_spec hsel
  cases hcls.symm.trans q1
  cases (State.methodFound?_of_named hnamed hy).symm.trans q2
  cases hnamed.symm.trans q3
  have hselP : selectMethod e.platform s.vm cellB.cls mk = .method mk := by rw [Launch.admits_selectMethod X.admits]; exact q4
  obtain ⟨vm₁, X₁, hstep₁⟩ := X.invokevirtual hexec hown hlink hnamed hmethM hstM hkP hkPi hy (a := b) (cell := cellB) hcell
    (fun z h => by rw [h] at hobj; cases hobj) hselP hmethM habM hkP hkPi (g := g) hg (argsL := argsL) (rest := rest) (hlen _ hsigM) hstack hdg
  rcases hK m meth c ⟨T.setVm vm₁, locs, cells, slots⟩ { g with stack := rest } (.invokevirtual index) mk (Value.ref b :: argsL).toArray X₁ hg hsize hdg hW (X₁.named hnamed) (hpre vm₁ X₁.warmed) with ⟨v, B, X', hpost, hsteps⟩ | ⟨q, B, X', hpost, hsteps⟩
  · exact Or.inl ⟨v, vm₁, B, X₁.warmed, X', hpost, fun target h => hstep₁ _ fun acts => by rw [doInvoke_state]; exact hsteps.trans h⟩
  · exact Or.inr ⟨q, vm₁, B, X₁.warmed, X', hpost, hstep₁ _ fun acts => by rw [doInvoke_state]; exact hsteps⟩
theorem vx_callS (X : Stand p l e R s m args below meth c T locs cells slots) (hexec : p.tables.exec = Jvm.exec) {own : String} {index : Nat} {y : MethodName} {bytes : ByteArray} {maxL : Nat} {ret : Option FieldType}
    (hown : s.vm.findClass own = some m.cls) (hlink : (Cond.methodLink own index y).before args s = true) (hstat : (Cond.static y).before args s = true) (hinit : (Cond.initialized y.cls).before args s = true)
    (hcode : (Cond.code y bytes maxL ret).before args s = true) (hy : y.cls ≠ "java/lang/invoke/MethodHandle" ∧ y.cls ≠ "java/lang/invoke/VarHandle")
    {W9 : Nat} {Pre : Pt → Array Value → Prop} {Post : Pt → Array Value → Option Value → Pt → Prop} {PostX : Pt → Array Value → Addr → Pt → Prop} (hK : vx_Back l R p e below s args y 3 W9 Pre Post PostX)
    {g : JFrame} (hg : g.method = m) (hsize : g.locals.size = c.maxLocals) {argsL rest : List Value} (hlen : ∀ sig, parseMethodDescriptor y.desc = some sig → argsL.length = sig.parameters.length)
    (hstack : g.stack = argsL.reverse ++ rest) (hW : 2 * g.monitorRoom + (rest.map fun v => v.category).sum ≤ W9) (hdg : decode c.code g.pc = .ok (.invokestatic index, 3))
    (hpre : ∀ vm₁, s.WarmedH vm₁ → Pre ⟨T.setVm vm₁, locs, cells, slots⟩ argsL.toArray) :
    (∃ (v : Option Value) (vm₁ : Vm) (B : Pt), s.WarmedH vm₁ ∧ Stand p l e R s m args below meth c B.U B.locs B.cells B.slots ∧ Post ⟨T.setVm vm₁, locs, cells, slots⟩ argsL.toArray v B ∧
      ∀ target, Steps p.tables e below (B.U.setTop { g with pc := g.pc + 3, stack := v.toList ++ rest }) target → Steps p.tables e below (T.setTop g) target) ∨
    (∃ (q : Addr) (vm₁ : Vm) (B : Pt), s.WarmedH vm₁ ∧ Stand p l e R s m args below meth c B.U B.locs B.cells B.slots ∧ PostX ⟨T.setVm vm₁, locs, cells, slots⟩ argsL.toArray q B ∧
      Steps p.tables e below (T.setTop g) ((B.U.setTop { g with stack := rest }).pushFrame (.throwing q))) := by
  obtain ⟨mk, hnamed⟩ := Cond.code_named hcode
  obtain ⟨methM, cM, hmethM, -, -, -, -, -, -, hsigM⟩ := Cond.code_spec hnamed hcode
  have hstatic : methM.isStatic = true := Cond.static_spec hnamed hmethM hstat
  obtain ⟨kP, hkP, -⟩ := className_of_methodNamed hnamed
  have hinitP : kP.init = .initialized := Cond.initialized_spec (findClass_of_methodNamed hnamed) hkP hinit
  obtain ⟨vm₁, X₁, hstep₁⟩ := X.invokestatic hexec hown hlink hnamed hmethM hstatic hkP hinitP hy (g := g) hg (argsL := argsL) (rest := rest) (hlen _ hsigM) hstack hdg
  rcases hK m meth c ⟨T.setVm vm₁, locs, cells, slots⟩ { g with stack := rest } (.invokestatic index) mk argsL.toArray X₁ hg hsize hdg hW (X₁.named hnamed) (hpre vm₁ X₁.warmed) with ⟨v, B, X', hpost, hsteps⟩ | ⟨q, B, X', hpost, hsteps⟩
  · exact Or.inl ⟨v, vm₁, B, X₁.warmed, X', hpost, fun target h => hstep₁ _ fun acts => by rw [doInvoke_state]; exact hsteps.trans h⟩
  · exact Or.inr ⟨q, vm₁, B, X₁.warmed, X', hpost, hstep₁ _ fun acts => by rw [doInvoke_state]; exact hsteps⟩
end Calls
theorem vx_cls {s : State} {T : State} {vm₁ : Vm} {E : String} {k : ClassId} (hW : s.WarmedH vm₁) (h : (T.setVm vm₁).vm.findClass E = some k) : s.vm.findClass E = some k := by
  have h1 : vm₁.findClass E = some k := h
  rw [hW.alike.findClass] at h1
  exact h1
/-- the method's frame g, with q thrown over it -/
def vx_W (p : Program) (l : Launch) (e : Env) (R : Room) (s : State) (m : MethodId) (args : Array Value) (below : List Frame) (meth : Method) (c : Code) (H : Heap) (locs : List Loc) (cells slots : Nat) (Q : State → Prop) (g : JFrame) (q : Addr) : Prop :=
  ∀ T : State, T.heap = H → Stand p l e R s m args below meth c T locs cells slots → ∃ t, Steps p.tables e below ((T.setTop g).pushFrame (.throwing q)) t ∧ Q t
def vx_Run (p : Program) (l : Launch) (e : Env) (R : Room) (s : State) (m : MethodId) (args : Array Value) (below : List Frame) (meth : Method) (c : Code) (H : Heap) (locs : List Loc) (cells slots mc ms : Nat) (g : JFrame) (rest : List Value) (Qa : State → Outcome → State → Prop) (XC : String → State → State → Prop) (free : Addr → Prop) : Prop :=
  ∀ T : State, T.heap = H → Stand p l e R s m args below meth c T locs cells slots →
    (∃ (v : Option Value) (st₀ t T' : State) (L : List Loc), st₀.heap = H ∧ Stand p l e R s m args below meth c T' (locs ++ L) (cells + mc) (slots + ms) ∧ (∀ q ∈ L, free q.base) ∧ T'.heap = t.heap ∧ T'.vm = t.vm ∧ Qa st₀ (.returned v) t ∧
      Goes p e below T g T' { g with pc := g.pc + 3, stack := v.toList ++ rest }) ∨
    (∃ (q : Addr) (st₀ t T' : State) (L : List Loc) (E : String) (ce : Cell), st₀.heap = H ∧ Stand p l e R s m args below meth c T' (locs ++ L) (cells + mc) (slots + ms) ∧ (∀ z ∈ L, free z.base) ∧ T'.heap = t.heap ∧ T'.vm = t.vm ∧ XC E st₀ t ∧ t.heap[q]? = some ce ∧ ce.vm = .none ∧ s.vm.findClass E = some ce.cls ∧
      Steps p.tables e below (T.setTop g) ((T'.setTop { g with stack := rest }).pushFrame (.throwing q)))
def vx_X {S : Type} (px : S → Prop) (B : String → S → State → Prop) (A : Nat → Prop) : String → State → State → Prop := fun E st t => ∃ u : S, px u ∧ B E u t ∧ va_F A st t
section Runs
variable {p : Program} {l : Launch} {e : Env} {R : Room} {s : State} {m : MethodId} {args : Array Value} {below : List Frame} {meth : Method} {c : Code} {H : Heap} {locs : List Loc} {cells slots : Nat}
variable {y : MethodName} {bytes cc : ByteArray} {maxL nL mc ms n index : Nat} {ret : Option FieldType} {ws : List Cond} {rm : Room} {Pc : Array Value → State → Prop} {Qc : Array Value → State → Outcome → State → Prop} {XC : String → State → State → Prop} {free : Addr → Prop} {Ts : List Cond} {own C : String} {b : Addr} {As rest : List Value} {g : JFrame}
theorem vx_callBack (cb : CallB R s args own index y bytes maxL ret ws rm mc ms n) (hM : vx_Met l y ws rm Pc Qc XC mc ms free) (hbl : FrameBlind Pc) : vx_Back l R p e below s args y 3 8 (PreOf R mc ms Pc) (PostOf Qc mc ms free) (vx_Post XC mc ms free) := by
  obtain ⟨hrc, hrs, hfr, hlo, hws, hcw, -, hini, -⟩ := cb
  exact vx_back (bytes := bytes) (maxL := maxL) (ret := ret) hM hbl hrc hrs hfr hlo hws hcw (fun a' U hW => word_at hW (Or.inl (by first | rfl | simp [Cond.onTables, Cond.keeps, Cond.steady])) hini)
theorem vx_runV (S : CallFix p m c cc nL s args Ts own) (hM : vx_Met l y ws rm Pc Qc XC mc ms free) (cw : CallW R s args own C index y bytes maxL ret ws rm mc ms n) (hp : PreV s H C b Pc As)
    (hg : g.method = m) (hn : As.length = n) (hsize : g.locals.size = nL) (hstack : g.stack = As.reverse ++ .ref b :: rest) (hW : 2 * g.monitorRoom + (rest.map fun v => v.category).sum ≤ 8) (hdg : decode cc g.pc = .ok (.invokevirtual index, 3)) (hf : cells + mc ≤ R.cells ∧ slots + ms ≤ R.slots) :
    vx_Run p l e R s m args below meth c H locs cells slots mc ms g rest (Qc (Value.ref b :: As).toArray) XC free := by
  have hK : vx_Back l R p e below s args y 3 8 (PreOf R mc ms Pc) (PostOf Qc mc ms free) (vx_Post XC mc ms free) := vx_callBack cw.1 hM hp.1
  obtain ⟨⟨-, -, -, -, -, -, hcode, -, hy, hlen, hl⟩, hin, hse⟩ := cw
  obtain ⟨hx, hb, hml, ho, -⟩ := S
  obtain ⟨-, ⟨cellB, hcB, hoB, hclB⟩, hPc⟩ := hp
  intro T hT X
  rcases vx_callV X hx (C := C) (bytes := bytes) (maxL := maxL) (ret := ret) ho hl hin hse hcode hy hK (by rw [hT]; exact hcB) hoB hclB hg (hsize.trans hml.symm) (argsL := As) (rest := rest) (fun sig h => hn.trans (hlen sig h)) hstack hW (by rw [hb]; exact hdg)
    (fun vm₁ hW₁ => ⟨hf.1, hf.2, hPc (T.setVm vm₁) hT hW₁⟩) with ⟨v, vm₁, ⟨U', l2, c2, s2⟩, hW₁, X', ⟨g', mk, t, L, e1, e2, hq, h1, hL, h2, h3⟩, st⟩ | ⟨q, vm₁, ⟨U', l2, c2, s2⟩, hW₁, X', ⟨g', mk, t, L, E, ce, e1, e2, hq, hce, hcv, hcl, h1, hL, h2, h3⟩, st⟩
  · dsimp only [Pt.U, Pt.locs, Pt.cells, Pt.slots] at X' e1 e2 h1 h2 h3 st
    subst h1; subst h2; subst h3
    exact Or.inl ⟨v, (T.setVm vm₁).calling g' mk (Value.ref b :: As).toArray, t, U', L, hT, X', hL, e1, e2, hq, st⟩
  · dsimp only [Pt.U, Pt.locs, Pt.cells, Pt.slots] at X' e1 e2 h1 h2 h3 st hcl
    subst h1; subst h2; subst h3
    exact Or.inr ⟨q, (T.setVm vm₁).calling g' mk (Value.ref b :: As).toArray, t, U', L, E, ce, hT, X', hL, e1, e2, hq, hce, hcv, vx_cls hW₁ hcl, st⟩
theorem vx_runS (S : CallFix p m c cc nL s args Ts own) (hM : vx_Met l y ws rm Pc Qc XC mc ms free) (cw : CallB R s args own index y bytes maxL ret ws rm mc ms n ∧ (Cond.static y).before args s = true) (hp : PreS s H Pc As)
    (hg : g.method = m) (hn : As.length = n) (hsize : g.locals.size = nL) (hstack : g.stack = As.reverse ++ rest) (hW : 2 * g.monitorRoom + (rest.map fun v => v.category).sum ≤ 8) (hdg : decode cc g.pc = .ok (.invokestatic index, 3)) (hf : cells + mc ≤ R.cells ∧ slots + ms ≤ R.slots) :
    vx_Run p l e R s m args below meth c H locs cells slots mc ms g rest (Qc As.toArray) XC free := by
  have hK : vx_Back l R p e below s args y 3 8 (PreOf R mc ms Pc) (PostOf Qc mc ms free) (vx_Post XC mc ms free) := vx_callBack cw.1 hM hp.1
  obtain ⟨⟨-, -, -, -, -, -, hcode, hini, hy, hlen, hl⟩, hstt⟩ := cw
  obtain ⟨hx, hb, hml, ho, -⟩ := S
  intro T hT X
  rcases vx_callS X hx (bytes := bytes) (maxL := maxL) (ret := ret) ho hl hstt hini hcode hy hK hg (hsize.trans hml.symm) (argsL := As) (rest := rest) (fun sig h => hn.trans (hlen sig h)) hstack hW (by rw [hb]; exact hdg)
    (fun vm₁ hW₁ => ⟨hf.1, hf.2, hp.2 (T.setVm vm₁) hT hW₁⟩) with ⟨v, vm₁, ⟨U', l2, c2, s2⟩, hW₁, X', ⟨g', mk, t, L, e1, e2, hq, h1, hL, h2, h3⟩, st⟩ | ⟨q, vm₁, ⟨U', l2, c2, s2⟩, hW₁, X', ⟨g', mk, t, L, E, ce, e1, e2, hq, hce, hcv, hcl, h1, hL, h2, h3⟩, st⟩
  · dsimp only [Pt.U, Pt.locs, Pt.cells, Pt.slots] at X' e1 e2 h1 h2 h3 st
    subst h1; subst h2; subst h3
    exact Or.inl ⟨v, (T.setVm vm₁).calling g' mk As.toArray, t, U', L, hT, X', hL, e1, e2, hq, st⟩
  · dsimp only [Pt.U, Pt.locs, Pt.cells, Pt.slots] at X' e1 e2 h1 h2 h3 st hcl
    subst h1; subst h2; subst h3
    exact Or.inr ⟨q, (T.setVm vm₁).calling g' mk As.toArray, t, U', L, E, ce, hT, X', hL, e1, e2, hq, hce, hcv, vx_cls hW₁ hcl, st⟩
end Runs
section Rows
variable {p : Program} {l : Launch} {e : Env} {R : Room} {s : State} {m : MethodId} {args : Array Value} {below : List Frame} {meth : Method} {c : Code} {H : Heap} {locs : List Loc} {cells slots : Nat} {Q : State → Prop}
variable {mc ms : Nat} {free : Addr → Prop} {A0 A1 : Nat → Prop} {H0 : Heap} {a : Array Value} {pc : Nat} {ls : Array Slot} {st0 rest : List Value}
theorem vx_keep {st₀ t T' : State} {L : List Loc} (h0 : st₀.heap = H) (e1 : T'.heap = t.heap) (hS : va_S A0 H0 H locs) (hA : ∀ q, q < H.size → A1 q → A0 q) (hf : ∀ q, free q → A0 q) (hL : ∀ q ∈ L, free q.base) (hF : va_F A1 st₀ t) :
    H.size ≤ T'.heap.size ∧ (∀ q : Nat, q < H.size → ¬ A1 q → T'.heap[q]? = H[q]?) ∧ va_S A0 H0 T'.heap (locs ++ L) := by
  obtain ⟨hz, hk⟩ := hF
  rw [h0] at hz hk
  exact ⟨by rw [e1]; exact hz, fun q h1 h2 => by rw [e1]; exact hk q h1 h2,
    ⟨Nat.le_trans hS.1 (by rw [e1]; exact hz), fun q h1 h2 => by rw [e1, hk q (Nat.lt_of_lt_of_le h1 hS.1) (fun z => h2 (hA q (Nat.lt_of_lt_of_le h1 hS.1) z))]; exact hS.2.1 q h1 h2, fun q hq => by
      rcases List.mem_append.mp hq with h | h
      · exact hS.2.2 q h
      · exact hf _ (hL q h)⟩⟩
theorem vx_calli {S SX : Type} {post : Int32 → S → Prop} {px : SX → Prop} {B : S → State → Prop} {BX : String → SX → State → Prop} {AX : Nat → Prop} (hr : vx_Run p l e R s m args below meth c H locs cells slots mc ms (F0 m pc ls st0) rest (va_Qi post B A1 a) (vx_X px BX AX) free) (hS : va_S A0 H0 H locs) (hA : ∀ q, q < H.size → A1 q → A0 q) (hf : ∀ q, free q → A0 q) (hAX : ∀ q, q < H.size → AX q → A0 q)
    (kx : ∀ (E : String) (ce : Cell) (q9 : Addr) (u : SX) (t : State) (H1 : Heap) (locs1 : List Loc), t.heap = H1 → s.vm.Alike t.vm → px u → BX E u t → H.size ≤ H1.size → (∀ q : Nat, q < H.size → ¬ AX q → H1[q]? = H[q]?) → va_S A0 H0 H1 locs1 → H1[q9]? = some ce → ce.vm = .none → s.vm.findClass E = some ce.cls → vx_W p l e R s m args below meth c H1 locs1 (cells + mc) (slots + ms) Q (F0 m pc ls rest) q9)
    (kk : ∀ (r : Int32) (u : S) (t : State) (H1 : Heap) (locs1 : List Loc), t.heap = H1 → s.vm.Alike t.vm → post r u → B u t → H.size ≤ H1.size → (∀ q : Nat, q < H.size → ¬ A1 q → H1[q]? = H[q]?) → va_S A0 H0 H1 locs1 → W p l e R s m args below meth c H1 locs1 (cells + mc) (slots + ms) Q (F0 m (pc + 3) ls (.int r :: rest))) : W p l e R s m args below meth c H locs cells slots Q (F0 m pc ls st0) := by
  intro T hT X
  rcases hr T hT X with ⟨v, st₀, t, T', L, h0, X', hL, e1, e2, ⟨⟨r, u, hv, hp, hb⟩, hF⟩, st⟩ | ⟨q, st₀, t, T', L, E, ce, h0, X', hL, e1, e2, ⟨u, hp, hb, hF⟩, hce, hcv, hcl, st⟩
  · cases hv
    obtain ⟨k1, k2, k3⟩ := vx_keep h0 e1 hS hA hf hL hF
    obtain ⟨t2, a1, b1⟩ := kk r u t T'.heap (locs ++ L) e1.symm (by rw [← e2]; exact X'.warmed.alike) hp hb k1 k2 k3 T' rfl X'
    exact ⟨t2, st t2 a1, b1⟩
  · obtain ⟨k1, k2, k3⟩ := vx_keep h0 e1 hS hAX hf hL hF
    obtain ⟨t2, a1, b1⟩ := kx E ce q u t T'.heap (locs ++ L) e1.symm (by rw [← e2]; exact X'.warmed.alike) hp hb k1 k2 k3 (by rw [e1]; exact hce) hcv hcl T' rfl X'
    exact ⟨t2, st.trans a1, b1⟩
theorem vx_calll {S SX : Type} {post : Int64 → S → Prop} {px : SX → Prop} {B : S → State → Prop} {BX : String → SX → State → Prop} {AX : Nat → Prop} (hr : vx_Run p l e R s m args below meth c H locs cells slots mc ms (F0 m pc ls st0) rest (va_Ql post B A1 a) (vx_X px BX AX) free) (hS : va_S A0 H0 H locs) (hA : ∀ q, q < H.size → A1 q → A0 q) (hf : ∀ q, free q → A0 q) (hAX : ∀ q, q < H.size → AX q → A0 q)
    (kx : ∀ (E : String) (ce : Cell) (q9 : Addr) (u : SX) (t : State) (H1 : Heap) (locs1 : List Loc), t.heap = H1 → s.vm.Alike t.vm → px u → BX E u t → H.size ≤ H1.size → (∀ q : Nat, q < H.size → ¬ AX q → H1[q]? = H[q]?) → va_S A0 H0 H1 locs1 → H1[q9]? = some ce → ce.vm = .none → s.vm.findClass E = some ce.cls → vx_W p l e R s m args below meth c H1 locs1 (cells + mc) (slots + ms) Q (F0 m pc ls rest) q9)
    (kk : ∀ (r : Int64) (u : S) (t : State) (H1 : Heap) (locs1 : List Loc), t.heap = H1 → s.vm.Alike t.vm → post r u → B u t → H.size ≤ H1.size → (∀ q : Nat, q < H.size → ¬ A1 q → H1[q]? = H[q]?) → va_S A0 H0 H1 locs1 → W p l e R s m args below meth c H1 locs1 (cells + mc) (slots + ms) Q (F0 m (pc + 3) ls (.long r :: rest))) : W p l e R s m args below meth c H locs cells slots Q (F0 m pc ls st0) := by
  intro T hT X
  rcases hr T hT X with ⟨v, st₀, t, T', L, h0, X', hL, e1, e2, ⟨⟨r, u, hv, hp, hb⟩, hF⟩, st⟩ | ⟨q, st₀, t, T', L, E, ce, h0, X', hL, e1, e2, ⟨u, hp, hb, hF⟩, hce, hcv, hcl, st⟩
  · cases hv
    obtain ⟨k1, k2, k3⟩ := vx_keep h0 e1 hS hA hf hL hF
    obtain ⟨t2, a1, b1⟩ := kk r u t T'.heap (locs ++ L) e1.symm (by rw [← e2]; exact X'.warmed.alike) hp hb k1 k2 k3 T' rfl X'
    exact ⟨t2, st t2 a1, b1⟩
  · obtain ⟨k1, k2, k3⟩ := vx_keep h0 e1 hS hAX hf hL hF
    obtain ⟨t2, a1, b1⟩ := kx E ce q u t T'.heap (locs ++ L) e1.symm (by rw [← e2]; exact X'.warmed.alike) hp hb k1 k2 k3 (by rw [e1]; exact hce) hcv hcl T' rfl X'
    exact ⟨t2, st.trans a1, b1⟩
theorem vx_callf {S SX : Type} {post : UInt32 → S → Prop} {px : SX → Prop} {B : S → State → Prop} {BX : String → SX → State → Prop} {AX : Nat → Prop} (hr : vx_Run p l e R s m args below meth c H locs cells slots mc ms (F0 m pc ls st0) rest (va_Qf post B A1 a) (vx_X px BX AX) free) (hS : va_S A0 H0 H locs) (hA : ∀ q, q < H.size → A1 q → A0 q) (hf : ∀ q, free q → A0 q) (hAX : ∀ q, q < H.size → AX q → A0 q)
    (kx : ∀ (E : String) (ce : Cell) (q9 : Addr) (u : SX) (t : State) (H1 : Heap) (locs1 : List Loc), t.heap = H1 → s.vm.Alike t.vm → px u → BX E u t → H.size ≤ H1.size → (∀ q : Nat, q < H.size → ¬ AX q → H1[q]? = H[q]?) → va_S A0 H0 H1 locs1 → H1[q9]? = some ce → ce.vm = .none → s.vm.findClass E = some ce.cls → vx_W p l e R s m args below meth c H1 locs1 (cells + mc) (slots + ms) Q (F0 m pc ls rest) q9)
    (kk : ∀ (r : UInt32) (u : S) (t : State) (H1 : Heap) (locs1 : List Loc), t.heap = H1 → s.vm.Alike t.vm → post r u → B u t → H.size ≤ H1.size → (∀ q : Nat, q < H.size → ¬ A1 q → H1[q]? = H[q]?) → va_S A0 H0 H1 locs1 → W p l e R s m args below meth c H1 locs1 (cells + mc) (slots + ms) Q (F0 m (pc + 3) ls (.float r :: rest))) : W p l e R s m args below meth c H locs cells slots Q (F0 m pc ls st0) := by
  intro T hT X
  rcases hr T hT X with ⟨v, st₀, t, T', L, h0, X', hL, e1, e2, ⟨⟨r, u, hv, hp, hb⟩, hF⟩, st⟩ | ⟨q, st₀, t, T', L, E, ce, h0, X', hL, e1, e2, ⟨u, hp, hb, hF⟩, hce, hcv, hcl, st⟩
  · cases hv
    obtain ⟨k1, k2, k3⟩ := vx_keep h0 e1 hS hA hf hL hF
    obtain ⟨t2, a1, b1⟩ := kk r u t T'.heap (locs ++ L) e1.symm (by rw [← e2]; exact X'.warmed.alike) hp hb k1 k2 k3 T' rfl X'
    exact ⟨t2, st t2 a1, b1⟩
  · obtain ⟨k1, k2, k3⟩ := vx_keep h0 e1 hS hAX hf hL hF
    obtain ⟨t2, a1, b1⟩ := kx E ce q u t T'.heap (locs ++ L) e1.symm (by rw [← e2]; exact X'.warmed.alike) hp hb k1 k2 k3 (by rw [e1]; exact hce) hcv hcl T' rfl X'
    exact ⟨t2, st.trans a1, b1⟩
theorem vx_calld {S SX : Type} {post : UInt64 → S → Prop} {px : SX → Prop} {B : S → State → Prop} {BX : String → SX → State → Prop} {AX : Nat → Prop} (hr : vx_Run p l e R s m args below meth c H locs cells slots mc ms (F0 m pc ls st0) rest (va_Qd post B A1 a) (vx_X px BX AX) free) (hS : va_S A0 H0 H locs) (hA : ∀ q, q < H.size → A1 q → A0 q) (hf : ∀ q, free q → A0 q) (hAX : ∀ q, q < H.size → AX q → A0 q)
    (kx : ∀ (E : String) (ce : Cell) (q9 : Addr) (u : SX) (t : State) (H1 : Heap) (locs1 : List Loc), t.heap = H1 → s.vm.Alike t.vm → px u → BX E u t → H.size ≤ H1.size → (∀ q : Nat, q < H.size → ¬ AX q → H1[q]? = H[q]?) → va_S A0 H0 H1 locs1 → H1[q9]? = some ce → ce.vm = .none → s.vm.findClass E = some ce.cls → vx_W p l e R s m args below meth c H1 locs1 (cells + mc) (slots + ms) Q (F0 m pc ls rest) q9)
    (kk : ∀ (r : UInt64) (u : S) (t : State) (H1 : Heap) (locs1 : List Loc), t.heap = H1 → s.vm.Alike t.vm → post r u → B u t → H.size ≤ H1.size → (∀ q : Nat, q < H.size → ¬ A1 q → H1[q]? = H[q]?) → va_S A0 H0 H1 locs1 → W p l e R s m args below meth c H1 locs1 (cells + mc) (slots + ms) Q (F0 m (pc + 3) ls (.double r :: rest))) : W p l e R s m args below meth c H locs cells slots Q (F0 m pc ls st0) := by
  intro T hT X
  rcases hr T hT X with ⟨v, st₀, t, T', L, h0, X', hL, e1, e2, ⟨⟨r, u, hv, hp, hb⟩, hF⟩, st⟩ | ⟨q, st₀, t, T', L, E, ce, h0, X', hL, e1, e2, ⟨u, hp, hb, hF⟩, hce, hcv, hcl, st⟩
  · cases hv
    obtain ⟨k1, k2, k3⟩ := vx_keep h0 e1 hS hA hf hL hF
    obtain ⟨t2, a1, b1⟩ := kk r u t T'.heap (locs ++ L) e1.symm (by rw [← e2]; exact X'.warmed.alike) hp hb k1 k2 k3 T' rfl X'
    exact ⟨t2, st t2 a1, b1⟩
  · obtain ⟨k1, k2, k3⟩ := vx_keep h0 e1 hS hAX hf hL hF
    obtain ⟨t2, a1, b1⟩ := kx E ce q u t T'.heap (locs ++ L) e1.symm (by rw [← e2]; exact X'.warmed.alike) hp hb k1 k2 k3 (by rw [e1]; exact hce) hcv hcl T' rfl X'
    exact ⟨t2, st.trans a1, b1⟩
theorem vx_callv {S SX : Type} {post : S → Prop} {px : SX → Prop} {B : S → State → Prop} {BX : String → SX → State → Prop} {AX : Nat → Prop} (hr : vx_Run p l e R s m args below meth c H locs cells slots mc ms (F0 m pc ls st0) rest (va_Qv post B A1 a) (vx_X px BX AX) free) (hS : va_S A0 H0 H locs) (hA : ∀ q, q < H.size → A1 q → A0 q) (hf : ∀ q, free q → A0 q) (hAX : ∀ q, q < H.size → AX q → A0 q)
    (kx : ∀ (E : String) (ce : Cell) (q9 : Addr) (u : SX) (t : State) (H1 : Heap) (locs1 : List Loc), t.heap = H1 → s.vm.Alike t.vm → px u → BX E u t → H.size ≤ H1.size → (∀ q : Nat, q < H.size → ¬ AX q → H1[q]? = H[q]?) → va_S A0 H0 H1 locs1 → H1[q9]? = some ce → ce.vm = .none → s.vm.findClass E = some ce.cls → vx_W p l e R s m args below meth c H1 locs1 (cells + mc) (slots + ms) Q (F0 m pc ls rest) q9)
    (kk : ∀ (u : S) (t : State) (H1 : Heap) (locs1 : List Loc), t.heap = H1 → s.vm.Alike t.vm → post u → B u t → H.size ≤ H1.size → (∀ q : Nat, q < H.size → ¬ A1 q → H1[q]? = H[q]?) → va_S A0 H0 H1 locs1 → W p l e R s m args below meth c H1 locs1 (cells + mc) (slots + ms) Q (F0 m (pc + 3) ls (rest))) : W p l e R s m args below meth c H locs cells slots Q (F0 m pc ls st0) := by
  intro T hT X
  rcases hr T hT X with ⟨v, st₀, t, T', L, h0, X', hL, e1, e2, ⟨⟨u, hv, hp, hb⟩, hF⟩, st⟩ | ⟨q, st₀, t, T', L, E, ce, h0, X', hL, e1, e2, ⟨u, hp, hb, hF⟩, hce, hcv, hcl, st⟩
  · cases hv
    obtain ⟨k1, k2, k3⟩ := vx_keep h0 e1 hS hA hf hL hF
    obtain ⟨t2, a1, b1⟩ := kk u t T'.heap (locs ++ L) e1.symm (by rw [← e2]; exact X'.warmed.alike) hp hb k1 k2 k3 T' rfl X'
    exact ⟨t2, st t2 a1, b1⟩
  · obtain ⟨k1, k2, k3⟩ := vx_keep h0 e1 hS hAX hf hL hF
    obtain ⟨t2, a1, b1⟩ := kx E ce q u t T'.heap (locs ++ L) e1.symm (by rw [← e2]; exact X'.warmed.alike) hp hb k1 k2 k3 (by rw [e1]; exact hce) hcv hcl T' rfl X'
    exact ⟨t2, st.trans a1, b1⟩
/-- caught by the row x of this method's table; the rows ahead don't take it -/
theorem vx_catch {own name : String} {E : String} {ce : Cell} {q : Addr} (hown : s.vm.findClass own = some m.cls) (pre : List ExceptionTableEntry) (x : ExceptionTableEntry) (suf : List ExceptionTableEntry) (hsplit : c.exceptionTable.toList = pre ++ x :: suf)
    (hpass : ∀ z ∈ pre, covers z pc = false ∨ (z.catchType ≠ 0 ∧ ∃ nm : String, (Cond.classLink own z.catchType nm).before args s = true ∧ va_Nc E nm s)) (hx : covers x pc = true) (h0 : x.catchType ≠ 0)
    (hlink : (Cond.classLink own x.catchType name).before args s = true) (hcast : (Cond.castable E name).before args s = true) (hcell : H[q]? = some ce) (hv : ce.vm = .none) (hcl : s.vm.findClass E = some ce.cls)
    (kk : W p l e R s m args below meth c H locs cells slots Q (F0 m x.handlerPc ls [.ref q])) : vx_W p l e R s m args below meth c H locs cells slots Q (F0 m pc ls rest) q := by
  intro T hT X
  have hpl : e.platform.magicAccessors = ({} : Platform).magicAccessors := by rw [X.admits.platform]
  obtain ⟨c3, c4, hc3, hc4, hasg⟩ := Cond.castable_spec hcast
  cases Option.some.inj (hc3.symm.trans hcl)
  obtain ⟨c5, hc5, hcl5⟩ := Cond.classLink_spec hown hlink e.platform hpl
  cases Option.some.inj (hc4.symm.trans hc5)
  obtain ⟨vm', X', st⟩ := X.thenCaughtThrough q (g := F0 m pc ls rest) rfl (Steps.refl _) (by rw [hT]; exact hcell) (by rw [hv]; rfl) (by obtain ⟨k9, h9, -⟩ := Vm.findClass_spec hcl; exact ⟨k9, h9⟩) pre x suf hsplit
    (fun z hz => by
      rcases hpass z hz with h | ⟨hz0, nm, hl1, hn1⟩
      · exact Or.inl h
      · obtain ⟨c6, hc6, hcl6⟩ := Cond.classLink_spec hown hl1 e.platform hpl
        obtain ⟨a8, b8, h1, h2, h3⟩ := hn1
        cases Option.some.inj (h1.symm.trans hcl)
        cases Option.some.inj (h2.symm.trans hc6)
        exact Or.inr ⟨hz0, _, hcl6, h3⟩) hx (Or.inr ⟨h0, c4, hcl5, hasg⟩)
  obtain ⟨t, a1, b1⟩ := kk (T.setVm vm') hT X'
  exact ⟨t, st.trans a1, b1⟩
end Rows
section Ends
variable {p : Program} {l : Launch} {e : Env} {R : Room} {s : State} {m : MethodId} {args : Array Value} {below : List Frame} {meth : Method} {c : Code} {H : Heap} {locs : List Loc} {cells slots : Nat} {Q : State → Prop}
variable {mc ms : Nat} {free : Addr → Prop} {A0 A1 : Nat → Prop} {H0 : Heap} {a : Array Value} {ls : Array Slot} {st0 rest : List Value}
variable {Qc : Array Value → State → Outcome → State → Prop} {XC : String → State → State → Prop}
/-- what a body that may throw owes at its end -/
def vx_MQ (below : List Frame) (Qc : Array Value → State → Outcome → State → Prop) (XC : String → State → State → Prop) (a : Array Value) (s : State) (mc ms : Nat) (free : Addr → Prop) : State → Prop := fun t =>
  ∃ o, t.status = .running ∧ Ended t below o ∧ vx_Q Qc XC mc ms free a s o t
theorem vx_ret {g : JFrame} {mc ms : Nat} (k : W p l e R s m args below meth c H locs cells slots (MQ below Qc args s mc ms free) g) : W p l e R s m args below meth c H locs cells slots (vx_MQ below Qc XC args s mc ms free) g := by
  intro T hT X
  obtain ⟨t, a1, o, b1, b2, b3, b4⟩ := k T hT X
  exact ⟨t, a1, o, b1, b2, Or.inl ⟨b3, b4⟩⟩
/-- not caught here: it goes on to the caller -/
theorem vx_widen {g : JFrame} {q : Addr} {k n : Nat} (h1 : cells ≤ k) (h2 : slots ≤ n) (kk : vx_W p l e R s m args below meth c H locs k n Q g q) : vx_W p l e R s m args below meth c H locs cells slots Q g q := fun T hT X => kk T hT (stand_widen X h1 h2)
theorem vx_out {pc : Nat} {E : String} {ce : Cell} {q : Addr} {mc ms : Nat} (hout : ∀ x ∈ c.exceptionTable.toList, covers x pc = false) (hlocks : meth.locks = false) (hcell : H[q]? = some ce) (hv : ce.vm = .none) (hcl : s.vm.findClass E = some ce.cls)
    (hx : ∀ t : State, t.heap = H → s.vm.Alike t.vm → XC E s t) (hf : ∀ z ∈ locs, free z.base) (hc : cells ≤ mc) (hs : slots ≤ ms) :
    vx_W p l e R s m args below meth c H locs cells slots (vx_MQ below Qc XC args s mc ms free) (F0 m pc ls rest) q := by
  intro T hT X
  obtain ⟨st1, hrun, hend, hW, hsm⟩ := X.leaveThrown q (g := F0 m pc ls rest) rfl rfl rfl hout hlocks
  have hcell9 : (T.setFrames (.throwing q :: below)).heap[q]? = some ce := by
    show T.heap[q]? = some ce
    rw [hT]; exact hcell
  exact ⟨_, st1, .threw q, hrun, hend, Or.inr ⟨q, rfl, E, ce, locs, hx _ hT hW.alike, hcell9, hv, hcl, hW, hsm.mono hc hs, hf⟩⟩
theorem vx_frame {U : State} {k n : Nat} (h : s.sameButNew ({ U with vm := s.vm } : State) locs k n) : s.heap.size ≤ U.heap.size ∧ ∀ q : Nat, q < s.heap.size → (∀ z ∈ locs, z.base ≠ q) → U.heap[q]? = s.heap[q]? := by
  obtain ⟨-, h2, -, -, -, h6⟩ := h
  refine ⟨h2, fun q hq hz => ?_⟩
  obtain ⟨c9, e1, e2, e3, e4⟩ := h6 q _ (Array.getElem?_eq_getElem hq)
  have hs : c9.slots = (s.heap[q]).slots := Array.ext_getElem? fun i => e4 i fun hm => hz _ hm rfl
  have h9 : c9 = s.heap[q] := by
    rw [hs] at e2
    exact e2
  have e5 : U.heap[q]? = some c9 := e1
  rw [e5, h9, Array.getElem?_eq_getElem hq]
/-- the words of a throw but the four that speak of the heap -/
def vx_no (w : Cond) : Bool := decide (w ≠ .isRef (.static Bundle.tN "UNASSIGNED_STACK" Bundle.steD)) && decide (w ≠ .isRef (.static Bundle.tN "SUPPRESSED_SENTINEL" Bundle.listD)) && decide (w ≠ .laysStatic Bundle.tN "UNASSIGNED_STACK" Bundle.steD) && decide (w ≠ .laysStatic Bundle.tN "SUPPRESSED_SENTINEL" Bundle.listD)
def vx_at0 (own : String) (ic : Nat) (X : String) (names : List String) : List Cond := (Bundle.ownAtoms0 own ic X names).filter vx_no
def vx_atS (own : String) (ic : Nat) (X : String) (names : List String) : List Cond := (Bundle.ownAtoms own ic X names).filter vx_no
/-- a word that the tables alone decide, or a good one -/
def vx_ot (w : Cond) : Bool := w.onTables || goodWord w
theorem vx_ot_at {args a' : Array Value} {s U : State} {w : Cond} (hW : s.WarmedH U.vm) (hvm : s.vm = U.vm) (hg : vx_ot w = true) (h : w.before args s = true) : w.before a' U = true := by
  simp only [vx_ot, Bool.or_eq_true] at hg
  rcases hg with hg | hg
  · exact va_tabs hg hvm h
  · exact word_at hW (good_of_word hg) h
/-- a list's words: the good ones out of the method's own list, the others by premises of their own -/
theorem vx_hat {args : Array Value} {s : State} {L B : List Cond} (h1 : ∀ w ∈ L.filter goodWord, w.before args s = true) (h2 : ∀ w ∈ L.filter (fun w => !goodWord w), w ∈ B) (h3 : ∀ w ∈ B, w.before args s = true) : ∀ w ∈ L, w.before args s = true := by
  intro w hw
  by_cases g : goodWord w = true
  · exact h1 w (List.mem_filter.mpr ⟨hw, g⟩)
  · refine h3 w (h2 w (List.mem_filter.mpr ⟨hw, ?_⟩))
    show (!goodWord w) = true
    cases hgw : goodWord w
    · rfl
    · exact absurd hgw g
theorem vx_c {args : Array Value} {s : State} {w : Cond} {B : List Cond} (h : w.before args s = true) (t : ∀ w ∈ B, w.before args s = true) : ∀ w' ∈ w :: B, w'.before args s = true := fun w' h' => (List.mem_cons.mp h').elim (fun e => by rw [e]; exact h) (t w')
theorem vx_n {args : Array Value} {s : State} : ∀ w ∈ ([] : List Cond), w.before args s = true := fun _ h => nomatch h
theorem vx_own {args : Array Value} {s : State} {L : List Cond} (h1 : ∀ w ∈ L.filter vx_no, w.before args s = true)
    (hU : (Cond.isRef (.static Bundle.tN "UNASSIGNED_STACK" Bundle.steD)).before args s = true) (hN : (Cond.isRef (.static Bundle.tN "SUPPRESSED_SENTINEL" Bundle.listD)).before args s = true)
    (lU : (Cond.laysStatic Bundle.tN "UNASSIGNED_STACK" Bundle.steD).before args s = true) (lN : (Cond.laysStatic Bundle.tN "SUPPRESSED_SENTINEL" Bundle.listD).before args s = true) : ∀ w ∈ L, w.before args s = true := by
  intro w hw
  by_cases e1 : w = .isRef (.static Bundle.tN "UNASSIGNED_STACK" Bundle.steD)
  · rw [e1]; exact hU
  · by_cases e2 : w = .isRef (.static Bundle.tN "SUPPRESSED_SENTINEL" Bundle.listD)
    · rw [e2]; exact hN
    · by_cases e3 : w = .laysStatic Bundle.tN "UNASSIGNED_STACK" Bundle.steD
      · rw [e3]; exact lU
      · by_cases e4 : w = .laysStatic Bundle.tN "SUPPRESSED_SENTINEL" Bundle.listD
        · rw [e4]; exact lN
        · exact h1 w (List.mem_filter.mpr ⟨hw, by unfold vx_no; rw [decide_eq_true e1, decide_eq_true e2, decide_eq_true e3, decide_eq_true e4]; rfl⟩)
/-- where a static field lies, its class's statics cell in H -/
def vx_L (C n d : String) (A : Nat → Prop) (U : State) (H : Heap) : Prop := ∃ (c : ClassId) (k : Class) (i : Nat) (f : Field) (a : Nat) (cell : Cell), U.vm.findClass C = some c ∧ U.fieldFound? C n d = some (c, k, i, f) ∧ f.isStatic = true ∧ k.statics = some a ∧ H[a]? = some cell ∧ cell.vm.isStatics = true ∧ cell.cls = c ∧ f.slot < cell.slots.size ∧ k.staticTypes[f.slot]? = some f.type ∧ ¬ A a
theorem vx_L.moved {C n d : String} {A : Nat → Prop} {u U : State} {H : Heap} (hvm : u.vm.Alike U.vm) (h : vx_L C n d A u H) : vx_L C n d A U H := by
  obtain ⟨c, k, i, f, a, cell, h1, h2, h3, h4, h5, h6, h7, h8, h9, h10⟩ := h
  obtain ⟨k', hi', he⟩ := State.fieldFound?_setVm hvm h2
  exact ⟨c, k', i, f, a, cell, by rw [hvm.findClass]; exact h1, hi', h3, by rw [he]; exact h4, h5, h6, h7, h8, by rw [he]; exact h9, h10⟩
theorem vx_L.kept {C n d : String} {A : Nat → Prop} {U : State} {H H1 : Heap} (h : vx_L C n d A U H) (hq : ∀ a : Nat, a < H.size → ¬ A a → H1[a]? = H[a]?) : vx_L C n d A U H1 := by
  obtain ⟨c, k, i, f, a, cell, h1, h2, h3, h4, h5, h6, h7, h8, h9, h10⟩ := h
  exact ⟨c, k, i, f, a, cell, h1, h2, h3, h4, by rw [hq a (Array.getElem?_eq_some_iff.mp h5).1 h10]; exact h5, h6, h7, h8, h9, h10⟩
theorem vx_L.narrow {C n d : String} {A B : Nat → Prop} {U : State} {H : Heap} (h : vx_L C n d A U H) (hAB : ∀ q, B q → A q) : vx_L C n d B U H := by
  obtain ⟨c, k, i, f, a, cell, h1, h2, h3, h4, h5, h6, h7, h8, h9, h10⟩ := h
  exact ⟨c, k, i, f, a, cell, h1, h2, h3, h4, h5, h6, h7, h8, h9, fun z => h10 (hAB _ z)⟩
theorem vx_L.word {C n d : String} {A : Nat → Prop} {s : State} {args : Array Value} (h : vx_L C n d A s s.heap) : (Cond.laysStatic C n d).before args s = true := by
  obtain ⟨c, k, i, f, a, cell, h1, h2, h3, h4, h5, h6, h7, h8, h9, -⟩ := h
  show (Cond.laysStatic C n d).holds args s none s [] = true
  exact Cond.laysStatic_of h1 h2 h3 h4 h5 h6 h7 h8 h9
/-- .. and what it holds: null or some reference -/
def vx_Zq (C n d : String) (A : Nat → Prop) (U : State) (H : Heap) : Prop := va_Zq C n d A U H ∧ vx_L C n d A U H
theorem vx_Zq.moved {C n d : String} {A : Nat → Prop} {u U : State} {H : Heap} (hvm : u.vm.Alike U.vm) (h : vx_Zq C n d A u H) : vx_Zq C n d A U H := ⟨va_Zq.moved hvm h.1, vx_L.moved hvm h.2⟩
theorem vx_Zq.kept {C n d : String} {A : Nat → Prop} {U : State} {H H1 : Heap} (h : vx_Zq C n d A U H) (hq : ∀ a : Nat, a < H.size → ¬ A a → H1[a]? = H[a]?) : vx_Zq C n d A U H1 := ⟨va_Zq.kept h.1 hq, vx_L.kept h.2 hq⟩
theorem vx_Zq.narrow {C n d : String} {A B : Nat → Prop} {U : State} {H : Heap} (h : vx_Zq C n d A U H) (hAB : ∀ q, B q → A q) : vx_Zq C n d B U H := ⟨va_Zq.narrow h.1 hAB, vx_L.narrow h.2 hAB⟩
theorem vx_Zqof {args : Array Value} {s : State} {C n d : String} {A : Nat → Prop} (hl : (Cond.laysStatic C n d).before args s = true) (hini : (Cond.initialized C).before args s = true) (h : (Cond.isRef (.static C n d)).before args s = true) (hA : ∀ a : Nat, a < s.heap.size → ¬ A a) : vx_Zq C n d A s s.heap := by
  refine ⟨va_Zqof hl hini h hA, ?_⟩
  obtain ⟨c, k, i, f, a, cell, h1, h2, h3, h4, h5, h6, h7, h8, h9⟩ := Cond.laysStatic_spec hl
  exact ⟨c, k, i, f, a, cell, h1, h2, h3, h4, h5, h6, h7, h8, h9, hA a (Array.getElem?_eq_some_iff.mp h5).1⟩
theorem vx_isRef {C n d : String} {v : Value} {A : Nat → Prop} {s : State} {args : Array Value} (h : va_Z C n d v A s s.heap) (hv : v.isRef = true) : (Cond.isRef (.static C n d)).before args s = true := by
  obtain ⟨cf, kf, fi, f, a, cell, h1, h2, h3, h4, h5, h6, h7, -⟩ := h
  have he : (Term.static C n d).eval args s none [] s = some v := by
    simp [Term.eval, State.fieldNamed?, h1, h2, h4, h5, h6, h7]
  simp only [Cond.before, Cond.holds, Cond.value, he]
  cases v <;> simp_all [Value.isRef]
theorem vx_isRefq {C n d : String} {A : Nat → Prop} {s : State} {args : Array Value} (h : va_Zq C n d A s s.heap) : (Cond.isRef (.static C n d)).before args s = true := by
  rcases h with h | ⟨t, h⟩
  · exact vx_isRef h rfl
  · exact vx_isRef h rfl
/-- the same frame, seen from here: as if the method were called anew in this heap -/
theorem vx_rebase {T : State} (X : Stand p l e R s m args below meth c T locs cells slots) {R' : Room} (hf : R'.frames ≤ R.frames) (hl : R'.locals ≤ R.locals) (hc : cells + R'.cells ≤ R.cells) (hs : slots + R'.slots ≤ R.slots) :
    Stand p l e R' ((T.setVm s.vm).setFrames (.invoking m args :: below)) m args below meth c T [] 0 0 := by
  have htop : (T.setVm s.vm).topJava?.isSome := X.here.top
  have hF : ((T.setVm s.vm).setFrames (.invoking m args :: below)).frames = .invoking m args :: below := State.frames_setFrames _ (State.cur_lt_of_top htop)
  obtain ⟨g₀, hg0⟩ := Option.isSome_iff_exists.mp htop
  obtain ⟨r, hr⟩ := State.topJava?_eq_some.mp hg0
  have hl9 : e.platform.stackLimits (T.setVm s.vm).me = e.platform.stackLimits s.me := X.limits
  have hb9 : (T.setVm s.vm).me.stackBytes = s.me.stackBytes := X.bytes
  refine ⟨X.admits, X.cas, X.clock, hF, ?_, X.hears, X.method, X.code, X.here, X.tail, X.warmed, ?_, ?_, ?_⟩
  · have h := X.room
    have hU : ((T.setVm s.vm).setFrames (.invoking m args :: below)).localsInUse = s.localsInUse := by
      rw [State.localsInUse_invoking hF (meth := meth) (c := c) X.method X.code, State.localsInUse_invoking X.frames X.method X.code]
    simp only [State.hasRoom, Bool.and_eq_true, decide_eq_true_eq] at h ⊢
    obtain ⟨⟨⟨⟨h1, h2, h3, h4, h5, h6⟩, h7⟩, h8⟩, h9⟩ := h
    rw [X.frames, List.length_cons] at h2 h3
    have q1 := X.heapSize
    have q2 := X.used
    simp only [hF, hU, List.length_cons, State.stackLimits_setFrames, State.stackBytes_setFrames, hl9, hb9]
    refine ⟨⟨⟨⟨by omega, by omega, by omega, by omega, by omega, h6⟩, ?_⟩, ?_⟩, X.book⟩
    · show T.heap.size + R'.cells ≤ e.platform.maxCells
      omega
    · show T.slotsUsed + R'.slots ≤ e.platform.maxSlots
      omega
  · rw [State.stackLimits_setFrames]; rfl
  · rw [State.stackBytes_setFrames]; rfl
  · refine ⟨?_, Nat.le_refl _, Nat.le_refl _, ?_, ?_, fun a c9 h9 => ⟨c9, h9, rfl, rfl, fun _ _ => rfl⟩⟩
    · obtain ⟨t, ht, -⟩ := State.frames_cons hr
      show T.setVm s.vm = { ((T.setVm s.vm).setFrames (.invoking m args :: below)).setFrames (T.setVm s.vm).frames with heap := T.heap, slotsUsed := T.slotsUsed }
      rw [State.setFrames_setFrames, State.setFrames_self ht]
      rfl
    · show T.slotsUsed = T.slotsUsed + ((T.heap.toList.drop T.heap.size).map (·.slots.size)).sum
      rw [List.drop_eq_nil_of_le (Nat.le_of_eq Array.length_toList)]
      rfl
    · show ((T.heap.toList.drop T.heap.size).map (·.slots.size)).sum ≤ 0
      rw [List.drop_eq_nil_of_le (Nat.le_of_eq Array.length_toList)]
      exact Nat.le_refl _
/-- 'throw new E()': new; dup; invokespecial; athrow -/
theorem vx_throw0 {cc : ByteArray} {pc : Nat} (hexec : p.tables.exec = Jvm.exec) (hb : c.code = cc) (hl : l.stackTraces = false) {own cls : String} {names : List String} {ik ic mc ms : Nat} {A : Nat → Prop}
    (hown : s.vm.findClass own = some m.cls) (hcls : Bundle.fit cls = true) (hnames : ∀ n ∈ names, Bundle.fit n = true)
    (hk : (Cond.classLink own ik cls).before args s = true) (hini : (Cond.initialized cls).before args s = true) (hat : ∀ w ∈ vx_at0 own ic cls names, w.before args s = true)
    (hgood : ∀ w ∈ Cond.classLink own ik cls :: Cond.initialized cls :: vx_at0 own ic cls names, vx_ot w = true)
    (hU : vx_Zq Bundle.tN "UNASSIGNED_STACK" Bundle.steD A s s.heap) (hN : vx_Zq Bundle.tN "SUPPRESSED_SENTINEL" Bundle.listD A s s.heap) (hS : va_S A s.heap H locs) (hsize : ls.size = c.maxLocals)
    (d0 : decode cc pc = .ok (.new ik, 3)) (d3 : decode cc (pc + 3) = .ok (.dup, 1)) (d4 : decode cc (pc + 4) = .ok (.invokespecial ic, 3)) (d7 : decode cc (pc + 7) = .ok (.athrow, 1))
    (hout : ∀ x ∈ c.exceptionTable.toList, covers x (pc + 7) = false)
    (hRframes : names.length + 3 < R.frames) (hRlocals : (rest.map fun v => v.category).sum + (13 * (names.length + 1) + 42) ≤ R.locals) (hRcells : cells + 1 ≤ R.cells) (hRslots : slots + 6 ≤ R.slots) (hlocks : meth.locks = false)
    (hx : ∀ t : State, s.vm.Alike t.vm → H.size ≤ t.heap.size → (∀ q : Nat, q < H.size → t.heap[q]? = H[q]?) → XC cls s t)
    (hf : ∀ z ∈ locs, free z.base) (hc : cells + 1 ≤ mc) (hs : slots + 6 ≤ ms) :
    W p l e R s m args below meth c H locs cells slots (vx_MQ below Qc XC args s mc ms free) (F0 m pc ls rest) := by
  intro T hT X
  have htr : e.platform.stackTraces = false := (show e.platform.stackTraces = l.stackTraces by rw [X.admits.platform]).trans hl
  have Y := vx_rebase X (R' := { frames := R.frames, locals := R.locals, cells := 1, slots := 6 }) (Nat.le_refl _) (Nat.le_refl _) hRcells hRslots
  obtain ⟨s', hA⟩ : ∃ z, z = (T.setVm s.vm).setFrames (.invoking m args :: below) := ⟨_, rfl⟩
  rw [← hA] at Y
  have hvm : s'.vm = s.vm := by rw [hA]; rfl
  have hhp : s'.heap = H := by rw [hA]; exact hT
  have hW0 : s.WarmedH s'.vm := by rw [hvm]; exact State.WarmedH.refl s
  have hat' : ∀ w ∈ vx_at0 own ic cls names, w.before args s' = true := fun w hw => vx_ot_at hW0 hvm.symm (hgood w (List.mem_cons_of_mem _ (List.mem_cons_of_mem _ hw))) (hat w hw)
  have hk' : (Cond.classLink own ik cls).before args s' = true := vx_ot_at hW0 hvm.symm (hgood _ List.mem_cons_self) hk
  have hini' : (Cond.initialized cls).before args s' = true := vx_ot_at hW0 hvm.symm (hgood _ (List.mem_cons_of_mem _ List.mem_cons_self)) hini
  have hU' : vx_Zq Bundle.tN "UNASSIGNED_STACK" Bundle.steD A s' s'.heap := by rw [hhp]; exact vx_Zq.moved hW0.alike (hU.kept hS.2.1)
  have hN' : vx_Zq Bundle.tN "SUPPRESSED_SENTINEL" Bundle.listD A s' s'.heap := by rw [hhp]; exact vx_Zq.moved hW0.alike (hN.kept hS.2.1)
  have h : ∀ w ∈ Bundle.ownAtoms0 own ic cls names, w.before args s' = true := vx_own hat' (vx_isRefq hU'.1) (vx_isRefq hN'.1) hU'.2.word hN'.2.word
  have hown' : s'.vm.findClass own = some m.cls := by rw [hvm]; exact hown
  have hins : (Cond.instantiable cls 6).before args s' = true := h _ (by simp [Bundle.ownAtoms0])
  obtain ⟨vm₁, cX, kX, hfX, hkX, -, -, X₁, st1⟩ := Y.newCold hexec (own := own) (C := cls) (index := ik) (n := 6) hown' hk' hins hini'
    (g := F0 m pc ls rest) rfl (by rw [hb]; exact d0) (Nat.le_refl _) (Nat.le_refl _)
  generalize hT1 : (T.setVm vm₁).pushCell { cls := cX, slots := kX.instanceTypes.map defaultValue, vm := .none } = T1 at X₁ st1
  have hcat : (Value.ref T.heap.size).category = 1 := rfl
  have hcellA : T1.heap[T.heap.size]? = some (freshCell cX kX) := by rw [← hT1]; exact State.heap_pushCell_size _ _
  have d3' : decode c.code (pc + 3) = .ok (.dup, 1) := by rw [hb]; exact d3
  obtain ⟨U, hsteps, hrun, hend, hW, hsame, ce, hce, hO⟩ := X₁.ctorThrow0 hexec htr (own := own) (cls := cls) (names := names) (ic := ic) hown' hcls hnames h (fun x hx => nomatch hx) hfX hkX hcellA (by rw [hhp, hT]; exact Nat.le_refl _)
    (g := { method := m, pc := pc + 4, locals := ls, stack := .ref T.heap.size :: .ref T.heap.size :: rest, locked := none }) rfl hsize rfl rfl (rest := rest) rfl
    (by rw [hb]; exact d4) (by rw [hb]; exact d7) hout hRframes (by simp only [List.map_cons, List.sum_cons, hcat]; omega) hlocks
  obtain ⟨f1, f2⟩ := vx_frame hsame
  rw [hhp] at f1 f2
  have hWs : s.WarmedH U.vm := State.WarmedH.trans hW0 hW
  have hcl : s.vm.findClass cls = some ce.cls := by
    have h9 := hO.cls
    rw [hvm] at h9
    exact h9
  have hall : s.sameButNew ({ U with vm := s.vm } : State) locs mc ms := by
    subst hA
    obtain ⟨e1, e2⟩ := hsame
    rw [State.setFrames_setFrames] at e1
    have h2 : (T.setVm s.vm).sameButNew ({ U with vm := s.vm } : State) [] (0 + 1) (0 + 6) := ⟨e1, e2⟩
    have h3 := X.same.trans h2
    rw [List.append_nil] at h3
    exact h3.mono hc hs
  refine ⟨U, ?_, .threw T.heap.size, hrun, hend, Or.inr ⟨T.heap.size, rfl, cls, ce, locs, hx U hWs.alike f1 (fun q hq => f2 q hq (fun z hz => nomatch hz)), hce, hO.vm, hcl, hWs, hall, hf⟩⟩
  refine st1 _ ?_
  show Steps p.tables e below (T1.setTop { method := m, pc := pc + 3, locals := ls, stack := .ref T.heap.size :: rest, locked := none }) _
  jvm_step X₁.here [X₁.here.top, hexec, d3', Value.category]
  exact hsteps
/-- 'throw new E("text")': new; dup; ldc; invokespecial; athrow -/
theorem vx_throwS {cc : ByteArray} {pc : Nat} (hexec : p.tables.exec = Jvm.exec) (hb : c.code = cc) (hl : l.stackTraces = false) {own cls text : String} {names : List String} {ik is ic mc ms sa : Nat} {A : Nat → Prop}
    (hown : s.vm.findClass own = some m.cls) (hcls : Bundle.fit cls = true) (hnames : ∀ n ∈ names, Bundle.fit n = true)
    (hk : (Cond.classLink own ik cls).before args s = true) (hini : (Cond.initialized cls).before args s = true) (hstr : vk_R own is text sa s) (hat : ∀ w ∈ vx_atS own ic cls names, w.before args s = true)
    (hgood : ∀ w ∈ Cond.classLink own ik cls :: Cond.initialized cls :: vx_atS own ic cls names, vx_ot w = true)
    (hU : vx_Zq Bundle.tN "UNASSIGNED_STACK" Bundle.steD A s s.heap) (hN : vx_Zq Bundle.tN "SUPPRESSED_SENTINEL" Bundle.listD A s s.heap) (hS : va_S A s.heap H locs) (hsize : ls.size = c.maxLocals)
    (d0 : decode cc pc = .ok (.new ik, 3)) (d3 : decode cc (pc + 3) = .ok (.dup, 1)) (d4 : decode cc (pc + 4) = .ok (.ldc is, 2)) (d6 : decode cc (pc + 6) = .ok (.invokespecial ic, 3)) (d9 : decode cc (pc + 9) = .ok (.athrow, 1))
    (hout : ∀ x ∈ c.exceptionTable.toList, covers x (pc + 9) = false)
    (hRframes : names.length + 3 < R.frames) (hRlocals : (rest.map fun v => v.category).sum + (13 * (names.length + 1) + 43) ≤ R.locals) (hRcells : cells + 1 ≤ R.cells) (hRslots : slots + 6 ≤ R.slots) (hlocks : meth.locks = false)
    (hx : ∀ t : State, s.vm.Alike t.vm → H.size ≤ t.heap.size → (∀ q : Nat, q < H.size → t.heap[q]? = H[q]?) → XC cls s t)
    (hf : ∀ z ∈ locs, free z.base) (hc : cells + 1 ≤ mc) (hs : slots + 6 ≤ ms) :
    W p l e R s m args below meth c H locs cells slots (vx_MQ below Qc XC args s mc ms free) (F0 m pc ls rest) := by
  intro T hT X
  have htr : e.platform.stackTraces = false := (show e.platform.stackTraces = l.stackTraces by rw [X.admits.platform]).trans hl
  have Y := vx_rebase X (R' := { frames := R.frames, locals := R.locals, cells := 1, slots := 6 }) (Nat.le_refl _) (Nat.le_refl _) hRcells hRslots
  obtain ⟨s', hA⟩ : ∃ z, z = (T.setVm s.vm).setFrames (.invoking m args :: below) := ⟨_, rfl⟩
  rw [← hA] at Y
  have hvm : s'.vm = s.vm := by rw [hA]; rfl
  have hhp : s'.heap = H := by rw [hA]; exact hT
  have hW0 : s.WarmedH s'.vm := by rw [hvm]; exact State.WarmedH.refl s
  have hat' : ∀ w ∈ vx_atS own ic cls names, w.before args s' = true := fun w hw => vx_ot_at hW0 hvm.symm (hgood w (List.mem_cons_of_mem _ (List.mem_cons_of_mem _ hw))) (hat w hw)
  have hk' : (Cond.classLink own ik cls).before args s' = true := vx_ot_at hW0 hvm.symm (hgood _ List.mem_cons_self) hk
  have hini' : (Cond.initialized cls).before args s' = true := vx_ot_at hW0 hvm.symm (hgood _ (List.mem_cons_of_mem _ List.mem_cons_self)) hini
  have hU' : vx_Zq Bundle.tN "UNASSIGNED_STACK" Bundle.steD A s' s'.heap := by rw [hhp]; exact vx_Zq.moved hW0.alike (hU.kept hS.2.1)
  have hN' : vx_Zq Bundle.tN "SUPPRESSED_SENTINEL" Bundle.listD A s' s'.heap := by rw [hhp]; exact vx_Zq.moved hW0.alike (hN.kept hS.2.1)
  have h : ∀ w ∈ Bundle.ownAtoms own ic cls names, w.before args s' = true := vx_own hat' (vx_isRefq hU'.1) (vx_isRefq hN'.1) hU'.2.word hN'.2.word
  have hown' : s'.vm.findClass own = some m.cls := by rw [hvm]; exact hown
  have hins : (Cond.instantiable cls 6).before args s' = true := h _ (by simp [Bundle.ownAtoms])
  obtain ⟨vm₁, cX, kX, hfX, hkX, -, -, X₁, st1⟩ := Y.newCold hexec (own := own) (C := cls) (index := ik) (n := 6) hown' hk' hins hini'
    (g := F0 m pc ls rest) rfl (by rw [hb]; exact d0) (Nat.le_refl _) (Nat.le_refl _)
  generalize hT1 : (T.setVm vm₁).pushCell { cls := cX, slots := kX.instanceTypes.map defaultValue, vm := .none } = T1 at X₁ st1
  have hcat : (Value.ref T.heap.size).category = 1 := rfl
  have hcellA : T1.heap[T.heap.size]? = some (freshCell cX kX) := by rw [← hT1]; exact State.heap_pushCell_size _ _
  have d3' : decode c.code (pc + 3) = .ok (.dup, 1) := by rw [hb]; exact d3
  have d4' : decode c.code (pc + 4) = .ok (.ldc is, 2) := by rw [hb]; exact d4
  have hstr' : vk_R own is text sa s' := vk_R.warm hW0 hstr
  obtain ⟨U, hsteps, hrun, hend, hW, hsame, ce, hce, hO⟩ := X₁.ctorThrowS hexec htr (own := own) (cls := cls) (names := names) (ic := ic) hown' hcls hnames h (fun x hx => nomatch hx) hfX hkX hcellA (by rw [hhp, hT]; exact Nat.le_refl _) (msg := .ref sa) rfl
    (g := { method := m, pc := pc + 6, locals := ls, stack := .ref sa :: .ref T.heap.size :: .ref T.heap.size :: rest, locked := none }) rfl hsize rfl rfl (rest := rest) rfl
    (by rw [hb]; exact d6) (by rw [hb]; exact d9) hout hRframes (by simp only [List.map_cons, List.sum_cons, hcat]; omega) hlocks
  obtain ⟨f1, f2⟩ := vx_frame hsame
  rw [hhp] at f1 f2
  have hWs : s.WarmedH U.vm := State.WarmedH.trans hW0 hW
  have hcl : s.vm.findClass cls = some ce.cls := by
    have h9 := hO.cls
    rw [hvm] at h9
    exact h9
  have hall : s.sameButNew ({ U with vm := s.vm } : State) locs mc ms := by
    subst hA
    obtain ⟨e1, e2⟩ := hsame
    rw [State.setFrames_setFrames] at e1
    have h2 : (T.setVm s.vm).sameButNew ({ U with vm := s.vm } : State) [] (0 + 1) (0 + 6) := ⟨e1, e2⟩
    have h3 := X.same.trans h2
    rw [List.append_nil] at h3
    exact h3.mono hc hs
  refine ⟨U, ?_, .threw T.heap.size, hrun, hend, Or.inr ⟨T.heap.size, rfl, cls, ce, locs, hx U hWs.alike f1 (fun q hq => f2 q hq (fun z hz => nomatch hz)), hce, hO.vm, hcl, hWs, hall, hf⟩⟩
  refine st1 _ ?_
  show Steps p.tables e below (T1.setTop { method := m, pc := pc + 3, locals := ls, stack := .ref T.heap.size :: rest, locked := none }) _
  jvm_step X₁.here [X₁.here.top, hexec, d3', Value.category]
  exact X₁.ldcString hexec (own := own) (text := text) (index := is) (a := sa) hown' hstr'.1 hstr'.2
    (g := { method := m, pc := pc + 4, locals := ls, stack := .ref T.heap.size :: .ref T.heap.size :: rest, locked := none }) rfl d4' _ hsteps
/-- 'throw new E("text")', the text by a wide index -/
theorem vx_throwSW {cc : ByteArray} {pc : Nat} (hexec : p.tables.exec = Jvm.exec) (hb : c.code = cc) (hl : l.stackTraces = false) {own cls text : String} {names : List String} {ik is ic mc ms sa : Nat} {A : Nat → Prop}
    (hown : s.vm.findClass own = some m.cls) (hcls : Bundle.fit cls = true) (hnames : ∀ n ∈ names, Bundle.fit n = true)
    (hk : (Cond.classLink own ik cls).before args s = true) (hini : (Cond.initialized cls).before args s = true) (hstr : vk_R own is text sa s) (hat : ∀ w ∈ vx_atS own ic cls names, w.before args s = true)
    (hgood : ∀ w ∈ Cond.classLink own ik cls :: Cond.initialized cls :: vx_atS own ic cls names, vx_ot w = true)
    (hU : vx_Zq Bundle.tN "UNASSIGNED_STACK" Bundle.steD A s s.heap) (hN : vx_Zq Bundle.tN "SUPPRESSED_SENTINEL" Bundle.listD A s s.heap) (hS : va_S A s.heap H locs) (hsize : ls.size = c.maxLocals)
    (d0 : decode cc pc = .ok (.new ik, 3)) (d3 : decode cc (pc + 3) = .ok (.dup, 1)) (d4 : decode cc (pc + 4) = .ok (.ldc_w is, 3)) (d7 : decode cc (pc + 7) = .ok (.invokespecial ic, 3)) (d10 : decode cc (pc + 10) = .ok (.athrow, 1))
    (hout : ∀ x ∈ c.exceptionTable.toList, covers x (pc + 10) = false)
    (hRframes : names.length + 3 < R.frames) (hRlocals : (rest.map fun v => v.category).sum + (13 * (names.length + 1) + 43) ≤ R.locals) (hRcells : cells + 1 ≤ R.cells) (hRslots : slots + 6 ≤ R.slots) (hlocks : meth.locks = false)
    (hx : ∀ t : State, s.vm.Alike t.vm → H.size ≤ t.heap.size → (∀ q : Nat, q < H.size → t.heap[q]? = H[q]?) → XC cls s t)
    (hf : ∀ z ∈ locs, free z.base) (hc : cells + 1 ≤ mc) (hs : slots + 6 ≤ ms) :
    W p l e R s m args below meth c H locs cells slots (vx_MQ below Qc XC args s mc ms free) (F0 m pc ls rest) := by
  intro T hT X
  have htr : e.platform.stackTraces = false := (show e.platform.stackTraces = l.stackTraces by rw [X.admits.platform]).trans hl
  have Y := vx_rebase X (R' := { frames := R.frames, locals := R.locals, cells := 1, slots := 6 }) (Nat.le_refl _) (Nat.le_refl _) hRcells hRslots
  obtain ⟨s', hA⟩ : ∃ z, z = (T.setVm s.vm).setFrames (.invoking m args :: below) := ⟨_, rfl⟩
  rw [← hA] at Y
  have hvm : s'.vm = s.vm := by rw [hA]; rfl
  have hhp : s'.heap = H := by rw [hA]; exact hT
  have hW0 : s.WarmedH s'.vm := by rw [hvm]; exact State.WarmedH.refl s
  have hat' : ∀ w ∈ vx_atS own ic cls names, w.before args s' = true := fun w hw => vx_ot_at hW0 hvm.symm (hgood w (List.mem_cons_of_mem _ (List.mem_cons_of_mem _ hw))) (hat w hw)
  have hk' : (Cond.classLink own ik cls).before args s' = true := vx_ot_at hW0 hvm.symm (hgood _ List.mem_cons_self) hk
  have hini' : (Cond.initialized cls).before args s' = true := vx_ot_at hW0 hvm.symm (hgood _ (List.mem_cons_of_mem _ List.mem_cons_self)) hini
  have hU' : vx_Zq Bundle.tN "UNASSIGNED_STACK" Bundle.steD A s' s'.heap := by rw [hhp]; exact vx_Zq.moved hW0.alike (hU.kept hS.2.1)
  have hN' : vx_Zq Bundle.tN "SUPPRESSED_SENTINEL" Bundle.listD A s' s'.heap := by rw [hhp]; exact vx_Zq.moved hW0.alike (hN.kept hS.2.1)
  have h : ∀ w ∈ Bundle.ownAtoms own ic cls names, w.before args s' = true := vx_own hat' (vx_isRefq hU'.1) (vx_isRefq hN'.1) hU'.2.word hN'.2.word
  have hown' : s'.vm.findClass own = some m.cls := by rw [hvm]; exact hown
  have hins : (Cond.instantiable cls 6).before args s' = true := h _ (by simp [Bundle.ownAtoms])
  obtain ⟨vm₁, cX, kX, hfX, hkX, -, -, X₁, st1⟩ := Y.newCold hexec (own := own) (C := cls) (index := ik) (n := 6) hown' hk' hins hini'
    (g := F0 m pc ls rest) rfl (by rw [hb]; exact d0) (Nat.le_refl _) (Nat.le_refl _)
  generalize hT1 : (T.setVm vm₁).pushCell { cls := cX, slots := kX.instanceTypes.map defaultValue, vm := .none } = T1 at X₁ st1
  have hcat : (Value.ref T.heap.size).category = 1 := rfl
  have hcellA : T1.heap[T.heap.size]? = some (freshCell cX kX) := by rw [← hT1]; exact State.heap_pushCell_size _ _
  have d3' : decode c.code (pc + 3) = .ok (.dup, 1) := by rw [hb]; exact d3
  have d4' : decode c.code (pc + 4) = .ok (.ldc_w is, 3) := by rw [hb]; exact d4
  have hstr' : vk_R own is text sa s' := vk_R.warm hW0 hstr
  obtain ⟨U, hsteps, hrun, hend, hW, hsame, ce, hce, hO⟩ := X₁.ctorThrowS hexec htr (own := own) (cls := cls) (names := names) (ic := ic) hown' hcls hnames h (fun x hx => nomatch hx) hfX hkX hcellA (by rw [hhp, hT]; exact Nat.le_refl _) (msg := .ref sa) rfl
    (g := { method := m, pc := pc + 7, locals := ls, stack := .ref sa :: .ref T.heap.size :: .ref T.heap.size :: rest, locked := none }) rfl hsize rfl rfl (rest := rest) rfl
    (by rw [hb]; exact d7) (by rw [hb]; exact d10) hout hRframes (by simp only [List.map_cons, List.sum_cons, hcat]; omega) hlocks
  obtain ⟨f1, f2⟩ := vx_frame hsame
  rw [hhp] at f1 f2
  have hWs : s.WarmedH U.vm := State.WarmedH.trans hW0 hW
  have hcl : s.vm.findClass cls = some ce.cls := by
    have h9 := hO.cls
    rw [hvm] at h9
    exact h9
  have hall : s.sameButNew ({ U with vm := s.vm } : State) locs mc ms := by
    subst hA
    obtain ⟨e1, e2⟩ := hsame
    rw [State.setFrames_setFrames] at e1
    have h2 : (T.setVm s.vm).sameButNew ({ U with vm := s.vm } : State) [] (0 + 1) (0 + 6) := ⟨e1, e2⟩
    have h3 := X.same.trans h2
    rw [List.append_nil] at h3
    exact h3.mono hc hs
  refine ⟨U, ?_, .threw T.heap.size, hrun, hend, Or.inr ⟨T.heap.size, rfl, cls, ce, locs, hx U hWs.alike f1 (fun q hq => f2 q hq (fun z hz => nomatch hz)), hce, hO.vm, hcl, hWs, hall, hf⟩⟩
  refine st1 _ ?_
  show Steps p.tables e below (T1.setTop { method := m, pc := pc + 3, locals := ls, stack := .ref T.heap.size :: rest, locked := none }) _
  jvm_step X₁.here [X₁.here.top, hexec, d3', Value.category]
  exact X₁.ldcStringW hexec (own := own) (text := text) (index := is) (a := sa) hown' hstr'.1 hstr'.2
    (g := { method := m, pc := pc + 4, locals := ls, stack := .ref T.heap.size :: .ref T.heap.size :: rest, locked := none }) rfl d4' _ hsteps
end Ends
section Bodies
variable {l : Launch}
theorem vx_ofW {y : MethodName} {ws ws' : List Cond} {rm : Room} {Pc : Array Value → State → Prop} {Qc : Array Value → State → Outcome → State → Prop} {XC : String → State → State → Prop} {mc ms : Nat} {free : Addr → Prop} {cc : ByteArray} {maxL : Nat} {ret : Option FieldType}
    (hy : plainName y.cls = true) (hw : ws = Cond.code y cc maxL ret :: ws')
    (body : ∀ p e s m args below meth c s₁, BodyLoose p l y (headSpec ws rm) cc maxL ret e s m args below meth c s₁ → c.maxLocals = maxL → (∀ x ∈ c.exceptionTable.toList, False) → Pc args s →
      W p l e (headSpec ws rm).room s m args below meth c s.heap [] 0 0 (vx_MQ below Qc XC args s mc ms free) (entryFrame m args maxL)) : vx_Met l y ws rm Pc Qc XC mc ms free := by
  refine MetFree.of_bodyS (code := cc) (maxLocals := maxL) (ret := ret) hy ?_ ?_
  · intro args s m h hn
    obtain ⟨meth, c, h1, h2, h3, h4, h5, h6, -, -⟩ := Cond.code_spec hn (atoms_spec (ws := ws) h _ (by rw [hw]; exact List.mem_cons_self))
    exact ⟨meth, c, h1, h2, h3, h4, h5, h6⟩
  · intro p e s m args below meth c s₁ B hml hP _
    have hh0 : s₁.heap = s.heap := by rw [B.state]; rfl
    have ht : ∀ x ∈ c.exceptionTable.toList, False := by
      obtain ⟨meth9, c9, h1, h2, -, -, -, -, h7, -⟩ := Cond.code_spec B.named (atoms_spec (ws := ws) B.pre _ (by rw [hw]; exact List.mem_cons_self))
      cases Option.some.inj (h1.symm.trans B.method)
      cases Option.some.inj (h2.symm.trans (Stand.of_body B).code)
      intro x hx
      rw [Array.isEmpty_iff.mp h7] at hx
      cases hx
    obtain ⟨t, a1, o, b1, b2, b3⟩ := body p e s m args below meth c s₁ B hml ht hP s₁ hh0 (Stand.of_body B)
    exact ⟨t, o, a1, b1, b2, b3⟩
/-- the table of a body with handlers -/
theorem vx_table {p : Program} {x y : MethodName} {S : Spec} {cc bytes : ByteArray} {maxL maxL' : Nat} {ret ret' : Option FieldType} {e : Env} {s s₁ : State} {m : MethodId} {args : Array Value} {below : List Frame} {meth : Method} {c : Code} {hh : List (Nat × Nat × Nat × Nat)}
    (B : BodyLoose p l y S cc maxL ret e s m args below meth c s₁) (h : (Cond.codeWith y bytes maxL' ret' hh).before args s = true) : c.exceptionTable.toList = tableOf hh := by
  obtain ⟨m9, meth9, c9, hn9, h1, h2, -, -, h6, -⟩ := Cond.codeWith_spec h
  cases Option.some.inj (hn9.symm.trans B.named)
  cases Option.some.inj (h1.symm.trans B.method)
  cases Option.some.inj (h2.symm.trans (Stand.of_body B).code)
  rw [← h6, table_eq]
end Bodies
end VXA
/-! ===== END ===== -/
/-! ===== BEGIN a static call of a method with an exception table ===== -/
section VXS
variable {p : Program} {l : Launch} {e : Env} {R : Room} {s : State} {m : MethodId} {args : Array Value} {below : List Frame} {meth : Method} {c : Code} {T : State} {H : Heap} {locs : List Loc} {cells slots : Nat}
abbrev vx_CSW (R : Room) (s : State) (args : Array Value) (own : String) (index : Nat) (y : MethodName) (bytes : ByteArray) (maxL : Nat) (ret : Option FieldType) (hh : List (Nat × Nat × Nat × Nat)) (ws : List Cond) (rm : Room) (mc ms n : Nat) : Prop :=
  (rm.cells = mc ∧ rm.slots = ms ∧ rm.frames + 1 ≤ R.frames ∧ 8 + (maxL + 11) + rm.locals ≤ R.locals ∧ (∀ w ∈ ws, ∀ (a' : Array Value) (U : State), s.WarmedH U.vm → w.before a' U = true) ∧ Cond.codeWith y bytes maxL ret hh ∈ ws) ∧
  (Cond.codeWith y bytes maxL ret hh).before args s = true ∧ (Cond.initialized y.cls).before args s = true ∧ (y.cls ≠ "java/lang/invoke/MethodHandle" ∧ y.cls ≠ "java/lang/invoke/VarHandle") ∧
  (∀ sig, parseMethodDescriptor y.desc = some sig → n = sig.parameters.length) ∧ (Cond.methodLink own index y).before args s = true ∧ (Cond.static y).before args s = true
theorem vx_cwSW {own : String} {index maxL mc ms : Nat} {y : MethodName} {bytes : ByteArray} {ret : Option FieldType} {hh : List (Nat × Nat × Nat × Nat)} {Ts ws ws' : List Cond} {rm : Room} (n : Nat) (ht : ∀ w ∈ Ts, w.before args s = true) (hT : GoodIn Ts (va_wsS own index y ws)) (hw : ws = Cond.codeWith y bytes maxL ret hh :: ws') (hrc : rm.cells = mc) (hrs : rm.slots = ms)
    (hd : y.cls ≠ "java/lang/invoke/MethodHandle" ∧ y.cls ≠ "java/lang/invoke/VarHandle" ∧ (parseMethodDescriptor y.desc).map (fun d => d.parameters.length) = some n) (hR : rm.frames + 1 ≤ R.frames ∧ 8 + (maxL + 11) + rm.locals ≤ R.locals) :
    vx_CSW R s args own index y bytes maxL ret hh ws rm mc ms n := by
  have ok : ∀ w ∈ va_wsS own index y ws, w.before args s = true := fun w h => ht w (hT w h).1
  have hG : GoodIn Ts ws := fun w h => hT w (by unfold va_wsS; exact List.mem_append_right _ h)
  have hc : Cond.codeWith y bytes maxL ret hh ∈ ws := by rw [hw]; exact List.mem_cons_self
  refine ⟨⟨hrc, hrs, hR.1, hR.2, pay_in ht hG, hc⟩, ht _ (hG _ hc).1, ok _ (by simp [va_wsS]), ⟨hd.1, hd.2.1⟩, fun sig h => ?_, ok _ (by simp [va_wsS]), ok _ (by simp [va_wsS])⟩
  have h2 := hd.2.2
  rw [h] at h2
  exact (Option.some.inj h2).symm
theorem vx_callSW (X : Stand p l e R s m args below meth c T locs cells slots) (hexec : p.tables.exec = Jvm.exec) {own : String} {index : Nat} {y : MethodName} {bytes : ByteArray} {maxL : Nat} {ret : Option FieldType} {hh : List (Nat × Nat × Nat × Nat)}
    (hown : s.vm.findClass own = some m.cls) (hlink : (Cond.methodLink own index y).before args s = true) (hstat : (Cond.static y).before args s = true) (hinit : (Cond.initialized y.cls).before args s = true)
    (hcode : (Cond.codeWith y bytes maxL ret hh).before args s = true) (hy : y.cls ≠ "java/lang/invoke/MethodHandle" ∧ y.cls ≠ "java/lang/invoke/VarHandle")
    {W9 : Nat} {Pre : Pt → Array Value → Prop} {Post : Pt → Array Value → Option Value → Pt → Prop} (hK : Back l R p e below s args y 3 W9 Pre Post)
    {g : JFrame} (hg : g.method = m) (hsize : g.locals.size = c.maxLocals) {argsL rest : List Value} (hlen : ∀ sig, parseMethodDescriptor y.desc = some sig → argsL.length = sig.parameters.length)
    (hstack : g.stack = argsL.reverse ++ rest) (hW : 2 * g.monitorRoom + (rest.map fun v => v.category).sum ≤ W9) (hdg : decode c.code g.pc = .ok (.invokestatic index, 3))
    (hpre : ∀ vm₁, s.WarmedH vm₁ → Pre ⟨T.setVm vm₁, locs, cells, slots⟩ argsL.toArray) :
    ∃ (v : Option Value) (vm₁ : Vm) (B : Pt), s.WarmedH vm₁ ∧ Stand p l e R s m args below meth c B.U B.locs B.cells B.slots ∧ Post ⟨T.setVm vm₁, locs, cells, slots⟩ argsL.toArray v B ∧
      ∀ target, Steps p.tables e below (B.U.setTop { g with pc := g.pc + 3, stack := v.toList ++ rest }) target → Steps p.tables e below (T.setTop g) target := by
  obtain ⟨mk, methM, cM, hnamed, hmethM, -, -, -, -, -, -, hsigM⟩ := Cond.codeWith_spec hcode
  have hstatic : methM.isStatic = true := Cond.static_spec hnamed hmethM hstat
  obtain ⟨kP, hkP, -⟩ := className_of_methodNamed hnamed
  have hinitP : kP.init = .initialized := Cond.initialized_spec (findClass_of_methodNamed hnamed) hkP hinit
  obtain ⟨vm₁, X₁, hstep₁⟩ := X.invokestatic hexec hown hlink hnamed hmethM hstatic hkP hinitP hy (g := g) hg (argsL := argsL) (rest := rest) (hlen _ hsigM) hstack hdg
  obtain ⟨v, B, X', hpost, hsteps⟩ := hK m meth c ⟨T.setVm vm₁, locs, cells, slots⟩ { g with stack := rest } (.invokestatic index) mk argsL.toArray X₁ hg hsize hdg hW (X₁.named hnamed) (hpre vm₁ X₁.warmed)
  exact ⟨v, vm₁, B, X₁.warmed, X', hpost, fun target h => hstep₁ _ fun acts => by rw [doInvoke_state]; exact hsteps.trans h⟩
theorem vx_runSW {y : MethodName} {bytes cc : ByteArray} {maxL nL mc ms n index : Nat} {ret : Option FieldType} {hh : List (Nat × Nat × Nat × Nat)} {ws : List Cond} {rm : Room} {Pc : Array Value → State → Prop} {Qc : Array Value → State → Outcome → State → Prop} {free : Addr → Prop} {Ts : List Cond} {own : String} {As rest : List Value} {g : JFrame}
    (S : CallFix p m c cc nL s args Ts own) (hM : Met l y ws rm Pc Qc mc ms free) (cw : vx_CSW R s args own index y bytes maxL ret hh ws rm mc ms n) (hp : PreS s H Pc As)
    (hg : g.method = m) (hn : As.length = n) (hsize : g.locals.size = nL) (hstack : g.stack = As.reverse ++ rest) (hW : 2 * g.monitorRoom + (rest.map fun v => v.category).sum ≤ 8) (hdg : decode cc g.pc = .ok (.invokestatic index, 3)) (hf : cells + mc ≤ R.cells ∧ slots + ms ≤ R.slots) :
    va_Run p l e R s m args below meth c H locs cells slots mc ms g rest (Qc As.toArray) (free) := by
  obtain ⟨⟨hrc, hrs, hfr, hlo, hws, hcw⟩, hcode, hini, hy, hlen, hl, hstt⟩ := cw
  have hK : Back l R p e below s args y 3 8 (PreOf R mc ms Pc) (PostOf Qc mc ms free) := va_backW (hh := hh) (bytes := bytes) (maxL := maxL) (ret := ret) hM hp.1 hrc hrs hfr hlo hws hcw (fun a' U hW => word_at hW (Or.inl (by first | rfl | simp [Cond.onTables, Cond.keeps, Cond.steady])) hini)
  obtain ⟨hx, hb, hml, ho, -⟩ := S
  intro T hT X
  obtain ⟨v, vm₁, ⟨U', l2, c2, s2⟩, hW₁, X', ⟨g', mk, t, L, e1, e2, hq, h1, hL, h2, h3⟩, st⟩ := vx_callSW X hx (hh := hh) (bytes := bytes) (maxL := maxL) (ret := ret) ho hl hstt hini hcode hy hK hg (hsize.trans hml.symm) (argsL := As) (rest := rest) (fun sig h => hn.trans (hlen sig h)) hstack hW (by rw [hb]; exact hdg)
    (fun vm₁ hW₁ => ⟨hf.1, hf.2, hp.2 (T.setVm vm₁) hT hW₁⟩)
  dsimp only [Pt.U, Pt.locs, Pt.cells, Pt.slots] at X' e1 e2 h1 h2 h3 st
  subst h1; subst h2; subst h3
  exact ⟨v, (T.setVm vm₁).calling g' mk As.toArray, t, U', L, hT, X', hL, e1, e2, hq, st⟩
/-- not caught here, past rows that name other classes: it goes on to the caller -/
theorem vx_outP {p : Program} {l : Launch} {e : Env} {R : Room} {s : State} {m : MethodId} {args : Array Value} {below : List Frame} {meth : Method} {c : Code} {H : Heap} {locs : List Loc} {cells slots : Nat} {free : Addr → Prop} {ls : Array Slot} {rest : List Value} {Qc : Array Value → State → Outcome → State → Prop} {XC : String → State → State → Prop}
    {pc : Nat} {own E : String} {ce : Cell} {q : Addr} {mc ms : Nat} (hown : s.vm.findClass own = some m.cls) (hlocks : meth.locks = false)
    (hpass : ∀ z ∈ c.exceptionTable.toList, covers z pc = false ∨ (z.catchType ≠ 0 ∧ ∃ nm : String, (Cond.classLink own z.catchType nm).before args s = true ∧ va_Nc E nm s)) (hcell : H[q]? = some ce) (hv : ce.vm = .none) (hcl : s.vm.findClass E = some ce.cls)
    (hx : ∀ t : State, t.heap = H → s.vm.Alike t.vm → XC E s t) (hf : ∀ z ∈ locs, free z.base) (hc : cells ≤ mc) (hs : slots ≤ ms) :
    vx_W p l e R s m args below meth c H locs cells slots (vx_MQ below Qc XC args s mc ms free) (F0 m pc ls rest) q := by
  intro T hT X
  have hpl : e.platform.magicAccessors = ({} : Platform).magicAccessors := by rw [X.admits.platform]
  obtain ⟨vm', hW', X', st⟩ := X.outThrough hlocks q (g := F0 m pc ls rest) rfl rfl rfl (cell := ce) (by rw [hT]; exact hcell) (by rw [hv]; rfl)
    (by obtain ⟨k9, h9, -⟩ := Vm.findClass_spec hcl; exact ⟨k9, h9⟩) (fun z hz => by
      rcases hpass z hz with h | ⟨hz0, nm, hl1, hn1⟩
      · exact Or.inl h
      · obtain ⟨c6, hc6, hcl6⟩ := Cond.classLink_spec hown hl1 e.platform hpl
        obtain ⟨a8, b8, h1, h2, h3⟩ := hn1
        cases Option.some.inj (h1.symm.trans hcl)
        cases Option.some.inj (h2.symm.trans hc6)
        exact Or.inr ⟨hz0, _, hcl6, h3⟩)
  obtain ⟨g₀, hfr⟩ := X'.frames_eq
  have hcell9 : ((T.setVm vm').setFrames (.throwing q :: below)).heap[q]? = some ce := by
    show T.heap[q]? = some ce
    rw [hT]; exact hcell
  have hend : Ended ((T.setVm vm').setFrames (.throwing q :: below)) below (.threw q) := State.frames_setFrames _ (State.cur_lt_of_frames hfr)
  refine ⟨(T.setVm vm').setFrames (.throwing q :: below), ?_, .threw q, X'.here.running, hend, Or.inr ⟨q, rfl, E, ce, locs, hx _ hT (X'.ends _).1.alike, hcell9, hv, hcl, (X'.ends _).1, (X'.ends _).2.mono hc hs, hf⟩⟩
  rw [X.pushThrowing_eq]
  exact st
/-- a thing of a world lies in the heap -/
theorem vx_lt {D : va_G} {cl : List vw_C} {ws : va_W} {H1 : Heap} (h : va_P D cl ws H1) {k : Nat} {q : Nat × va_E} (hk : ws[k]? = some q) : q.1 < H1.size := (h k q hk).lt
end VXS
/-! ===== END ===== -/
/-! ===== BEGIN methods with a table of their own: called by a name, returning or throwing ===== -/
section VXH
/-! vx_backW, vx_callVX, vx_callSX, vx_callVW, vx_runVW, vx_runVX, vx_runSX, vx_ofWH follow the same proofs as their sisters above (Free/Laws.lean, Shelf42/LK1.lean); vx_outP calls Shelf42/NT130.lean (outThrough). -/
section
variable {l : Launch} {R : Room} {p : Program} {e : Env} {below : List Frame} {s : State} {sargs : Array Value} {y : MethodName} {len W9 : Nat}
theorem vx_backW {ws : List Cond} {rm : Room} {Pc : Array Value → State → Prop} {Qc : Array Value → State → Outcome → State → Prop} {XC : String → State → State → Prop} {mc ms : Nat} {free : Addr → Prop} {bytes : ByteArray} {maxL : Nat} {ret : Option FieldType} {hh : List (Nat × Nat × Nat × Nat)}
    (hM : vx_Met l y ws rm Pc Qc XC mc ms free) (hblind : FrameBlind Pc) (hrc : rm.cells = mc) (hrs : rm.slots = ms)
    (hframes : rm.frames + 1 ≤ R.frames) (hlocals : W9 + (maxL + 11) + rm.locals ≤ R.locals)
    (hws : ∀ w ∈ ws, ∀ a' U, s.WarmedH U.vm → w.before a' U = true) (hcode : Cond.codeWith y bytes maxL ret hh ∈ ws) (hinit : ∀ a' U, s.WarmedH U.vm → (Cond.initialized y.cls).before a' U = true) :
    vx_Back l R p e below s sargs y len W9 (PreOf R mc ms Pc) (PostOf Qc mc ms free) (vx_Post XC mc ms free) := by
  intro m meth c A g ig mk a X hg hsize hdg hW hn hp
  have h1 : (headSpec ws rm).pre.before a A.U = true := atoms_intro fun w hw => hws w hw _ _ X.warmed
  have h2 : (Cond.codeWith y bytes maxL ret hh).before a A.U = true := hws _ hcode _ _ X.warmed
  have h3 : (Cond.initialized y.cls).before a A.U = true := hinit _ _ X.warmed
  have h4 : A.cells + (headSpec ws rm).room.cells ≤ R.cells := by rw [show (headSpec ws rm).room.cells = mc from hrc]; exact hp.1
  have h5 : A.slots + (headSpec ws rm).room.slots ≤ R.slots := by rw [show (headSpec ws rm).room.slots = ms from hrs]; exact hp.2.1
  have hPc : Pc a (A.U.calling g mk a) := hblind _ _ _ _ hp.2.2
  obtain ⟨U, Ls, c0, s0⟩ := A
  dsimp only [Pt.U, Pt.locs, Pt.cells, Pt.slots] at h1 h2 h3 h4 h5 X hn hPc ⊢
  obtain ⟨m9, methY, cY, hn9, hmY, hcY, -, hlY, -⟩ := Cond.codeWith_spec h2
  cases Option.some.inj (hn9.symm.trans hn)
  obtain ⟨kY, hkY, -⟩ := className_of_methodNamed hn
  have hinitY : kY.init = .initialized := Cond.initialized_spec (findClass_of_methodNamed hn) hkY h3
  have h : At U g.method c below := by rw [hg]; exact X.here
  have hlocals9 : W9 + (maxL + 11) + (headSpec ws rm).room.locals ≤ R.locals := hlocals
  have happ : (headSpec ws rm).appliesLoose y e.platform (U.calling g mk a) = true :=
    Spec.appliesLoose_calling (g := g) h hdg hn hkY hinitY
      (X.room_calling (g := g) (R' := (headSpec ws rm).room) hsize hmY hcY hframes (by rw [hlY]; omega) h4 h5) h1
  obtain ⟨mid, hmid⟩ := h.above
  have hfr : (U.setTop g).frames = (.java g :: mid) ++ below := by rw [State.frames_setTop' g h.top, hmid]; rfl
  obtain ⟨o, s₂, hsteps, -, hend, hq⟩ := Steps.callFree hM p X.admits X.cas X.clock (acts := []) hfr happ hPc trivial
  have hq' : vx_Q Qc XC mc ms free a (U.calling g mk a) o s₂ := hq
  rw [State.frames_setTop' g h.top] at hend
  obtain ⟨g₀, hg0⟩ := Option.isSome_iff_exists.mp h.top
  obtain ⟨r, hr⟩ := State.topJava?_eq_some.mp hg0
  have hr' : (({ U with heap := s₂.heap, slotsUsed := s₂.slotsUsed } : State).setVm s₂.vm).frames = .java g₀ :: r := hr
  rcases hq' with ⟨hqc, L, hfe, hL⟩ | ⟨q, rfl, E, ce, L, hx, hce, hcv, hcl, hW₂, hsm, hL⟩
  · obtain ⟨⟨v, rfl⟩, hW₂, e2, q2, q3, q4, q5, q6⟩ := id hfe
    have e3 : s₂ = ({ (U.calling g mk a).setFrames s₂.frames with heap := s₂.heap, slotsUsed := s₂.slotsUsed } : State).setVm s₂.vm := by
      have : s₂ = ({ s₂ with vm := (U.calling g mk a).vm } : State).setVm s₂.vm := rfl
      rw [e2] at this
      exact this
    obtain ⟨c₂, i₂, len₂, hc₂, hd₂, hf₂⟩ := hend
    have hW' : U.WarmedH s₂.vm := hW₂
    have hcc : c₂ = c := by
      have h1 : s₂.code? g.method = U.code? g.method := by
        rw [State.code?_eq, State.code?_eq, hW'.alike.method?]
      exact Option.some.inj (hc₂.symm.trans (h1.trans h.code))
    subst hcc
    have hlen : len₂ = len := by rw [hdg] at hd₂; cases hd₂; rfl
    subst hlen
    have hs₂ : s₂ = (({ U with heap := s₂.heap, slotsUsed := s₂.slotsUsed } : State).setVm s₂.vm).setTop { g with pc := g.pc + len₂, stack := v.toList ++ g.stack } := by
      refine e3.trans ?_
      rw [hf₂, State.calling_eq h.top, State.setFrames_setFrames, State.setTop_of_frames _ hr', hr]
      rfl
    have hsame : U.sameButNew ({ U with heap := s₂.heap, slotsUsed := s₂.slotsUsed } : State) L mc ms := by
      refine ⟨?_, q2, q3, q4, q5, q6⟩
      obtain ⟨t, ht, -⟩ := State.frames_cons hr
      show ({ U with heap := s₂.heap, slotsUsed := s₂.slotsUsed } : State) = { U.setFrames U.frames with heap := s₂.heap, slotsUsed := s₂.slotsUsed }
      rw [State.setFrames_self ht]
    subst hg
    refine Or.inl ⟨v, ⟨(({ U with heap := s₂.heap, slotsUsed := s₂.slotsUsed } : State).setVm s₂.vm), Ls ++ L, c0 + mc, s0 + ms⟩,
      ⟨X.admits, X.cas, X.clock, X.frames, X.room, X.hears, X.method, X.code, (X.here.setHeapUsed s₂.heap s₂.slotsUsed).setVm hW'.alike, X.tail, State.WarmedH.trans X.warmed hW', X.limits, X.bytes, X.same.trans (hsame.setVm s.vm)⟩,
      ⟨g, mk, s₂, L, rfl, rfl, hqc, rfl, hL, rfl, rfl⟩, ?_⟩
    show Steps p.tables e below _ ((({ U with heap := s₂.heap, slotsUsed := s₂.slotsUsed } : State).setVm s₂.vm).setTop { g with pc := g.pc + len₂, stack := v.toList ++ g.stack })
    rw [← hs₂]
    exact hsteps
  · obtain ⟨e2, q2, q3, q4, q5, q6⟩ := id hsm
    have e3 : s₂ = ({ (U.calling g mk a).setFrames s₂.frames with heap := s₂.heap, slotsUsed := s₂.slotsUsed } : State).setVm s₂.vm := by
      have : s₂ = ({ s₂ with vm := (U.calling g mk a).vm } : State).setVm s₂.vm := rfl
      rw [e2] at this
      exact this
    have hf₂ : s₂.frames = .throwing q :: .java g :: U.frames.tail := hend
    have hW' : U.WarmedH s₂.vm := hW₂
    have hs₂ : s₂ = ((({ U with heap := s₂.heap, slotsUsed := s₂.slotsUsed } : State).setVm s₂.vm).setTop g).pushFrame (.throwing q) := by
      refine e3.trans ?_
      rw [hf₂, State.calling_eq h.top, State.setFrames_setFrames, State.pushFrame, State.frames_setTop _ hr', State.setTop_of_frames _ hr', State.setFrames_setFrames, hr]
      rfl
    have hsame : U.sameButNew ({ U with heap := s₂.heap, slotsUsed := s₂.slotsUsed } : State) L mc ms := by
      refine ⟨?_, q2, q3, q4, q5, q6⟩
      obtain ⟨t, ht, -⟩ := State.frames_cons hr
      show ({ U with heap := s₂.heap, slotsUsed := s₂.slotsUsed } : State) = { U.setFrames U.frames with heap := s₂.heap, slotsUsed := s₂.slotsUsed }
      rw [State.setFrames_self ht]
    subst hg
    refine Or.inr ⟨q, ⟨(({ U with heap := s₂.heap, slotsUsed := s₂.slotsUsed } : State).setVm s₂.vm), Ls ++ L, c0 + mc, s0 + ms⟩,
      ⟨X.admits, X.cas, X.clock, X.frames, X.room, X.hears, X.method, X.code, (X.here.setHeapUsed s₂.heap s₂.slotsUsed).setVm hW'.alike, X.tail, State.WarmedH.trans X.warmed hW', X.limits, X.bytes, X.same.trans (hsame.setVm s.vm)⟩,
      ⟨g, mk, s₂, L, E, ce, rfl, rfl, hx, hce, hcv, hcl, rfl, hL, rfl, rfl⟩, ?_⟩
    show Steps p.tables e below _ (((({ U with heap := s₂.heap, slotsUsed := s₂.slotsUsed } : State).setVm s₂.vm).setTop g).pushFrame (.throwing q))
    rw [← hs₂]
    exact hsteps
end
variable {p : Program} {l : Launch} {e : Env} {R : Room} {s : State} {m : MethodId} {args : Array Value} {below : List Frame} {meth : Method} {c : Code} {T : State} {H : Heap} {locs : List Loc} {cells slots : Nat}
theorem vx_callVX (X : Stand p l e R s m args below meth c T locs cells slots) (hexec : p.tables.exec = Jvm.exec) {own C : String} {index : Nat} {y : MethodName} {bytes : ByteArray} {maxL : Nat} {ret : Option FieldType} {hh : List (Nat × Nat × Nat × Nat)}
    (hown : s.vm.findClass own = some m.cls) (hlink : (Cond.methodLink own index y).before args s = true) (hinst : (Cond.instanceMethod y).before args s = true) (hsel : (Cond.selects C y y).before args s = true)
    (hcode : (Cond.codeWith y bytes maxL ret hh).before args s = true) (hy : y.cls ≠ "java/lang/invoke/MethodHandle" ∧ y.cls ≠ "java/lang/invoke/VarHandle")
    {W9 : Nat} {Pre : Pt → Array Value → Prop} {Post : Pt → Array Value → Option Value → Pt → Prop} {PostX : Pt → Array Value → Addr → Pt → Prop} (hK : vx_Back l R p e below s args y 3 W9 Pre Post PostX)
    {b : Addr} {cellB : Cell} (hcell : T.heap[b]? = some cellB) (hobj : cellB.vm.isStatics = false) (hcls : s.vm.findClass C = some cellB.cls)
    {g : JFrame} (hg : g.method = m) (hsize : g.locals.size = c.maxLocals) {argsL rest : List Value} (hlen : ∀ sig, parseMethodDescriptor y.desc = some sig → argsL.length = sig.parameters.length)
    (hstack : g.stack = argsL.reverse ++ .ref b :: rest) (hW : 2 * g.monitorRoom + (rest.map fun v => v.category).sum ≤ W9) (hdg : decode c.code g.pc = .ok (.invokevirtual index, 3))
    (hpre : ∀ vm₁, s.WarmedH vm₁ → Pre ⟨T.setVm vm₁, locs, cells, slots⟩ (Value.ref b :: argsL).toArray) :
    (∃ (v : Option Value) (vm₁ : Vm) (B : Pt), s.WarmedH vm₁ ∧ Stand p l e R s m args below meth c B.U B.locs B.cells B.slots ∧ Post ⟨T.setVm vm₁, locs, cells, slots⟩ (Value.ref b :: argsL).toArray v B ∧
      ∀ target, Steps p.tables e below (B.U.setTop { g with pc := g.pc + 3, stack := v.toList ++ rest }) target → Steps p.tables e below (T.setTop g) target) ∨
    (∃ (q : Addr) (vm₁ : Vm) (B : Pt), s.WarmedH vm₁ ∧ Stand p l e R s m args below meth c B.U B.locs B.cells B.slots ∧ PostX ⟨T.setVm vm₁, locs, cells, slots⟩ (Value.ref b :: argsL).toArray q B ∧
      Steps p.tables e below (T.setTop g) ((B.U.setTop { g with stack := rest }).pushFrame (.throwing q))) := by
  obtain ⟨mk, methM, hnamed, hmethM, hstM, habM⟩ := Cond.instanceMethod_spec hinst
  obtain ⟨m8, methM', cM, hn8, hmethM', -, -, -, -, -, -, hsigM⟩ := Cond.codeWith_spec hcode
  cases Option.some.inj (hn8.symm.trans hnamed)
  cases hmethM.symm.trans hmethM'
  obtain ⟨c2, r2, m2, q1, q2, q3, q4, kP, hkP, hkPi⟩ := Cond.selects_spec hsel
  cases hcls.symm.trans q1
  cases (State.methodFound?_of_named hnamed hy).symm.trans q2
  cases hnamed.symm.trans q3
  have hselP : selectMethod e.platform s.vm cellB.cls mk = .method mk := by rw [Launch.admits_selectMethod X.admits]; exact q4
  obtain ⟨vm₁, X₁, hstep₁⟩ := X.invokevirtual hexec hown hlink hnamed hmethM hstM hkP hkPi hy (a := b) (cell := cellB) hcell
    (fun z h => by rw [h] at hobj; cases hobj) hselP hmethM habM hkP hkPi (g := g) hg (argsL := argsL) (rest := rest) (hlen _ hsigM) hstack hdg
  rcases hK m meth c ⟨T.setVm vm₁, locs, cells, slots⟩ { g with stack := rest } (.invokevirtual index) mk (Value.ref b :: argsL).toArray X₁ hg hsize hdg hW (X₁.named hnamed) (hpre vm₁ X₁.warmed) with ⟨v, B, X', hpost, hsteps⟩ | ⟨q, B, X', hpost, hsteps⟩
  · exact Or.inl ⟨v, vm₁, B, X₁.warmed, X', hpost, fun target h => hstep₁ _ fun acts => by rw [doInvoke_state]; exact hsteps.trans h⟩
  · exact Or.inr ⟨q, vm₁, B, X₁.warmed, X', hpost, hstep₁ _ fun acts => by rw [doInvoke_state]; exact hsteps⟩
theorem vx_callSX (X : Stand p l e R s m args below meth c T locs cells slots) (hexec : p.tables.exec = Jvm.exec) {own : String} {index : Nat} {y : MethodName} {bytes : ByteArray} {maxL : Nat} {ret : Option FieldType} {hh : List (Nat × Nat × Nat × Nat)}
    (hown : s.vm.findClass own = some m.cls) (hlink : (Cond.methodLink own index y).before args s = true) (hstat : (Cond.static y).before args s = true) (hinit : (Cond.initialized y.cls).before args s = true)
    (hcode : (Cond.codeWith y bytes maxL ret hh).before args s = true) (hy : y.cls ≠ "java/lang/invoke/MethodHandle" ∧ y.cls ≠ "java/lang/invoke/VarHandle")
    {W9 : Nat} {Pre : Pt → Array Value → Prop} {Post : Pt → Array Value → Option Value → Pt → Prop} {PostX : Pt → Array Value → Addr → Pt → Prop} (hK : vx_Back l R p e below s args y 3 W9 Pre Post PostX)
    {g : JFrame} (hg : g.method = m) (hsize : g.locals.size = c.maxLocals) {argsL rest : List Value} (hlen : ∀ sig, parseMethodDescriptor y.desc = some sig → argsL.length = sig.parameters.length)
    (hstack : g.stack = argsL.reverse ++ rest) (hW : 2 * g.monitorRoom + (rest.map fun v => v.category).sum ≤ W9) (hdg : decode c.code g.pc = .ok (.invokestatic index, 3))
    (hpre : ∀ vm₁, s.WarmedH vm₁ → Pre ⟨T.setVm vm₁, locs, cells, slots⟩ argsL.toArray) :
    (∃ (v : Option Value) (vm₁ : Vm) (B : Pt), s.WarmedH vm₁ ∧ Stand p l e R s m args below meth c B.U B.locs B.cells B.slots ∧ Post ⟨T.setVm vm₁, locs, cells, slots⟩ argsL.toArray v B ∧
      ∀ target, Steps p.tables e below (B.U.setTop { g with pc := g.pc + 3, stack := v.toList ++ rest }) target → Steps p.tables e below (T.setTop g) target) ∨
    (∃ (q : Addr) (vm₁ : Vm) (B : Pt), s.WarmedH vm₁ ∧ Stand p l e R s m args below meth c B.U B.locs B.cells B.slots ∧ PostX ⟨T.setVm vm₁, locs, cells, slots⟩ argsL.toArray q B ∧
      Steps p.tables e below (T.setTop g) ((B.U.setTop { g with stack := rest }).pushFrame (.throwing q))) := by
  obtain ⟨mk, methM, cM, hnamed, hmethM, -, -, -, -, -, -, hsigM⟩ := Cond.codeWith_spec hcode
  have hstatic : methM.isStatic = true := Cond.static_spec hnamed hmethM hstat
  obtain ⟨kP, hkP, -⟩ := className_of_methodNamed hnamed
  have hinitP : kP.init = .initialized := Cond.initialized_spec (findClass_of_methodNamed hnamed) hkP hinit
  obtain ⟨vm₁, X₁, hstep₁⟩ := X.invokestatic hexec hown hlink hnamed hmethM hstatic hkP hinitP hy (g := g) hg (argsL := argsL) (rest := rest) (hlen _ hsigM) hstack hdg
  rcases hK m meth c ⟨T.setVm vm₁, locs, cells, slots⟩ { g with stack := rest } (.invokestatic index) mk argsL.toArray X₁ hg hsize hdg hW (X₁.named hnamed) (hpre vm₁ X₁.warmed) with ⟨v, B, X', hpost, hsteps⟩ | ⟨q, B, X', hpost, hsteps⟩
  · exact Or.inl ⟨v, vm₁, B, X₁.warmed, X', hpost, fun target h => hstep₁ _ fun acts => by rw [doInvoke_state]; exact hsteps.trans h⟩
  · exact Or.inr ⟨q, vm₁, B, X₁.warmed, X', hpost, hstep₁ _ fun acts => by rw [doInvoke_state]; exact hsteps⟩
theorem vx_callVW (X : Stand p l e R s m args below meth c T locs cells slots) (hexec : p.tables.exec = Jvm.exec) {own C : String} {index : Nat} {y : MethodName} {bytes : ByteArray} {maxL : Nat} {ret : Option FieldType} {hh : List (Nat × Nat × Nat × Nat)}
    (hown : s.vm.findClass own = some m.cls) (hlink : (Cond.methodLink own index y).before args s = true) (hinst : (Cond.instanceMethod y).before args s = true) (hsel : (Cond.selects C y y).before args s = true)
    (hcode : (Cond.codeWith y bytes maxL ret hh).before args s = true) (hy : y.cls ≠ "java/lang/invoke/MethodHandle" ∧ y.cls ≠ "java/lang/invoke/VarHandle")
    {W9 : Nat} {Pre : Pt → Array Value → Prop} {Post : Pt → Array Value → Option Value → Pt → Prop} (hK : Back l R p e below s args y 3 W9 Pre Post)
    {b : Addr} {cellB : Cell} (hcell : T.heap[b]? = some cellB) (hobj : cellB.vm.isStatics = false) (hcls : s.vm.findClass C = some cellB.cls)
    {g : JFrame} (hg : g.method = m) (hsize : g.locals.size = c.maxLocals) {argsL rest : List Value} (hlen : ∀ sig, parseMethodDescriptor y.desc = some sig → argsL.length = sig.parameters.length)
    (hstack : g.stack = argsL.reverse ++ .ref b :: rest) (hW : 2 * g.monitorRoom + (rest.map fun v => v.category).sum ≤ W9) (hdg : decode c.code g.pc = .ok (.invokevirtual index, 3))
    (hpre : ∀ vm₁, s.WarmedH vm₁ → Pre ⟨T.setVm vm₁, locs, cells, slots⟩ (Value.ref b :: argsL).toArray) :
    ∃ (v : Option Value) (vm₁ : Vm) (B : Pt), s.WarmedH vm₁ ∧ Stand p l e R s m args below meth c B.U B.locs B.cells B.slots ∧ Post ⟨T.setVm vm₁, locs, cells, slots⟩ (Value.ref b :: argsL).toArray v B ∧
      ∀ target, Steps p.tables e below (B.U.setTop { g with pc := g.pc + 3, stack := v.toList ++ rest }) target → Steps p.tables e below (T.setTop g) target := by
  obtain ⟨mk, methM, hnamed, hmethM, hstM, habM⟩ := Cond.instanceMethod_spec hinst
  obtain ⟨m8, methM', cM, hn8, hmethM', -, -, -, -, -, -, hsigM⟩ := Cond.codeWith_spec hcode
  cases Option.some.inj (hn8.symm.trans hnamed)
  cases hmethM.symm.trans hmethM'
  obtain ⟨c2, r2, m2, q1, q2, q3, q4, kP, hkP, hkPi⟩ := Cond.selects_spec hsel
  cases hcls.symm.trans q1
  cases (State.methodFound?_of_named hnamed hy).symm.trans q2
  cases hnamed.symm.trans q3
  have hselP : selectMethod e.platform s.vm cellB.cls mk = .method mk := by rw [Launch.admits_selectMethod X.admits]; exact q4
  obtain ⟨vm₁, X₁, hstep₁⟩ := X.invokevirtual hexec hown hlink hnamed hmethM hstM hkP hkPi hy (a := b) (cell := cellB) hcell
    (fun z h => by rw [h] at hobj; cases hobj) hselP hmethM habM hkP hkPi (g := g) hg (argsL := argsL) (rest := rest) (hlen _ hsigM) hstack hdg
  obtain ⟨v, B, X', hpost, hsteps⟩ := hK m meth c ⟨T.setVm vm₁, locs, cells, slots⟩ { g with stack := rest } (.invokevirtual index) mk (Value.ref b :: argsL).toArray X₁ hg hsize hdg hW (X₁.named hnamed) (hpre vm₁ X₁.warmed)
  exact ⟨v, vm₁, B, X₁.warmed, X', hpost, fun target h => hstep₁ _ fun acts => by rw [doInvoke_state]; exact hsteps.trans h⟩
abbrev vx_CVW (R : Room) (s : State) (args : Array Value) (own C : String) (index : Nat) (y : MethodName) (bytes : ByteArray) (maxL : Nat) (ret : Option FieldType) (hh : List (Nat × Nat × Nat × Nat)) (ws : List Cond) (rm : Room) (mc ms n : Nat) : Prop :=
  (rm.cells = mc ∧ rm.slots = ms ∧ rm.frames + 1 ≤ R.frames ∧ 8 + (maxL + 11) + rm.locals ≤ R.locals ∧ (∀ w ∈ ws, ∀ (a' : Array Value) (U : State), s.WarmedH U.vm → w.before a' U = true) ∧ Cond.codeWith y bytes maxL ret hh ∈ ws) ∧
  (Cond.codeWith y bytes maxL ret hh).before args s = true ∧ (Cond.initialized y.cls).before args s = true ∧ (y.cls ≠ "java/lang/invoke/MethodHandle" ∧ y.cls ≠ "java/lang/invoke/VarHandle") ∧
  (∀ sig, parseMethodDescriptor y.desc = some sig → n = sig.parameters.length) ∧ (Cond.methodLink own index y).before args s = true ∧ (Cond.instanceMethod y).before args s = true ∧ (Cond.selects C y y).before args s = true
theorem vx_cwVW {own C : String} {index maxL mc ms : Nat} {y : MethodName} {bytes : ByteArray} {ret : Option FieldType} {hh : List (Nat × Nat × Nat × Nat)} {Ts ws ws' : List Cond} {rm : Room} (n : Nat) (ht : ∀ w ∈ Ts, w.before args s = true) (hT : GoodIn Ts (wsV own index C y ws)) (hw : ws = Cond.codeWith y bytes maxL ret hh :: ws') (hrc : rm.cells = mc) (hrs : rm.slots = ms)
    (hd : y.cls = C ∧ y.cls ≠ "java/lang/invoke/MethodHandle" ∧ y.cls ≠ "java/lang/invoke/VarHandle" ∧ (parseMethodDescriptor y.desc).map (fun d => d.parameters.length) = some n) (hR : rm.frames + 1 ≤ R.frames ∧ 8 + (maxL + 11) + rm.locals ≤ R.locals) :
    vx_CVW R s args own C index y bytes maxL ret hh ws rm mc ms n := by
  obtain ⟨hC, hd⟩ := hd
  subst hC
  have ok : ∀ w ∈ wsV own index y.cls y ws, w.before args s = true := fun w h => ht w (hT w h).1
  have hG : GoodIn Ts ws := fun w h => hT w (by unfold wsV; exact List.mem_append_right _ h)
  have hc : Cond.codeWith y bytes maxL ret hh ∈ ws := by rw [hw]; exact List.mem_cons_self
  refine ⟨⟨hrc, hrs, hR.1, hR.2, pay_in ht hG, hc⟩, ht _ (hG _ hc).1, ok _ (by simp [wsV]), ⟨hd.1, hd.2.1⟩, fun sig h => ?_, ok _ (by simp [wsV]), ok _ (by simp [wsV]), ok _ (by simp [wsV])⟩
  have h2 := hd.2.2
  rw [h] at h2
  exact (Option.some.inj h2).symm
theorem vx_runVW {y : MethodName} {bytes cc : ByteArray} {maxL nL mc ms n index : Nat} {ret : Option FieldType} {hh : List (Nat × Nat × Nat × Nat)} {ws : List Cond} {rm : Room} {Pc : Array Value → State → Prop} {Qc : Array Value → State → Outcome → State → Prop} {free : Addr → Prop} {Ts : List Cond} {own C : String} {b : Addr} {As rest : List Value} {g : JFrame}
    (S : CallFix p m c cc nL s args Ts own) (hM : Met l y ws rm Pc Qc mc ms free) (cw : vx_CVW R s args own C index y bytes maxL ret hh ws rm mc ms n) (hp : PreV s H C b Pc As)
    (hg : g.method = m) (hn : As.length = n) (hsize : g.locals.size = nL) (hstack : g.stack = As.reverse ++ .ref b :: rest) (hW : 2 * g.monitorRoom + (rest.map fun v => v.category).sum ≤ 8) (hdg : decode cc g.pc = .ok (.invokevirtual index, 3)) (hf : cells + mc ≤ R.cells ∧ slots + ms ≤ R.slots) :
    va_Run p l e R s m args below meth c H locs cells slots mc ms g rest (Qc (Value.ref b :: As).toArray) free := by
  obtain ⟨⟨hrc, hrs, hfr, hlo, hws, hcw⟩, hcode, hini, hy, hlen, hl, hin, hse⟩ := cw
  have hK : Back l R p e below s args y 3 8 (PreOf R mc ms Pc) (PostOf Qc mc ms free) := va_backW (hh := hh) (bytes := bytes) (maxL := maxL) (ret := ret) hM hp.1 hrc hrs hfr hlo hws hcw (fun a' U hW => word_at hW (Or.inl (by first | rfl | simp [Cond.onTables, Cond.keeps, Cond.steady])) hini)
  obtain ⟨hx, hb, hml, ho, -⟩ := S
  obtain ⟨-, ⟨cellB, hcB, hoB, hclB⟩, hPc⟩ := hp
  intro T hT X
  obtain ⟨v, vm₁, ⟨U', l2, c2, s2⟩, hW₁, X', ⟨g', mk, t, L, e1, e2, hq, h1, hL, h2, h3⟩, st⟩ := vx_callVW X hx (C := C) (hh := hh) (bytes := bytes) (maxL := maxL) (ret := ret) ho hl hin hse hcode hy hK (by rw [hT]; exact hcB) hoB hclB hg (hsize.trans hml.symm) (argsL := As) (rest := rest) (fun sig h => hn.trans (hlen sig h)) hstack hW (by rw [hb]; exact hdg)
    (fun vm₁ hW₁ => ⟨hf.1, hf.2, hPc (T.setVm vm₁) hT hW₁⟩)
  dsimp only [Pt.U, Pt.locs, Pt.cells, Pt.slots] at X' e1 e2 h1 h2 h3 st
  subst h1; subst h2; subst h3
  exact ⟨v, (T.setVm vm₁).calling g' mk (Value.ref b :: As).toArray, t, U', L, hT, X', hL, e1, e2, hq, st⟩
section
variable {y : MethodName} {bytes cc : ByteArray} {maxL nL mc ms n index : Nat} {ret : Option FieldType} {ws : List Cond} {rm : Room} {Pc : Array Value → State → Prop} {Qc : Array Value → State → Outcome → State → Prop} {XC : String → State → State → Prop} {free : Addr → Prop} {Ts : List Cond} {own C : String} {b : Addr} {As rest : List Value} {g : JFrame}
theorem vx_runVX {hh : List (Nat × Nat × Nat × Nat)} (S : CallFix p m c cc nL s args Ts own) (hM : vx_Met l y ws rm Pc Qc XC mc ms free) (cw : vx_CVW R s args own C index y bytes maxL ret hh ws rm mc ms n) (hp : PreV s H C b Pc As)
    (hg : g.method = m) (hn : As.length = n) (hsize : g.locals.size = nL) (hstack : g.stack = As.reverse ++ .ref b :: rest) (hW : 2 * g.monitorRoom + (rest.map fun v => v.category).sum ≤ 8) (hdg : decode cc g.pc = .ok (.invokevirtual index, 3)) (hf : cells + mc ≤ R.cells ∧ slots + ms ≤ R.slots) :
    vx_Run p l e R s m args below meth c H locs cells slots mc ms g rest (Qc (Value.ref b :: As).toArray) XC free := by
  obtain ⟨⟨hrc, hrs, hfr, hlo, hws, hcw⟩, hcode, hini, hy, hlen, hl, hin, hse⟩ := cw
  have hK : vx_Back l R p e below s args y 3 8 (PreOf R mc ms Pc) (PostOf Qc mc ms free) (vx_Post XC mc ms free) := vx_backW (hh := hh) (bytes := bytes) (maxL := maxL) (ret := ret) hM hp.1 hrc hrs hfr hlo hws hcw (fun a' U hW => word_at hW (Or.inl (by first | rfl | simp [Cond.onTables, Cond.keeps, Cond.steady])) hini)
  obtain ⟨hx, hb, hml, ho, -⟩ := S
  obtain ⟨-, ⟨cellB, hcB, hoB, hclB⟩, hPc⟩ := hp
  intro T hT X
  rcases vx_callVX X hx (C := C) (hh := hh) (bytes := bytes) (maxL := maxL) (ret := ret) ho hl hin hse hcode hy hK (by rw [hT]; exact hcB) hoB hclB hg (hsize.trans hml.symm) (argsL := As) (rest := rest) (fun sig h => hn.trans (hlen sig h)) hstack hW (by rw [hb]; exact hdg)
    (fun vm₁ hW₁ => ⟨hf.1, hf.2, hPc (T.setVm vm₁) hT hW₁⟩) with ⟨v, vm₁, ⟨U', l2, c2, s2⟩, hW₁, X', ⟨g', mk, t, L, e1, e2, hq, h1, hL, h2, h3⟩, st⟩ | ⟨q, vm₁, ⟨U', l2, c2, s2⟩, hW₁, X', ⟨g', mk, t, L, E, ce, e1, e2, hq, hce, hcv, hcl, h1, hL, h2, h3⟩, st⟩
  · dsimp only [Pt.U, Pt.locs, Pt.cells, Pt.slots] at X' e1 e2 h1 h2 h3 st
    subst h1; subst h2; subst h3
    exact Or.inl ⟨v, (T.setVm vm₁).calling g' mk (Value.ref b :: As).toArray, t, U', L, hT, X', hL, e1, e2, hq, st⟩
  · dsimp only [Pt.U, Pt.locs, Pt.cells, Pt.slots] at X' e1 e2 h1 h2 h3 st hcl
    subst h1; subst h2; subst h3
    exact Or.inr ⟨q, (T.setVm vm₁).calling g' mk (Value.ref b :: As).toArray, t, U', L, E, ce, hT, X', hL, e1, e2, hq, hce, hcv, vx_cls hW₁ hcl, st⟩
theorem vx_runSX {hh : List (Nat × Nat × Nat × Nat)} (S : CallFix p m c cc nL s args Ts own) (hM : vx_Met l y ws rm Pc Qc XC mc ms free) (cw : vx_CSW R s args own index y bytes maxL ret hh ws rm mc ms n) (hp : PreS s H Pc As)
    (hg : g.method = m) (hn : As.length = n) (hsize : g.locals.size = nL) (hstack : g.stack = As.reverse ++ rest) (hW : 2 * g.monitorRoom + (rest.map fun v => v.category).sum ≤ 8) (hdg : decode cc g.pc = .ok (.invokestatic index, 3)) (hf : cells + mc ≤ R.cells ∧ slots + ms ≤ R.slots) :
    vx_Run p l e R s m args below meth c H locs cells slots mc ms g rest (Qc As.toArray) XC free := by
  obtain ⟨⟨hrc, hrs, hfr, hlo, hws, hcw⟩, hcode, hini, hy, hlen, hl, hstt⟩ := cw
  have hK : vx_Back l R p e below s args y 3 8 (PreOf R mc ms Pc) (PostOf Qc mc ms free) (vx_Post XC mc ms free) := vx_backW (hh := hh) (bytes := bytes) (maxL := maxL) (ret := ret) hM hp.1 hrc hrs hfr hlo hws hcw (fun a' U hW => word_at hW (Or.inl (by first | rfl | simp [Cond.onTables, Cond.keeps, Cond.steady])) hini)
  obtain ⟨hx, hb, hml, ho, -⟩ := S
  intro T hT X
  rcases vx_callSX X hx (hh := hh) (bytes := bytes) (maxL := maxL) (ret := ret) ho hl hstt hini hcode hy hK hg (hsize.trans hml.symm) (argsL := As) (rest := rest) (fun sig h => hn.trans (hlen sig h)) hstack hW (by rw [hb]; exact hdg)
    (fun vm₁ hW₁ => ⟨hf.1, hf.2, hp.2 (T.setVm vm₁) hT hW₁⟩) with ⟨v, vm₁, ⟨U', l2, c2, s2⟩, hW₁, X', ⟨g', mk, t, L, e1, e2, hq, h1, hL, h2, h3⟩, st⟩ | ⟨q, vm₁, ⟨U', l2, c2, s2⟩, hW₁, X', ⟨g', mk, t, L, E, ce, e1, e2, hq, hce, hcv, hcl, h1, hL, h2, h3⟩, st⟩
  · dsimp only [Pt.U, Pt.locs, Pt.cells, Pt.slots] at X' e1 e2 h1 h2 h3 st
    subst h1; subst h2; subst h3
    exact Or.inl ⟨v, (T.setVm vm₁).calling g' mk As.toArray, t, U', L, hT, X', hL, e1, e2, hq, st⟩
  · dsimp only [Pt.U, Pt.locs, Pt.cells, Pt.slots] at X' e1 e2 h1 h2 h3 st hcl
    subst h1; subst h2; subst h3
    exact Or.inr ⟨q, (T.setVm vm₁).calling g' mk As.toArray, t, U', L, E, ce, hT, X', hL, e1, e2, hq, hce, hcv, vx_cls hW₁ hcl, st⟩
end
end VXH
theorem vx_ofWH {l : Launch} {y : MethodName} {ws ws' : List Cond} {rm : Room} {Pc : Array Value → State → Prop} {Qc : Array Value → State → Outcome → State → Prop} {XC : String → State → State → Prop} {mc ms : Nat} {free : Addr → Prop} {cc : ByteArray} {maxL : Nat} {ret : Option FieldType} {hh : List (Nat × Nat × Nat × Nat)}
    (hy : plainName y.cls = true) (hw : ws = Cond.codeWith y cc maxL ret hh :: ws')
    (body : ∀ p e s m args below meth c s₁, BodyLoose p l y (headSpec ws rm) cc maxL ret e s m args below meth c s₁ → c.maxLocals = maxL → Pc args s →
      W p l e (headSpec ws rm).room s m args below meth c s.heap [] 0 0 (vx_MQ below Qc XC args s mc ms free) (entryFrame m args maxL)) : vx_Met l y ws rm Pc Qc XC mc ms free := by
  refine MetFree.of_bodyS (code := cc) (maxLocals := maxL) (ret := ret) hy ?_ ?_
  · intro args s m h hn
    obtain ⟨m9, meth, c, hn9, h1, h2, h3, h4, -, h5, h6, -⟩ := Cond.codeWith_spec (atoms_spec (ws := ws) h _ (by rw [hw]; exact List.mem_cons_self))
    cases hn.symm.trans hn9
    exact ⟨meth, c, h1, h2, h3, h4, h5, h6⟩
  · intro p e s m args below meth c s₁ B hml hP _
    have hh0 : s₁.heap = s.heap := by rw [B.state]; rfl
    obtain ⟨t, a1, o, b1, b2, b3⟩ := body p e s m args below meth c s₁ B hml hP s₁ hh0 (Stand.of_body B)
    exact ⟨t, o, a1, b1, b2, b3⟩
/-! ===== END ===== -/

/-! ===== BEGIN printed: names, fields, word lists, decode rows ===== -/
def RX0 : String := "GustMill$State"
def TX0 : u_T := fun k => match k with
  | 0 => ("GustMill$State", "winds", "[I", true)
  | 1 => ("GustMill$State", "sizes", "[I", true)
  | 2 => ("GustMill$State", "sacksUpon", "[I", true)
  | 3 => ("GustMill$State", "isFresh", "[Z", true)
  | 4 => ("GustMill$State", "bakers", "[I", true)
  | 5 => ("GustMill$State", "lefts", "[I", true)
  | 6 => ("GustMill$State", "untils", "[I", true)
  | 7 => ("GustMill$State", "stonesUnder", "[I", true)
  | 8 => ("GustMill$State", "groundHours", "[I", true)
  | 9 => ("GustMill$State", "hour", "I", false)
  | 10 => ("GustMill$State", "stoneCount", "I", false)
  | 11 => ("GustMill$State", "sackCount", "I", false)
  | 12 => ("GustMill$State", "groundCount", "I", false)
  | 13 => ("GustMill$State", "changeCount", "I", false)
  | 14 => ("GustMill$State", "rule", "I", false)
  | _ => ("GustMill$State", "isTakingOff", "Z", false)
def tyX0 : Nat → FieldType := fun k => match k with
  | 0 => .array .int
  | 1 => .array .int
  | 2 => .array .int
  | 3 => .array .boolean
  | 4 => .array .int
  | 5 => .array .int
  | 6 => .array .int
  | 7 => .array .int
  | 8 => .array .int
  | 9 => .int
  | 10 => .int
  | 11 => .int
  | 12 => .int
  | 13 => .int
  | 14 => .int
  | _ => .boolean
abbrev wsX00 : List Cond := u_ws RX0 TX0 16
theorem nmX0 : ∀ a, a < 16 → ∀ b, b < 16 → a ≠ b → (TX0 a).2.1 ≠ (TX0 b).2.1 := by decide +kernel
theorem tyX0_ok : ∀ k, k < 16 → parseFieldDescriptor (TX0 k).2.2.1 = some (tyX0 k) := by decide +kernel
abbrev cX0_init : ByteArray := prog_2_method_1_code
def yX0_init : MethodName := ⟨RX0, "<init>", "()V"⟩
abbrev cX0_become : ByteArray := prog_2_method_2_code
def yX0_become : MethodName := ⟨RX0, "become", "(LGustMill$State;)V"⟩
abbrev cX0_copyRow : ByteArray := prog_2_method_3_code
def yX0_copyRow : MethodName := ⟨RX0, "copyRow", "([I[I)V"⟩
abbrev cX0_placeStone : ByteArray := prog_2_method_4_code
def yX0_placeStone : MethodName := ⟨RX0, "placeStone", "(I)I"⟩
abbrev cX0_storeSack : ByteArray := prog_2_method_5_code
def yX0_storeSack : MethodName := ⟨RX0, "storeSack", "(III)I"⟩
abbrev cX0_run : ByteArray := prog_2_method_6_code
def yX0_run : MethodName := ⟨RX0, "run", "(I)I"⟩
abbrev cX0_takeOffUnwanted : ByteArray := prog_2_method_7_code
def yX0_takeOffUnwanted : MethodName := ⟨RX0, "takeOffUnwanted", "()V"⟩
abbrev cX0_fillStones : ByteArray := prog_2_method_8_code
def yX0_fillStones : MethodName := ⟨RX0, "fillStones", "()V"⟩
abbrev cX0_grind : ByteArray := prog_2_method_9_code
def yX0_grind : MethodName := ⟨RX0, "grind", "()I"⟩
abbrev cX0_finishSacks : ByteArray := prog_2_method_10_code
def yX0_finishSacks : MethodName := ⟨RX0, "finishSacks", "()V"⟩
abbrev cX0_clearStone : ByteArray := prog_2_method_11_code
def yX0_clearStone : MethodName := ⟨RX0, "clearStone", "(I)V"⟩
abbrev cX0_windOfHour : ByteArray := prog_2_method_12_code
def yX0_windOfHour : MethodName := ⟨RX0, "windOfHour", "()I"⟩
abbrev cX0_isGround : ByteArray := prog_2_method_13_code
def yX0_isGround : MethodName := ⟨RX0, "isGround", "(I)Z"⟩
abbrev cX0_firstByRule : ByteArray := prog_2_method_14_code
def yX0_firstByRule : MethodName := ⟨RX0, "firstByRule", "(Z)I"⟩
abbrev cX0_countAhead : ByteArray := prog_2_method_15_code
def yX0_countAhead : MethodName := ⟨RX0, "countAhead", "(I)I"⟩
abbrev cX0_isAhead : ByteArray := prog_2_method_16_code
def yX0_isAhead : MethodName := ⟨RX0, "isAhead", "(II)Z"⟩
abbrev cX0_hoursLate : ByteArray := prog_2_method_17_code
def yX0_hoursLate : MethodName := ⟨RX0, "hoursLate", "()I"⟩
def RX1 : String := "GustMill"
def TX1 : u_T := fun k => match k with
  | 0 => ("GustMill", "now", "LGustMill$State;", true)
  | _ => ("GustMill", "trial", "LGustMill$State;", true)
def tyX1 : Nat → FieldType := fun k => match k with
  | 0 => .object "GustMill$State"
  | _ => .object "GustMill$State"
abbrev wsX10 : List Cond := u_ws RX1 TX1 2
theorem nmX1 : ∀ a, a < 2 → ∀ b, b < 2 → a ≠ b → (TX1 a).2.1 ≠ (TX1 b).2.1 := by decide +kernel
theorem tyX1_ok : ∀ k, k < 2 → parseFieldDescriptor (TX1 k).2.2.1 = some (tyX1 k) := by decide +kernel
abbrev cX1_init : ByteArray := prog_1_method_1_code
def yX1_init : MethodName := ⟨RX1, "<init>", "()V"⟩
abbrev cX1_addStone : ByteArray := prog_1_method_2_code
def yX1_addStone : MethodName := ⟨RX1, "addStone", "(I)I"⟩
abbrev cX1_setWind : ByteArray := prog_1_method_3_code
def yX1_setWind : MethodName := ⟨RX1, "setWind", "(II)I"⟩
abbrev cX1_setRule : ByteArray := prog_1_method_4_code
def yX1_setRule : MethodName := ⟨RX1, "setRule", "(I)I"⟩
abbrev cX1_setTakingOff : ByteArray := prog_1_method_5_code
def yX1_setTakingOff : MethodName := ⟨RX1, "setTakingOff", "(Z)Z"⟩
abbrev cX1_bring : ByteArray := prog_1_method_6_code
def yX1_bring : MethodName := ⟨RX1, "bring", "(III)I"⟩
abbrev cX1_lift : ByteArray := prog_1_method_7_code
def yX1_lift : MethodName := ⟨RX1, "lift", "(I)I"⟩
abbrev cX1_setUntil : ByteArray := prog_1_method_8_code
def yX1_setUntil : MethodName := ⟨RX1, "setUntil", "(II)I"⟩
abbrev cX1_pass : ByteArray := prog_1_method_9_code
def yX1_pass : MethodName := ⟨RX1, "pass", "(I)I"⟩
abbrev cX1_hour : ByteArray := prog_1_method_10_code
def yX1_hour : MethodName := ⟨RX1, "hour", "()I"⟩
abbrev cX1_stones : ByteArray := prog_1_method_11_code
def yX1_stones : MethodName := ⟨RX1, "stones", "()I"⟩
abbrev cX1_sacks : ByteArray := prog_1_method_12_code
def yX1_sacks : MethodName := ⟨RX1, "sacks", "()I"⟩
abbrev cX1_rule : ByteArray := prog_1_method_13_code
def yX1_rule : MethodName := ⟨RX1, "rule", "()I"⟩
abbrev cX1_wind : ByteArray := prog_1_method_14_code
def yX1_wind : MethodName := ⟨RX1, "wind", "()I"⟩
abbrev cX1_sackOn : ByteArray := prog_1_method_15_code
def yX1_sackOn : MethodName := ⟨RX1, "sackOn", "(I)I"⟩
abbrev cX1_stoneOf : ByteArray := prog_1_method_16_code
def yX1_stoneOf : MethodName := ⟨RX1, "stoneOf", "(I)I"⟩
abbrev cX1_leftOf : ByteArray := prog_1_method_17_code
def yX1_leftOf : MethodName := ⟨RX1, "leftOf", "(I)I"⟩
abbrev cX1_untilOf : ByteArray := prog_1_method_18_code
def yX1_untilOf : MethodName := ⟨RX1, "untilOf", "(I)I"⟩
abbrev cX1_groundAt : ByteArray := prog_1_method_19_code
def yX1_groundAt : MethodName := ⟨RX1, "groundAt", "(I)I"⟩
abbrev cX1_ground : ByteArray := prog_1_method_20_code
def yX1_ground : MethodName := ⟨RX1, "ground", "()I"⟩
abbrev cX1_changes : ByteArray := prog_1_method_21_code
def yX1_changes : MethodName := ⟨RX1, "changes", "()I"⟩
abbrev cX1_first : ByteArray := prog_1_method_22_code
def yX1_first : MethodName := ⟨RX1, "first", "()I"⟩
abbrev cX1_placeOf : ByteArray := prog_1_method_23_code
def yX1_placeOf : MethodName := ⟨RX1, "placeOf", "(I)I"⟩
abbrev cX1_leftFor : ByteArray := prog_1_method_24_code
def yX1_leftFor : MethodName := ⟨RX1, "leftFor", "(I)I"⟩
abbrev cX1_late : ByteArray := prog_1_method_25_code
def yX1_late : MethodName := ⟨RX1, "late", "()I"⟩
abbrev cX1_lateWith : ByteArray := prog_1_method_28_code
def yX1_lateWith : MethodName := ⟨RX1, "lateWith", "(IZ)I"⟩
abbrev cX1_meanLeft : ByteArray := prog_1_method_32_code
def yX1_meanLeft : MethodName := ⟨RX1, "meanLeft", "()D"⟩
abbrev cX1_requireSack : ByteArray := prog_1_method_37_code
def yX1_requireSack : MethodName := ⟨RX1, "requireSack", "(I)V"⟩
abbrev cX1_requireRule : ByteArray := prog_1_method_38_code
def yX1_requireRule : MethodName := ⟨RX1, "requireRule", "(I)V"⟩
abbrev cX1_requireBaker : ByteArray := prog_1_method_39_code
def yX1_requireBaker : MethodName := ⟨RX1, "requireBaker", "(I)V"⟩
abbrev cX1_requireGrain : ByteArray := prog_1_method_40_code
def yX1_requireGrain : MethodName := ⟨RX1, "requireGrain", "(I)V"⟩
abbrev cX1_requireUntil : ByteArray := prog_1_method_41_code
def yX1_requireUntil : MethodName := ⟨RX1, "requireUntil", "(I)V"⟩
abbrev cX1_requireHours : ByteArray := prog_1_method_42_code
def yX1_requireHours : MethodName := ⟨RX1, "requireHours", "(I)V"⟩
def RX2 : String := "GustMillLaw$Sim"
def TX2 : u_T := fun k => match k with
  | 0 => ("GustMillLaw$Sim", "hour", "I", false)
  | 1 => ("GustMillLaw$Sim", "rule", "I", false)
  | 2 => ("GustMillLaw$Sim", "isAllowed", "Z", false)
  | 3 => ("GustMillLaw$Sim", "changes", "I", false)
  | 4 => ("GustMillLaw$Sim", "milled", "I", false)
  | 5 => ("GustMillLaw$Sim", "wind", "[I", false)
  | 6 => ("GustMillLaw$Sim", "stones", "[[I", false)
  | _ => ("GustMillLaw$Sim", "sacks", "[[I", false)
def tyX2 : Nat → FieldType := fun k => match k with
  | 0 => .int
  | 1 => .int
  | 2 => .boolean
  | 3 => .int
  | 4 => .int
  | 5 => .array .int
  | 6 => .array (.array .int)
  | _ => .array (.array .int)
abbrev wsX20 : List Cond := u_ws RX2 TX2 8
theorem nmX2 : ∀ a, a < 8 → ∀ b, b < 8 → a ≠ b → (TX2 a).2.1 ≠ (TX2 b).2.1 := by decide +kernel
theorem tyX2_ok : ∀ k, k < 8 → parseFieldDescriptor (TX2 k).2.2.1 = some (tyX2 k) := by decide +kernel
abbrev cX2_init : ByteArray := prog_4_method_1_code
def yX2_init : MethodName := ⟨RX2, "<init>", "()V"⟩
abbrev cX2_with : ByteArray := prog_4_method_2_code
def yX2_with : MethodName := ⟨RX2, "with", "([[I[I)[[I"⟩
abbrev cX2_order : ByteArray := prog_4_method_3_code
def yX2_order : MethodName := ⟨RX2, "order", "()[I"⟩
abbrev cX2_stoneOf : ByteArray := prog_4_method_4_code
def yX2_stoneOf : MethodName := ⟨RX2, "stoneOf", "(I)I"⟩
abbrev cX2_pass : ByteArray := prog_4_method_5_code
def yX2_pass : MethodName := ⟨RX2, "pass", "()V"⟩
abbrev cX2_behind : ByteArray := prog_4_method_6_code
def yX2_behind : MethodName := ⟨RX2, "behind", "(I)I"⟩
abbrev cX2_late : ByteArray := prog_4_method_7_code
def yX2_late : MethodName := ⟨RX2, "late", "(I)I"⟩
abbrev cX2_isSame : ByteArray := prog_4_method_9_code
def yX2_isSame : MethodName := ⟨RX2, "isSame", "(LGustMill;)Z"⟩
def RX3 : String := "GustMillModel"
def TX3 : u_T := fun k => match k with
  | _ => ("", "", "", false)
def tyX3 : Nat → FieldType := fun k => match k with
  | _ => .int
abbrev wsX30 : List Cond := u_ws RX3 TX3 0
theorem nmX3 : ∀ a, a < 0 → ∀ b, b < 0 → a ≠ b → (TX3 a).2.1 ≠ (TX3 b).2.1 := by decide +kernel
theorem tyX3_ok : ∀ k, k < 0 → parseFieldDescriptor (TX3 k).2.2.1 = some (tyX3 k) := by decide +kernel
def RJ9 : String := "java/lang/Math"
def TJ9 : u_T := fun k => match k with
  | _ => ("", "", "", false)
def tyJ9 : Nat → FieldType := fun k => match k with
  | _ => .int
abbrev wsJ90 : List Cond := u_ws RJ9 TJ9 0
theorem nmJ9 : ∀ a, a < 0 → ∀ b, b < 0 → a ≠ b → (TJ9 a).2.1 ≠ (TJ9 b).2.1 := by decide +kernel
theorem tyJ9_ok : ∀ k, k < 0 → parseFieldDescriptor (TJ9 k).2.2.1 = some (tyJ9 k) := by decide +kernel
abbrev cJ9_floorMod_7cf53 : ByteArray := prog_10_method_50_code
def yJ9_floorMod_7cf53 : MethodName := ⟨RJ9, "floorMod", "(II)I"⟩
abbrev cJ9_max_7cf53 : ByteArray := prog_10_method_65_code
def yJ9_max_7cf53 : MethodName := ⟨RJ9, "max", "(II)I"⟩
abbrev cJ9_min_7cf53 : ByteArray := prog_10_method_69_code
def yJ9_min_7cf53 : MethodName := ⟨RJ9, "min", "(II)I"⟩
def RJ0 : String := "java/lang/String"
def TJ0 : u_T := fun k => match k with
  | _ => ("", "", "", false)
def tyJ0 : Nat → FieldType := fun k => match k with
  | _ => .int
abbrev wsJ00 : List Cond := u_ws RJ0 TJ0 0
theorem nmJ0 : ∀ a, a < 0 → ∀ b, b < 0 → a ≠ b → (TJ0 a).2.1 ≠ (TJ0 b).2.1 := by decide +kernel
theorem tyJ0_ok : ∀ k, k < 0 → parseFieldDescriptor (TJ0 k).2.2.1 = some (tyJ0 k) := by decide +kernel
def RL : String := "GustMillLaw"
abbrev cL_below : ByteArray := method_2_code
def yL_below : MethodName := ⟨RL, "below", "(II)I"⟩
abbrev cL_cell : ByteArray := method_3_code
def yL_cell : MethodName := ⟨RL, "cell", "([II)I"⟩
abbrev cL_act : ByteArray := method_4_code
def yL_act : MethodName := ⟨RL, "act", "(LGustMill;LGustMillLaw$Sim;I)Z"⟩
abbrev cL_build : ByteArray := method_5_code
def yL_build : MethodName := ⟨RL, "build", "(LGustMill;[I)LGustMillLaw$Sim;"⟩
abbrev cL_law : ByteArray := code
def yL_law : MethodName := ⟨RL, "law", "([I)Z"⟩
def wsX0_init : List Cond := .code yX0_init cX0_init 2 none :: ([.methodLink RX0 3 objectInit, .instanceMethod objectInit, .code objectInit ⟨#[0xb1]⟩ 1 none, .arrayClass .int, .fieldLink RX0 9 "GustMill$State" "winds" "[I", .fieldLink RX0 15 "GustMill$State" "sizes" "[I", .fieldLink RX0 18 "GustMill$State" "sacksUpon" "[I", .arrayClass .boolean, .fieldLink RX0 21 "GustMill$State" "isFresh" "[Z", .fieldLink RX0 25 "GustMill$State" "bakers" "[I", .fieldLink RX0 28 "GustMill$State" "lefts" "[I", .fieldLink RX0 31 "GustMill$State" "untils" "[I", .fieldLink RX0 34 "GustMill$State" "stonesUnder" "[I", .fieldLink RX0 37 "GustMill$State" "groundHours" "[I", .fieldLink RX0 40 "GustMill$State" "hour" "I", .fieldLink RX0 44 "GustMill$State" "stoneCount" "I", .fieldLink RX0 47 "GustMill$State" "sackCount" "I", .fieldLink RX0 50 "GustMill$State" "groundCount" "I", .fieldLink RX0 53 "GustMill$State" "changeCount" "I", .fieldLink RX0 56 "GustMill$State" "rule" "I", .fieldLink RX0 59 "GustMill$State" "isTakingOff" "Z"] ++ wsX00)
def wsX0_copyRow : List Cond := .code yX0_copyRow cX0_copyRow 3 none :: ([])
def wsX0_become : List Cond := .code yX0_become cX0_become 2 none :: ([.fieldLink RX0 9 "GustMill$State" "winds" "[I", .fieldLink RX0 15 "GustMill$State" "sizes" "[I", .fieldLink RX0 18 "GustMill$State" "sacksUpon" "[I", .fieldLink RX0 25 "GustMill$State" "bakers" "[I", .fieldLink RX0 28 "GustMill$State" "lefts" "[I", .fieldLink RX0 31 "GustMill$State" "untils" "[I", .fieldLink RX0 34 "GustMill$State" "stonesUnder" "[I", .fieldLink RX0 37 "GustMill$State" "groundHours" "[I", .fieldLink RX0 40 "GustMill$State" "hour" "I", .fieldLink RX0 44 "GustMill$State" "stoneCount" "I", .fieldLink RX0 47 "GustMill$State" "sackCount" "I", .fieldLink RX0 50 "GustMill$State" "groundCount" "I", .fieldLink RX0 53 "GustMill$State" "changeCount" "I", .fieldLink RX0 56 "GustMill$State" "rule" "I", .fieldLink RX0 59 "GustMill$State" "isTakingOff" "Z", .methodLink RX0 63 yX0_copyRow, .static yX0_copyRow, .initialized RX0, .code yX0_copyRow cX0_copyRow 3 none] ++ wsX00)
def wsX0_placeStone : List Cond := .code yX0_placeStone cX0_placeStone 3 (some .int) :: ([.fieldLink RX0 44 "GustMill$State" "stoneCount" "I", .fieldLink RX0 15 "GustMill$State" "sizes" "[I", .fieldLink RX0 18 "GustMill$State" "sacksUpon" "[I"] ++ wsX00)
def wsX0_storeSack : List Cond := .code yX0_storeSack cX0_storeSack 5 (some .int) :: ([.fieldLink RX0 47 "GustMill$State" "sackCount" "I", .fieldLink RX0 25 "GustMill$State" "bakers" "[I", .fieldLink RX0 28 "GustMill$State" "lefts" "[I", .fieldLink RX0 31 "GustMill$State" "untils" "[I", .fieldLink RX0 34 "GustMill$State" "stonesUnder" "[I", .fieldLink RX0 37 "GustMill$State" "groundHours" "[I"] ++ wsX00)
def wsX0_isGround : List Cond := .code yX0_isGround cX0_isGround 2 (some .boolean) :: ([.fieldLink RX0 28 "GustMill$State" "lefts" "[I"] ++ wsX00)
def wsX0_isAhead : List Cond := .code yX0_isAhead cX0_isAhead 4 (some .boolean) :: ([.fieldLink RX0 56 "GustMill$State" "rule" "I", .fieldLink RX0 31 "GustMill$State" "untils" "[I", .fieldLink RX0 28 "GustMill$State" "lefts" "[I"] ++ wsX00)
def wsX0_countAhead : List Cond := .code yX0_countAhead cX0_countAhead 4 (some .int) :: ([.fieldLink RX0 47 "GustMill$State" "sackCount" "I", .methodLink RX0 101 yX0_isGround, .instanceMethod yX0_isGround, .selects RX0 yX0_isGround yX0_isGround, .initialized RX0, .code yX0_isGround cX0_isGround 2 (some .boolean), .fieldLink RX0 28 "GustMill$State" "lefts" "[I", .methodLink RX0 108 yX0_isAhead, .instanceMethod yX0_isAhead, .selects RX0 yX0_isAhead yX0_isAhead, .code yX0_isAhead cX0_isAhead 4 (some .boolean), .fieldLink RX0 56 "GustMill$State" "rule" "I", .fieldLink RX0 31 "GustMill$State" "untils" "[I"] ++ wsX00)
def wsX0_clearStone : List Cond := .code yX0_clearStone cX0_clearStone 3 none :: ([.fieldLink RX0 18 "GustMill$State" "sacksUpon" "[I", .fieldLink RX0 34 "GustMill$State" "stonesUnder" "[I"] ++ wsX00)
def wsX0_takeOffUnwanted : List Cond := .code yX0_takeOffUnwanted cX0_takeOffUnwanted 3 none :: ([.fieldLink RX0 44 "GustMill$State" "stoneCount" "I", .fieldLink RX0 18 "GustMill$State" "sacksUpon" "[I", .methodLink RX0 80 yX0_countAhead, .instanceMethod yX0_countAhead, .selects RX0 yX0_countAhead yX0_countAhead, .initialized RX0, .code yX0_countAhead cX0_countAhead 4 (some .int), .fieldLink RX0 47 "GustMill$State" "sackCount" "I", .methodLink RX0 101 yX0_isGround, .instanceMethod yX0_isGround, .selects RX0 yX0_isGround yX0_isGround, .code yX0_isGround cX0_isGround 2 (some .boolean), .fieldLink RX0 28 "GustMill$State" "lefts" "[I", .methodLink RX0 108 yX0_isAhead, .instanceMethod yX0_isAhead, .selects RX0 yX0_isAhead yX0_isAhead, .code yX0_isAhead cX0_isAhead 4 (some .boolean), .fieldLink RX0 56 "GustMill$State" "rule" "I", .fieldLink RX0 31 "GustMill$State" "untils" "[I", .methodLink RX0 84 yX0_clearStone, .instanceMethod yX0_clearStone, .selects RX0 yX0_clearStone yX0_clearStone, .code yX0_clearStone cX0_clearStone 3 none, .fieldLink RX0 34 "GustMill$State" "stonesUnder" "[I"] ++ wsX00)
def wsX0_firstByRule : List Cond := .code yX0_firstByRule cX0_firstByRule 5 (some .int) :: ([.fieldLink RX0 47 "GustMill$State" "sackCount" "I", .fieldLink RX0 34 "GustMill$State" "stonesUnder" "[I", .methodLink RX0 101 yX0_isGround, .instanceMethod yX0_isGround, .selects RX0 yX0_isGround yX0_isGround, .initialized RX0, .code yX0_isGround cX0_isGround 2 (some .boolean), .fieldLink RX0 28 "GustMill$State" "lefts" "[I", .methodLink RX0 108 yX0_isAhead, .instanceMethod yX0_isAhead, .selects RX0 yX0_isAhead yX0_isAhead, .code yX0_isAhead cX0_isAhead 4 (some .boolean), .fieldLink RX0 56 "GustMill$State" "rule" "I", .fieldLink RX0 31 "GustMill$State" "untils" "[I"] ++ wsX00)
def wsX0_fillStones : List Cond := .code yX0_fillStones cX0_fillStones 3 none :: ([.fieldLink RX0 44 "GustMill$State" "stoneCount" "I", .fieldLink RX0 18 "GustMill$State" "sacksUpon" "[I", .fieldLink RX0 21 "GustMill$State" "isFresh" "[Z", .fieldLink RX0 34 "GustMill$State" "stonesUnder" "[I", .fieldLink RX0 53 "GustMill$State" "changeCount" "I", .methodLink RX0 88 yX0_firstByRule, .instanceMethod yX0_firstByRule, .selects RX0 yX0_firstByRule yX0_firstByRule, .initialized RX0, .code yX0_firstByRule cX0_firstByRule 5 (some .int), .fieldLink RX0 47 "GustMill$State" "sackCount" "I", .methodLink RX0 101 yX0_isGround, .instanceMethod yX0_isGround, .selects RX0 yX0_isGround yX0_isGround, .code yX0_isGround cX0_isGround 2 (some .boolean), .fieldLink RX0 28 "GustMill$State" "lefts" "[I", .methodLink RX0 108 yX0_isAhead, .instanceMethod yX0_isAhead, .selects RX0 yX0_isAhead yX0_isAhead, .code yX0_isAhead cX0_isAhead 4 (some .boolean), .fieldLink RX0 56 "GustMill$State" "rule" "I", .fieldLink RX0 31 "GustMill$State" "untils" "[I"] ++ wsX00)
def wsJ9_floorMod_7cf53 : List Cond := .code yJ9_floorMod_7cf53 cJ9_floorMod_7cf53 3 (some .int) :: ([])
def wsX0_windOfHour : List Cond := .code yX0_windOfHour cX0_windOfHour 1 (some .int) :: ([.fieldLink RX0 9 "GustMill$State" "winds" "[I", .fieldLink RX0 40 "GustMill$State" "hour" "I", .methodLink RX0 105 yJ9_floorMod_7cf53, .static yJ9_floorMod_7cf53, .initialized RJ9, .code yJ9_floorMod_7cf53 cJ9_floorMod_7cf53 3 (some .int)] ++ wsX00)
def wsX0_grind : List Cond := .code yX0_grind cX0_grind 7 (some .int) :: ([.fieldLink RX0 44 "GustMill$State" "stoneCount" "I", .fieldLink RX0 18 "GustMill$State" "sacksUpon" "[I", .fieldLink RX0 21 "GustMill$State" "isFresh" "[Z", .fieldLink RX0 15 "GustMill$State" "sizes" "[I", .fieldLink RX0 28 "GustMill$State" "lefts" "[I", .methodLink RX0 95 Lib.Math.min.name, .static Lib.Math.min.name, .initialized "java/lang/Math", .code Lib.Math.min.name Lib.Math.min.code 2 (some .int), .methodLink RX0 92 yX0_windOfHour, .instanceMethod yX0_windOfHour, .selects RX0 yX0_windOfHour yX0_windOfHour, .initialized RX0, .code yX0_windOfHour cX0_windOfHour 1 (some .int), .fieldLink RX0 9 "GustMill$State" "winds" "[I", .fieldLink RX0 40 "GustMill$State" "hour" "I", .methodLink RX0 105 yJ9_floorMod_7cf53, .static yJ9_floorMod_7cf53, .initialized RJ9, .code yJ9_floorMod_7cf53 cJ9_floorMod_7cf53 3 (some .int)] ++ wsX00)
def wsX0_finishSacks : List Cond := .code yX0_finishSacks cX0_finishSacks 3 none :: ([.fieldLink RX0 44 "GustMill$State" "stoneCount" "I", .fieldLink RX0 18 "GustMill$State" "sacksUpon" "[I", .fieldLink RX0 37 "GustMill$State" "groundHours" "[I", .fieldLink RX0 40 "GustMill$State" "hour" "I", .fieldLink RX0 50 "GustMill$State" "groundCount" "I", .methodLink RX0 101 yX0_isGround, .instanceMethod yX0_isGround, .selects RX0 yX0_isGround yX0_isGround, .initialized RX0, .code yX0_isGround cX0_isGround 2 (some .boolean), .fieldLink RX0 28 "GustMill$State" "lefts" "[I", .methodLink RX0 84 yX0_clearStone, .instanceMethod yX0_clearStone, .selects RX0 yX0_clearStone yX0_clearStone, .code yX0_clearStone cX0_clearStone 3 none, .fieldLink RX0 34 "GustMill$State" "stonesUnder" "[I"] ++ wsX00)
def wsX0_run_r1 : List Cond := [Cond.fieldLink RX0 40 "GustMill$State" "hour" "I", Cond.fieldLink RX0 50 "GustMill$State" "groundCount" "I", Cond.fieldLink RX0 47 "GustMill$State" "sackCount" "I", Cond.fieldLink RX0 59 "GustMill$State" "isTakingOff" "Z", Cond.methodLink RX0 67 yX0_takeOffUnwanted, Cond.instanceMethod yX0_takeOffUnwanted, Cond.selects RX0 yX0_takeOffUnwanted yX0_takeOffUnwanted, Cond.initialized RX0, Cond.code yX0_takeOffUnwanted cX0_takeOffUnwanted 3 none, Cond.fieldLink RX0 44 "GustMill$State" "stoneCount" "I", Cond.fieldLink RX0 18 "GustMill$State" "sacksUpon" "[I", Cond.methodLink RX0 80 yX0_countAhead, Cond.instanceMethod yX0_countAhead, Cond.selects RX0 yX0_countAhead yX0_countAhead, Cond.code yX0_countAhead cX0_countAhead 4 (some .int), Cond.methodLink RX0 101 yX0_isGround, Cond.instanceMethod yX0_isGround, Cond.selects RX0 yX0_isGround yX0_isGround, Cond.code yX0_isGround cX0_isGround 2 (some .boolean), Cond.fieldLink RX0 28 "GustMill$State" "lefts" "[I", Cond.methodLink RX0 108 yX0_isAhead, Cond.instanceMethod yX0_isAhead, Cond.selects RX0 yX0_isAhead yX0_isAhead, Cond.code yX0_isAhead cX0_isAhead 4 (some .boolean)]
def wsX0_run_r2 : List Cond := [Cond.fieldLink RX0 56 "GustMill$State" "rule" "I", Cond.fieldLink RX0 31 "GustMill$State" "untils" "[I", Cond.methodLink RX0 84 yX0_clearStone, Cond.instanceMethod yX0_clearStone, Cond.selects RX0 yX0_clearStone yX0_clearStone, Cond.code yX0_clearStone cX0_clearStone 3 none, Cond.fieldLink RX0 34 "GustMill$State" "stonesUnder" "[I", Cond.methodLink RX0 70 yX0_fillStones, Cond.instanceMethod yX0_fillStones, Cond.selects RX0 yX0_fillStones yX0_fillStones, Cond.code yX0_fillStones cX0_fillStones 3 none, Cond.fieldLink RX0 21 "GustMill$State" "isFresh" "[Z", Cond.fieldLink RX0 53 "GustMill$State" "changeCount" "I", Cond.methodLink RX0 88 yX0_firstByRule, Cond.instanceMethod yX0_firstByRule, Cond.selects RX0 yX0_firstByRule yX0_firstByRule, Cond.code yX0_firstByRule cX0_firstByRule 5 (some .int), Cond.methodLink RX0 73 yX0_grind, Cond.instanceMethod yX0_grind, Cond.selects RX0 yX0_grind yX0_grind, Cond.code yX0_grind cX0_grind 7 (some .int), Cond.fieldLink RX0 15 "GustMill$State" "sizes" "[I", Cond.methodLink RX0 95 Lib.Math.min.name, Cond.static Lib.Math.min.name]
def wsX0_run_r3 : List Cond := [Cond.initialized "java/lang/Math", Cond.code Lib.Math.min.name Lib.Math.min.code 2 (some .int), Cond.methodLink RX0 92 yX0_windOfHour, Cond.instanceMethod yX0_windOfHour, Cond.selects RX0 yX0_windOfHour yX0_windOfHour, Cond.code yX0_windOfHour cX0_windOfHour 1 (some .int), Cond.fieldLink RX0 9 "GustMill$State" "winds" "[I", Cond.methodLink RX0 105 yJ9_floorMod_7cf53, Cond.static yJ9_floorMod_7cf53, Cond.initialized RJ9, Cond.code yJ9_floorMod_7cf53 cJ9_floorMod_7cf53 3 (some .int), Cond.methodLink RX0 77 yX0_finishSacks, Cond.instanceMethod yX0_finishSacks, Cond.selects RX0 yX0_finishSacks yX0_finishSacks, Cond.code yX0_finishSacks cX0_finishSacks 3 none, Cond.fieldLink RX0 37 "GustMill$State" "groundHours" "[I"]
def wsX0_run : List Cond := .code yX0_run cX0_run 5 (some .int) :: ((wsX0_run_r1 ++ (wsX0_run_r2 ++ wsX0_run_r3)) ++ wsX00)
def wsX0_hoursLate : List Cond := .code yX0_hoursLate cX0_hoursLate 3 (some .int) :: ([.fieldLink RX0 47 "GustMill$State" "sackCount" "I", .fieldLink RX0 37 "GustMill$State" "groundHours" "[I", .fieldLink RX0 31 "GustMill$State" "untils" "[I", .methodLink RX0 112 Lib.Math.max.name, .static Lib.Math.max.name, .initialized "java/lang/Math", .code Lib.Math.max.name Lib.Math.max.code 2 (some .int), .methodLink RX0 101 yX0_isGround, .instanceMethod yX0_isGround, .selects RX0 yX0_isGround yX0_isGround, .initialized RX0, .code yX0_isGround cX0_isGround 2 (some .boolean), .fieldLink RX0 28 "GustMill$State" "lefts" "[I"] ++ wsX00)
def wsX1_init_r1 : List Cond := [Cond.methodLink RX1 1 objectInit, Cond.instanceMethod objectInit, Cond.code objectInit ⟨#[0xb1]⟩ 1 none, Cond.classLink RX1 7 RX0, Cond.instantiable RX0 16, Cond.initialized RX0, Cond.fieldLink RX1 10 "GustMill" "now" "LGustMill$State;", Cond.fieldLink RX1 16 "GustMill" "trial" "LGustMill$State;", Cond.methodLink RX1 9 yX0_init, Cond.instanceMethod yX0_init, Cond.code yX0_init cX0_init 2 none, Cond.methodLink RX0 3 objectInit, Cond.arrayClass .int, Cond.fieldLink RX0 9 "GustMill$State" "winds" "[I", Cond.fieldLink RX0 15 "GustMill$State" "sizes" "[I", Cond.fieldLink RX0 18 "GustMill$State" "sacksUpon" "[I", Cond.arrayClass .boolean, Cond.fieldLink RX0 21 "GustMill$State" "isFresh" "[Z", Cond.fieldLink RX0 25 "GustMill$State" "bakers" "[I", Cond.fieldLink RX0 28 "GustMill$State" "lefts" "[I", Cond.fieldLink RX0 31 "GustMill$State" "untils" "[I", Cond.fieldLink RX0 34 "GustMill$State" "stonesUnder" "[I", Cond.fieldLink RX0 37 "GustMill$State" "groundHours" "[I", Cond.fieldLink RX0 40 "GustMill$State" "hour" "I"]
def wsX1_init_r2 : List Cond := [Cond.fieldLink RX0 44 "GustMill$State" "stoneCount" "I", Cond.fieldLink RX0 47 "GustMill$State" "sackCount" "I", Cond.fieldLink RX0 50 "GustMill$State" "groundCount" "I", Cond.fieldLink RX0 53 "GustMill$State" "changeCount" "I", Cond.fieldLink RX0 56 "GustMill$State" "rule" "I", Cond.fieldLink RX0 59 "GustMill$State" "isTakingOff" "Z"]
def wsX1_init : List Cond := .code yX1_init cX1_init 1 none :: ((wsX1_init_r1 ++ wsX1_init_r2) ++ wsX00 ++ wsX10)
def wsX1_addStone : List Cond := .code yX1_addStone cX1_addStone 2 (some .int) :: ([.classLink RX1 19 "java/lang/IllegalArgumentException", .initialized "java/lang/IllegalArgumentException", .classLink RX1 30 "java/lang/IllegalStateException", .initialized "java/lang/IllegalStateException", .fieldLink RX1 10 "GustMill" "now" "LGustMill$State;", .methodLink RX1 35 yX0_placeStone, .instanceMethod yX0_placeStone, .selects RX0 yX0_placeStone yX0_placeStone, .initialized RX0, .code yX0_placeStone cX0_placeStone 3 (some .int), .fieldLink RX0 44 "GustMill$State" "stoneCount" "I", .fieldLink RX0 15 "GustMill$State" "sizes" "[I", .fieldLink RX0 18 "GustMill$State" "sacksUpon" "[I"] ++ wsX10 ++ wsX00 ++ (vx_atS RX1 23 "java/lang/IllegalArgumentException" ["java/lang/RuntimeException", "java/lang/Exception"]).filter goodWord ++ (vx_atS RX1 34 "java/lang/IllegalStateException" ["java/lang/RuntimeException", "java/lang/Exception"]).filter goodWord)
def wsX1_setWind : List Cond := .code yX1_setWind cX1_setWind 4 (some .int) :: ([.classLink RX1 39 "java/lang/IndexOutOfBoundsException", .initialized "java/lang/IndexOutOfBoundsException", .classLink RX1 19 "java/lang/IllegalArgumentException", .initialized "java/lang/IllegalArgumentException", .fieldLink RX1 10 "GustMill" "now" "LGustMill$State;"] ++ wsX10 ++ wsX00 ++ (vx_atS RX1 43 "java/lang/IndexOutOfBoundsException" ["java/lang/RuntimeException", "java/lang/Exception"]).filter goodWord ++ (vx_atS RX1 23 "java/lang/IllegalArgumentException" ["java/lang/RuntimeException", "java/lang/Exception"]).filter goodWord)
def wsX1_requireRule : List Cond := .code yX1_requireRule cX1_requireRule 1 none :: ([.classLink RX1 19 "java/lang/IllegalArgumentException", .initialized "java/lang/IllegalArgumentException"] ++ (vx_atS RX1 23 "java/lang/IllegalArgumentException" ["java/lang/RuntimeException", "java/lang/Exception"]).filter goodWord)
def wsX1_setRule : List Cond := .code yX1_setRule cX1_setRule 3 (some .int) :: ([.fieldLink RX1 10 "GustMill" "now" "LGustMill$State;", .methodLink RX1 50 yX1_requireRule, .static yX1_requireRule, .initialized RX1, .code yX1_requireRule cX1_requireRule 1 none, .classLink RX1 19 "java/lang/IllegalArgumentException", .initialized "java/lang/IllegalArgumentException"] ++ wsX10 ++ wsX00 ++ (vx_atS RX1 23 "java/lang/IllegalArgumentException" ["java/lang/RuntimeException", "java/lang/Exception"]).filter goodWord)
def wsX1_setTakingOff : List Cond := .code yX1_setTakingOff cX1_setTakingOff 3 (some .boolean) :: ([.fieldLink RX1 10 "GustMill" "now" "LGustMill$State;"] ++ wsX10 ++ wsX00)
def wsX1_requireBaker : List Cond := .code yX1_requireBaker cX1_requireBaker 1 none :: ([.classLink RX1 19 "java/lang/IllegalArgumentException", .initialized "java/lang/IllegalArgumentException"] ++ (vx_atS RX1 23 "java/lang/IllegalArgumentException" ["java/lang/RuntimeException", "java/lang/Exception"]).filter goodWord)
def wsX1_requireGrain : List Cond := .code yX1_requireGrain cX1_requireGrain 1 none :: ([.classLink RX1 19 "java/lang/IllegalArgumentException", .initialized "java/lang/IllegalArgumentException"] ++ (vx_atS RX1 23 "java/lang/IllegalArgumentException" ["java/lang/RuntimeException", "java/lang/Exception"]).filter goodWord)
def wsX1_requireUntil : List Cond := .code yX1_requireUntil cX1_requireUntil 1 none :: ([.classLink RX1 19 "java/lang/IllegalArgumentException", .initialized "java/lang/IllegalArgumentException"] ++ (vx_atS RX1 23 "java/lang/IllegalArgumentException" ["java/lang/RuntimeException", "java/lang/Exception"]).filter goodWord)
def wsX1_bring_r1 : List Cond := [Cond.classLink RX1 30 "java/lang/IllegalStateException", Cond.initialized "java/lang/IllegalStateException", Cond.fieldLink RX1 10 "GustMill" "now" "LGustMill$State;", Cond.methodLink RX1 61 yX1_requireBaker, Cond.static yX1_requireBaker, Cond.initialized RX1, Cond.code yX1_requireBaker cX1_requireBaker 1 none, Cond.classLink RX1 19 "java/lang/IllegalArgumentException", Cond.initialized "java/lang/IllegalArgumentException", Cond.methodLink RX1 64 yX1_requireGrain, Cond.static yX1_requireGrain, Cond.code yX1_requireGrain cX1_requireGrain 1 none, Cond.methodLink RX1 67 yX1_requireUntil, Cond.static yX1_requireUntil, Cond.code yX1_requireUntil cX1_requireUntil 1 none, Cond.methodLink RX1 75 yX0_storeSack, Cond.instanceMethod yX0_storeSack, Cond.selects RX0 yX0_storeSack yX0_storeSack, Cond.initialized RX0, Cond.code yX0_storeSack cX0_storeSack 5 (some .int), Cond.fieldLink RX0 47 "GustMill$State" "sackCount" "I", Cond.fieldLink RX0 25 "GustMill$State" "bakers" "[I", Cond.fieldLink RX0 28 "GustMill$State" "lefts" "[I", Cond.fieldLink RX0 31 "GustMill$State" "untils" "[I"]
def wsX1_bring_r2 : List Cond := [Cond.fieldLink RX0 34 "GustMill$State" "stonesUnder" "[I", Cond.fieldLink RX0 37 "GustMill$State" "groundHours" "[I"]
def wsX1_bring : List Cond := .code yX1_bring cX1_bring 4 (some .int) :: ((wsX1_bring_r1 ++ wsX1_bring_r2) ++ wsX10 ++ wsX00 ++ (vx_atS RX1 34 "java/lang/IllegalStateException" ["java/lang/RuntimeException", "java/lang/Exception"]).filter goodWord ++ (vx_atS RX1 23 "java/lang/IllegalArgumentException" ["java/lang/RuntimeException", "java/lang/Exception"]).filter goodWord)
def wsX1_requireSack : List Cond := .code yX1_requireSack cX1_requireSack 2 none :: ([.classLink RX1 39 "java/lang/IndexOutOfBoundsException", .initialized "java/lang/IndexOutOfBoundsException", .fieldLink RX1 10 "GustMill" "now" "LGustMill$State;"] ++ wsX10 ++ wsX00 ++ (vx_atS RX1 43 "java/lang/IndexOutOfBoundsException" ["java/lang/RuntimeException", "java/lang/Exception"]).filter goodWord)
def wsX1_lift : List Cond := .code yX1_lift cX1_lift 3 (some .int) :: ([.classLink RX1 30 "java/lang/IllegalStateException", .initialized "java/lang/IllegalStateException", .fieldLink RX1 10 "GustMill" "now" "LGustMill$State;", .methodLink RX1 79 yX1_requireSack, .instanceMethod yX1_requireSack, .selects RX1 yX1_requireSack yX1_requireSack, .initialized RX1, .code yX1_requireSack cX1_requireSack 2 none, .classLink RX1 39 "java/lang/IndexOutOfBoundsException", .initialized "java/lang/IndexOutOfBoundsException", .methodLink RX1 87 yX0_clearStone, .instanceMethod yX0_clearStone, .selects RX0 yX0_clearStone yX0_clearStone, .initialized RX0, .code yX0_clearStone cX0_clearStone 3 none, .fieldLink RX0 18 "GustMill$State" "sacksUpon" "[I", .fieldLink RX0 34 "GustMill$State" "stonesUnder" "[I"] ++ wsX10 ++ wsX00 ++ (vx_atS RX1 34 "java/lang/IllegalStateException" ["java/lang/RuntimeException", "java/lang/Exception"]).filter goodWord ++ (vx_atS RX1 43 "java/lang/IndexOutOfBoundsException" ["java/lang/RuntimeException", "java/lang/Exception"]).filter goodWord)
def wsX1_setUntil : List Cond := .code yX1_setUntil cX1_setUntil 4 (some .int) :: ([.fieldLink RX1 10 "GustMill" "now" "LGustMill$State;", .methodLink RX1 79 yX1_requireSack, .instanceMethod yX1_requireSack, .selects RX1 yX1_requireSack yX1_requireSack, .initialized RX1, .code yX1_requireSack cX1_requireSack 2 none, .classLink RX1 39 "java/lang/IndexOutOfBoundsException", .initialized "java/lang/IndexOutOfBoundsException", .methodLink RX1 67 yX1_requireUntil, .static yX1_requireUntil, .code yX1_requireUntil cX1_requireUntil 1 none, .classLink RX1 19 "java/lang/IllegalArgumentException", .initialized "java/lang/IllegalArgumentException"] ++ wsX10 ++ wsX00 ++ (vx_atS RX1 43 "java/lang/IndexOutOfBoundsException" ["java/lang/RuntimeException", "java/lang/Exception"]).filter goodWord ++ (vx_atS RX1 23 "java/lang/IllegalArgumentException" ["java/lang/RuntimeException", "java/lang/Exception"]).filter goodWord)
def wsX1_requireHours : List Cond := .code yX1_requireHours cX1_requireHours 1 none :: ([.classLink RX1 19 "java/lang/IllegalArgumentException", .initialized "java/lang/IllegalArgumentException"] ++ (vx_atS RX1 23 "java/lang/IllegalArgumentException" ["java/lang/RuntimeException", "java/lang/Exception"]).filter goodWord)
def wsX1_pass_r1 : List Cond := [Cond.fieldLink RX1 10 "GustMill" "now" "LGustMill$State;", Cond.methodLink RX1 93 yX1_requireHours, Cond.static yX1_requireHours, Cond.initialized RX1, Cond.code yX1_requireHours cX1_requireHours 1 none, Cond.classLink RX1 19 "java/lang/IllegalArgumentException", Cond.initialized "java/lang/IllegalArgumentException", Cond.methodLink RX1 96 yX0_run, Cond.instanceMethod yX0_run, Cond.selects RX0 yX0_run yX0_run, Cond.initialized RX0, Cond.code yX0_run cX0_run 5 (some .int), Cond.fieldLink RX0 40 "GustMill$State" "hour" "I", Cond.fieldLink RX0 50 "GustMill$State" "groundCount" "I", Cond.fieldLink RX0 47 "GustMill$State" "sackCount" "I", Cond.fieldLink RX0 59 "GustMill$State" "isTakingOff" "Z", Cond.methodLink RX0 67 yX0_takeOffUnwanted, Cond.instanceMethod yX0_takeOffUnwanted, Cond.selects RX0 yX0_takeOffUnwanted yX0_takeOffUnwanted, Cond.code yX0_takeOffUnwanted cX0_takeOffUnwanted 3 none, Cond.fieldLink RX0 44 "GustMill$State" "stoneCount" "I", Cond.fieldLink RX0 18 "GustMill$State" "sacksUpon" "[I", Cond.methodLink RX0 80 yX0_countAhead, Cond.instanceMethod yX0_countAhead]
def wsX1_pass_r2 : List Cond := [Cond.selects RX0 yX0_countAhead yX0_countAhead, Cond.code yX0_countAhead cX0_countAhead 4 (some .int), Cond.methodLink RX0 101 yX0_isGround, Cond.instanceMethod yX0_isGround, Cond.selects RX0 yX0_isGround yX0_isGround, Cond.code yX0_isGround cX0_isGround 2 (some .boolean), Cond.fieldLink RX0 28 "GustMill$State" "lefts" "[I", Cond.methodLink RX0 108 yX0_isAhead, Cond.instanceMethod yX0_isAhead, Cond.selects RX0 yX0_isAhead yX0_isAhead, Cond.code yX0_isAhead cX0_isAhead 4 (some .boolean), Cond.fieldLink RX0 56 "GustMill$State" "rule" "I", Cond.fieldLink RX0 31 "GustMill$State" "untils" "[I", Cond.methodLink RX0 84 yX0_clearStone, Cond.instanceMethod yX0_clearStone, Cond.selects RX0 yX0_clearStone yX0_clearStone, Cond.code yX0_clearStone cX0_clearStone 3 none, Cond.fieldLink RX0 34 "GustMill$State" "stonesUnder" "[I", Cond.methodLink RX0 70 yX0_fillStones, Cond.instanceMethod yX0_fillStones, Cond.selects RX0 yX0_fillStones yX0_fillStones, Cond.code yX0_fillStones cX0_fillStones 3 none, Cond.fieldLink RX0 21 "GustMill$State" "isFresh" "[Z", Cond.fieldLink RX0 53 "GustMill$State" "changeCount" "I"]
def wsX1_pass_r3 : List Cond := [Cond.methodLink RX0 88 yX0_firstByRule, Cond.instanceMethod yX0_firstByRule, Cond.selects RX0 yX0_firstByRule yX0_firstByRule, Cond.code yX0_firstByRule cX0_firstByRule 5 (some .int), Cond.methodLink RX0 73 yX0_grind, Cond.instanceMethod yX0_grind, Cond.selects RX0 yX0_grind yX0_grind, Cond.code yX0_grind cX0_grind 7 (some .int), Cond.fieldLink RX0 15 "GustMill$State" "sizes" "[I", Cond.methodLink RX0 95 Lib.Math.min.name, Cond.static Lib.Math.min.name, Cond.initialized "java/lang/Math", Cond.code Lib.Math.min.name Lib.Math.min.code 2 (some .int), Cond.methodLink RX0 92 yX0_windOfHour, Cond.instanceMethod yX0_windOfHour, Cond.selects RX0 yX0_windOfHour yX0_windOfHour, Cond.code yX0_windOfHour cX0_windOfHour 1 (some .int), Cond.fieldLink RX0 9 "GustMill$State" "winds" "[I", Cond.methodLink RX0 105 yJ9_floorMod_7cf53, Cond.static yJ9_floorMod_7cf53, Cond.initialized RJ9, Cond.code yJ9_floorMod_7cf53 cJ9_floorMod_7cf53 3 (some .int), Cond.methodLink RX0 77 yX0_finishSacks, Cond.instanceMethod yX0_finishSacks]
def wsX1_pass_r4 : List Cond := [Cond.selects RX0 yX0_finishSacks yX0_finishSacks, Cond.code yX0_finishSacks cX0_finishSacks 3 none, Cond.fieldLink RX0 37 "GustMill$State" "groundHours" "[I"]
def wsX1_pass : List Cond := .code yX1_pass cX1_pass 2 (some .int) :: ((wsX1_pass_r1 ++ (wsX1_pass_r2 ++ (wsX1_pass_r3 ++ wsX1_pass_r4))) ++ wsX10 ++ wsX00 ++ (vx_atS RX1 23 "java/lang/IllegalArgumentException" ["java/lang/RuntimeException", "java/lang/Exception"]).filter goodWord)
def wsX1_hour : List Cond := .code yX1_hour cX1_hour 1 (some .int) :: ([.fieldLink RX1 10 "GustMill" "now" "LGustMill$State;"] ++ wsX10 ++ wsX00)
def wsX1_stones : List Cond := .code yX1_stones cX1_stones 1 (some .int) :: ([.fieldLink RX1 10 "GustMill" "now" "LGustMill$State;"] ++ wsX10 ++ wsX00)
def wsX1_sacks : List Cond := .code yX1_sacks cX1_sacks 1 (some .int) :: ([.fieldLink RX1 10 "GustMill" "now" "LGustMill$State;"] ++ wsX10 ++ wsX00)
def wsX1_rule : List Cond := .code yX1_rule cX1_rule 1 (some .int) :: ([.fieldLink RX1 10 "GustMill" "now" "LGustMill$State;"] ++ wsX10 ++ wsX00)
def wsX1_wind : List Cond := .code yX1_wind cX1_wind 1 (some .int) :: ([.fieldLink RX1 10 "GustMill" "now" "LGustMill$State;", .methodLink RX1 102 yX0_windOfHour, .instanceMethod yX0_windOfHour, .selects RX0 yX0_windOfHour yX0_windOfHour, .initialized RX0, .code yX0_windOfHour cX0_windOfHour 1 (some .int), .fieldLink RX0 9 "GustMill$State" "winds" "[I", .fieldLink RX0 40 "GustMill$State" "hour" "I", .methodLink RX0 105 yJ9_floorMod_7cf53, .static yJ9_floorMod_7cf53, .initialized RJ9, .code yJ9_floorMod_7cf53 cJ9_floorMod_7cf53 3 (some .int)] ++ wsX10 ++ wsX00)
def wsX1_sackOn : List Cond := .code yX1_sackOn cX1_sackOn 2 (some .int) :: ([.classLink RX1 39 "java/lang/IndexOutOfBoundsException", .initialized "java/lang/IndexOutOfBoundsException", .fieldLink RX1 10 "GustMill" "now" "LGustMill$State;"] ++ wsX10 ++ wsX00 ++ (vx_atS RX1 43 "java/lang/IndexOutOfBoundsException" ["java/lang/RuntimeException", "java/lang/Exception"]).filter goodWord)
def wsX1_stoneOf : List Cond := .code yX1_stoneOf cX1_stoneOf 2 (some .int) :: ([.fieldLink RX1 10 "GustMill" "now" "LGustMill$State;", .methodLink RX1 79 yX1_requireSack, .instanceMethod yX1_requireSack, .selects RX1 yX1_requireSack yX1_requireSack, .initialized RX1, .code yX1_requireSack cX1_requireSack 2 none, .classLink RX1 39 "java/lang/IndexOutOfBoundsException", .initialized "java/lang/IndexOutOfBoundsException"] ++ wsX10 ++ wsX00 ++ (vx_atS RX1 43 "java/lang/IndexOutOfBoundsException" ["java/lang/RuntimeException", "java/lang/Exception"]).filter goodWord)
def wsX1_leftOf : List Cond := .code yX1_leftOf cX1_leftOf 2 (some .int) :: ([.fieldLink RX1 10 "GustMill" "now" "LGustMill$State;", .methodLink RX1 79 yX1_requireSack, .instanceMethod yX1_requireSack, .selects RX1 yX1_requireSack yX1_requireSack, .initialized RX1, .code yX1_requireSack cX1_requireSack 2 none, .classLink RX1 39 "java/lang/IndexOutOfBoundsException", .initialized "java/lang/IndexOutOfBoundsException"] ++ wsX10 ++ wsX00 ++ (vx_atS RX1 43 "java/lang/IndexOutOfBoundsException" ["java/lang/RuntimeException", "java/lang/Exception"]).filter goodWord)
def wsX1_untilOf : List Cond := .code yX1_untilOf cX1_untilOf 2 (some .int) :: ([.fieldLink RX1 10 "GustMill" "now" "LGustMill$State;", .methodLink RX1 79 yX1_requireSack, .instanceMethod yX1_requireSack, .selects RX1 yX1_requireSack yX1_requireSack, .initialized RX1, .code yX1_requireSack cX1_requireSack 2 none, .classLink RX1 39 "java/lang/IndexOutOfBoundsException", .initialized "java/lang/IndexOutOfBoundsException"] ++ wsX10 ++ wsX00 ++ (vx_atS RX1 43 "java/lang/IndexOutOfBoundsException" ["java/lang/RuntimeException", "java/lang/Exception"]).filter goodWord)
def wsX1_groundAt : List Cond := .code yX1_groundAt cX1_groundAt 2 (some .int) :: ([.fieldLink RX1 10 "GustMill" "now" "LGustMill$State;", .methodLink RX1 79 yX1_requireSack, .instanceMethod yX1_requireSack, .selects RX1 yX1_requireSack yX1_requireSack, .initialized RX1, .code yX1_requireSack cX1_requireSack 2 none, .classLink RX1 39 "java/lang/IndexOutOfBoundsException", .initialized "java/lang/IndexOutOfBoundsException"] ++ wsX10 ++ wsX00 ++ (vx_atS RX1 43 "java/lang/IndexOutOfBoundsException" ["java/lang/RuntimeException", "java/lang/Exception"]).filter goodWord)
def wsX1_ground : List Cond := .code yX1_ground cX1_ground 1 (some .int) :: ([.fieldLink RX1 10 "GustMill" "now" "LGustMill$State;"] ++ wsX10 ++ wsX00)
def wsX1_changes : List Cond := .code yX1_changes cX1_changes 1 (some .int) :: ([.fieldLink RX1 10 "GustMill" "now" "LGustMill$State;"] ++ wsX10 ++ wsX00)
def wsX1_first : List Cond := .code yX1_first cX1_first 1 (some .int) :: ([.fieldLink RX1 10 "GustMill" "now" "LGustMill$State;", .methodLink RX1 123 yX0_firstByRule, .instanceMethod yX0_firstByRule, .selects RX0 yX0_firstByRule yX0_firstByRule, .initialized RX0, .code yX0_firstByRule cX0_firstByRule 5 (some .int), .fieldLink RX0 47 "GustMill$State" "sackCount" "I", .fieldLink RX0 34 "GustMill$State" "stonesUnder" "[I", .methodLink RX0 101 yX0_isGround, .instanceMethod yX0_isGround, .selects RX0 yX0_isGround yX0_isGround, .code yX0_isGround cX0_isGround 2 (some .boolean), .fieldLink RX0 28 "GustMill$State" "lefts" "[I", .methodLink RX0 108 yX0_isAhead, .instanceMethod yX0_isAhead, .selects RX0 yX0_isAhead yX0_isAhead, .code yX0_isAhead cX0_isAhead 4 (some .boolean), .fieldLink RX0 56 "GustMill$State" "rule" "I", .fieldLink RX0 31 "GustMill$State" "untils" "[I"] ++ wsX10 ++ wsX00)
def wsX1_placeOf_r1 : List Cond := [Cond.fieldLink RX1 10 "GustMill" "now" "LGustMill$State;", Cond.methodLink RX1 79 yX1_requireSack, Cond.instanceMethod yX1_requireSack, Cond.selects RX1 yX1_requireSack yX1_requireSack, Cond.initialized RX1, Cond.code yX1_requireSack cX1_requireSack 2 none, Cond.classLink RX1 39 "java/lang/IndexOutOfBoundsException", Cond.initialized "java/lang/IndexOutOfBoundsException", Cond.methodLink RX1 127 yX0_isGround, Cond.instanceMethod yX0_isGround, Cond.selects RX0 yX0_isGround yX0_isGround, Cond.initialized RX0, Cond.code yX0_isGround cX0_isGround 2 (some .boolean), Cond.fieldLink RX0 28 "GustMill$State" "lefts" "[I", Cond.methodLink RX1 131 yX0_countAhead, Cond.instanceMethod yX0_countAhead, Cond.selects RX0 yX0_countAhead yX0_countAhead, Cond.code yX0_countAhead cX0_countAhead 4 (some .int), Cond.fieldLink RX0 47 "GustMill$State" "sackCount" "I", Cond.methodLink RX0 101 yX0_isGround, Cond.methodLink RX0 108 yX0_isAhead, Cond.instanceMethod yX0_isAhead, Cond.selects RX0 yX0_isAhead yX0_isAhead, Cond.code yX0_isAhead cX0_isAhead 4 (some .boolean)]
def wsX1_placeOf_r2 : List Cond := [Cond.fieldLink RX0 56 "GustMill$State" "rule" "I", Cond.fieldLink RX0 31 "GustMill$State" "untils" "[I"]
def wsX1_placeOf : List Cond := .code yX1_placeOf cX1_placeOf 2 (some .int) :: ((wsX1_placeOf_r1 ++ wsX1_placeOf_r2) ++ wsX10 ++ wsX00 ++ (vx_atS RX1 43 "java/lang/IndexOutOfBoundsException" ["java/lang/RuntimeException", "java/lang/Exception"]).filter goodWord)
def wsX1_leftFor : List Cond := .code yX1_leftFor cX1_leftFor 4 (some .int) :: ([.fieldLink RX1 10 "GustMill" "now" "LGustMill$State;", .methodLink RX1 61 yX1_requireBaker, .static yX1_requireBaker, .initialized RX1, .code yX1_requireBaker cX1_requireBaker 1 none, .classLink RX1 19 "java/lang/IllegalArgumentException", .initialized "java/lang/IllegalArgumentException"] ++ wsX10 ++ wsX00 ++ (vx_atS RX1 23 "java/lang/IllegalArgumentException" ["java/lang/RuntimeException", "java/lang/Exception"]).filter goodWord)
def wsX1_late : List Cond := .code yX1_late cX1_late 1 (some .int) :: ([.fieldLink RX1 10 "GustMill" "now" "LGustMill$State;", .methodLink RX1 137 yX0_hoursLate, .instanceMethod yX0_hoursLate, .selects RX0 yX0_hoursLate yX0_hoursLate, .initialized RX0, .code yX0_hoursLate cX0_hoursLate 3 (some .int), .fieldLink RX0 47 "GustMill$State" "sackCount" "I", .fieldLink RX0 37 "GustMill$State" "groundHours" "[I", .fieldLink RX0 31 "GustMill$State" "untils" "[I", .methodLink RX0 112 Lib.Math.max.name, .static Lib.Math.max.name, .initialized "java/lang/Math", .code Lib.Math.max.name Lib.Math.max.code 2 (some .int), .methodLink RX0 101 yX0_isGround, .instanceMethod yX0_isGround, .selects RX0 yX0_isGround yX0_isGround, .code yX0_isGround cX0_isGround 2 (some .boolean), .fieldLink RX0 28 "GustMill$State" "lefts" "[I"] ++ wsX10 ++ wsX00)
def wsX1_lateWith_r1 : List Cond := [Cond.fieldLink RX1 16 "GustMill" "trial" "LGustMill$State;", Cond.fieldLink RX1 10 "GustMill" "now" "LGustMill$State;", Cond.methodLink RX1 50 yX1_requireRule, Cond.static yX1_requireRule, Cond.initialized RX1, Cond.code yX1_requireRule cX1_requireRule 1 none, Cond.classLink RX1 19 "java/lang/IllegalArgumentException", Cond.initialized "java/lang/IllegalArgumentException", Cond.methodLink RX1 143 yX0_become, Cond.instanceMethod yX0_become, Cond.selects RX0 yX0_become yX0_become, Cond.initialized RX0, Cond.code yX0_become cX0_become 2 none, Cond.fieldLink RX0 9 "GustMill$State" "winds" "[I", Cond.fieldLink RX0 15 "GustMill$State" "sizes" "[I", Cond.fieldLink RX0 18 "GustMill$State" "sacksUpon" "[I", Cond.fieldLink RX0 25 "GustMill$State" "bakers" "[I", Cond.fieldLink RX0 28 "GustMill$State" "lefts" "[I", Cond.fieldLink RX0 31 "GustMill$State" "untils" "[I", Cond.fieldLink RX0 34 "GustMill$State" "stonesUnder" "[I", Cond.fieldLink RX0 37 "GustMill$State" "groundHours" "[I", Cond.fieldLink RX0 40 "GustMill$State" "hour" "I", Cond.fieldLink RX0 44 "GustMill$State" "stoneCount" "I", Cond.fieldLink RX0 47 "GustMill$State" "sackCount" "I"]
def wsX1_lateWith_r2 : List Cond := [Cond.fieldLink RX0 50 "GustMill$State" "groundCount" "I", Cond.fieldLink RX0 53 "GustMill$State" "changeCount" "I", Cond.fieldLink RX0 56 "GustMill$State" "rule" "I", Cond.fieldLink RX0 59 "GustMill$State" "isTakingOff" "Z", Cond.methodLink RX0 63 yX0_copyRow, Cond.static yX0_copyRow, Cond.code yX0_copyRow cX0_copyRow 3 none, Cond.methodLink RX1 96 yX0_run, Cond.instanceMethod yX0_run, Cond.selects RX0 yX0_run yX0_run, Cond.code yX0_run cX0_run 5 (some .int), Cond.methodLink RX0 67 yX0_takeOffUnwanted, Cond.instanceMethod yX0_takeOffUnwanted, Cond.selects RX0 yX0_takeOffUnwanted yX0_takeOffUnwanted, Cond.code yX0_takeOffUnwanted cX0_takeOffUnwanted 3 none, Cond.methodLink RX0 80 yX0_countAhead, Cond.instanceMethod yX0_countAhead, Cond.selects RX0 yX0_countAhead yX0_countAhead, Cond.code yX0_countAhead cX0_countAhead 4 (some .int), Cond.methodLink RX0 101 yX0_isGround, Cond.instanceMethod yX0_isGround, Cond.selects RX0 yX0_isGround yX0_isGround, Cond.code yX0_isGround cX0_isGround 2 (some .boolean), Cond.methodLink RX0 108 yX0_isAhead]
def wsX1_lateWith_r3 : List Cond := [Cond.instanceMethod yX0_isAhead, Cond.selects RX0 yX0_isAhead yX0_isAhead, Cond.code yX0_isAhead cX0_isAhead 4 (some .boolean), Cond.methodLink RX0 84 yX0_clearStone, Cond.instanceMethod yX0_clearStone, Cond.selects RX0 yX0_clearStone yX0_clearStone, Cond.code yX0_clearStone cX0_clearStone 3 none, Cond.methodLink RX0 70 yX0_fillStones, Cond.instanceMethod yX0_fillStones, Cond.selects RX0 yX0_fillStones yX0_fillStones, Cond.code yX0_fillStones cX0_fillStones 3 none, Cond.fieldLink RX0 21 "GustMill$State" "isFresh" "[Z", Cond.methodLink RX0 88 yX0_firstByRule, Cond.instanceMethod yX0_firstByRule, Cond.selects RX0 yX0_firstByRule yX0_firstByRule, Cond.code yX0_firstByRule cX0_firstByRule 5 (some .int), Cond.methodLink RX0 73 yX0_grind, Cond.instanceMethod yX0_grind, Cond.selects RX0 yX0_grind yX0_grind, Cond.code yX0_grind cX0_grind 7 (some .int), Cond.methodLink RX0 95 Lib.Math.min.name, Cond.static Lib.Math.min.name, Cond.initialized "java/lang/Math", Cond.code Lib.Math.min.name Lib.Math.min.code 2 (some .int)]
def wsX1_lateWith_r4 : List Cond := [Cond.methodLink RX0 92 yX0_windOfHour, Cond.instanceMethod yX0_windOfHour, Cond.selects RX0 yX0_windOfHour yX0_windOfHour, Cond.code yX0_windOfHour cX0_windOfHour 1 (some .int), Cond.methodLink RX0 105 yJ9_floorMod_7cf53, Cond.static yJ9_floorMod_7cf53, Cond.initialized RJ9, Cond.code yJ9_floorMod_7cf53 cJ9_floorMod_7cf53 3 (some .int), Cond.methodLink RX0 77 yX0_finishSacks, Cond.instanceMethod yX0_finishSacks, Cond.selects RX0 yX0_finishSacks yX0_finishSacks, Cond.code yX0_finishSacks cX0_finishSacks 3 none, Cond.methodLink RX1 137 yX0_hoursLate, Cond.instanceMethod yX0_hoursLate, Cond.selects RX0 yX0_hoursLate yX0_hoursLate, Cond.code yX0_hoursLate cX0_hoursLate 3 (some .int), Cond.methodLink RX0 112 Lib.Math.max.name, Cond.static Lib.Math.max.name, Cond.code Lib.Math.max.name Lib.Math.max.code 2 (some .int)]
def wsX1_lateWith : List Cond := .code yX1_lateWith cX1_lateWith 3 (some .int) :: ((wsX1_lateWith_r1 ++ (wsX1_lateWith_r2 ++ (wsX1_lateWith_r3 ++ wsX1_lateWith_r4))) ++ wsX10 ++ wsX00 ++ (vx_atS RX1 23 "java/lang/IllegalArgumentException" ["java/lang/RuntimeException", "java/lang/Exception"]).filter goodWord)
def wsX1_meanLeft : List Cond := .code yX1_meanLeft cX1_meanLeft 4 (some .double) :: ([.fieldLink RX1 10 "GustMill" "now" "LGustMill$State;"] ++ wsX10 ++ wsX00)
def wsX2_init : List Cond := .code yX2_init cX2_init 1 none :: ([.methodLink RX2 1 objectInit, .instanceMethod objectInit, .code objectInit ⟨#[0xb1]⟩ 1 none, .arrayClass .int, .fieldLink RX2 7 "GustMillLaw$Sim" "wind" "[I", .classLink RX2 13 "[I", .fieldLink RX2 14 "GustMillLaw$Sim" "stones" "[[I", .fieldLink RX2 18 "GustMillLaw$Sim" "sacks" "[[I"] ++ wsX20)
def wsX2_with : List Cond := .code yX2_with cX2_with 4 (some (.array (.array .int))) :: ([.classLink RX2 13 "[I"])
def wsX2_order : List Cond := .code yX2_order cX2_order 6 (some (.array .int)) :: ([.fieldLink RX2 18 "GustMillLaw$Sim" "sacks" "[[I", .arrayClass .int, .fieldLink RX2 21 "GustMillLaw$Sim" "rule" "I"] ++ wsX20)
def wsX2_stoneOf : List Cond := .code yX2_stoneOf cX2_stoneOf 3 (some .int) :: ([.fieldLink RX2 14 "GustMillLaw$Sim" "stones" "[[I"] ++ wsX20)
def wsX2_pass : List Cond := .code yX2_pass cX2_pass 9 none :: ([.fieldLink RX2 14 "GustMillLaw$Sim" "stones" "[[I", .fieldLink RX2 29 "GustMillLaw$Sim" "isAllowed" "Z", .fieldLink RX2 7 "GustMillLaw$Sim" "wind" "[I", .fieldLink RX2 33 "GustMillLaw$Sim" "hour" "I", .arrayClass .int, .fieldLink RX2 40 "GustMillLaw$Sim" "changes" "I", .fieldLink RX2 18 "GustMillLaw$Sim" "sacks" "[[I", .fieldLink RX2 43 "GustMillLaw$Sim" "milled" "I", .methodLink RX2 25 yX2_order, .instanceMethod yX2_order, .selects RX2 yX2_order yX2_order, .initialized RX2, .code yX2_order cX2_order 6 (some (.array .int)), .fieldLink RX2 21 "GustMillLaw$Sim" "rule" "I", .methodLink RX2 36 yX2_stoneOf, .instanceMethod yX2_stoneOf, .selects RX2 yX2_stoneOf yX2_stoneOf, .code yX2_stoneOf cX2_stoneOf 3 (some .int)] ++ wsX20)
def wsX2_behind : List Cond := .code yX2_behind cX2_behind 4 (some .int) :: ([.fieldLink RX2 43 "GustMillLaw$Sim" "milled" "I", .methodLink RX2 46 yX2_pass, .instanceMethod yX2_pass, .selects RX2 yX2_pass yX2_pass, .initialized RX2, .code yX2_pass cX2_pass 9 none, .fieldLink RX2 14 "GustMillLaw$Sim" "stones" "[[I", .fieldLink RX2 29 "GustMillLaw$Sim" "isAllowed" "Z", .fieldLink RX2 7 "GustMillLaw$Sim" "wind" "[I", .fieldLink RX2 33 "GustMillLaw$Sim" "hour" "I", .arrayClass .int, .fieldLink RX2 40 "GustMillLaw$Sim" "changes" "I", .fieldLink RX2 18 "GustMillLaw$Sim" "sacks" "[[I", .methodLink RX2 25 yX2_order, .instanceMethod yX2_order, .selects RX2 yX2_order yX2_order, .code yX2_order cX2_order 6 (some (.array .int)), .fieldLink RX2 21 "GustMillLaw$Sim" "rule" "I", .methodLink RX2 36 yX2_stoneOf, .instanceMethod yX2_stoneOf, .selects RX2 yX2_stoneOf yX2_stoneOf, .code yX2_stoneOf cX2_stoneOf 3 (some .int)] ++ wsX20)
def wsX2_late : List Cond := .code yX2_late cX2_late 7 (some .int) :: ([.fieldLink RX2 18 "GustMillLaw$Sim" "sacks" "[[I"] ++ wsX20)
def wsX2_isSame_r1 : List Cond := [Cond.fieldLink RX2 18 "GustMillLaw$Sim" "sacks" "[[I", Cond.fieldLink RX2 33 "GustMillLaw$Sim" "hour" "I", Cond.fieldLink RX2 14 "GustMillLaw$Sim" "stones" "[[I", Cond.fieldLink RX2 21 "GustMillLaw$Sim" "rule" "I", Cond.fieldLink RX2 7 "GustMillLaw$Sim" "wind" "[I", Cond.fieldLink RX2 40 "GustMillLaw$Sim" "changes" "I", Cond.arrayClass .int, Cond.methodLink RX2 25 yX2_order, Cond.instanceMethod yX2_order, Cond.selects RX2 yX2_order yX2_order, Cond.initialized RX2, Cond.code yX2_order cX2_order 6 (some (.array .int)), Cond.methodLink RX2 54 yX1_hour, Cond.instanceMethod yX1_hour, Cond.selects RX1 yX1_hour yX1_hour, Cond.initialized RX1, Cond.code yX1_hour cX1_hour 1 (some .int), Cond.fieldLink RX1 10 "GustMill" "now" "LGustMill$State;", Cond.methodLink RX2 59 yX1_stones, Cond.instanceMethod yX1_stones, Cond.selects RX1 yX1_stones yX1_stones, Cond.code yX1_stones cX1_stones 1 (some .int), Cond.methodLink RX2 61 yX1_sacks, Cond.instanceMethod yX1_sacks]
def wsX2_isSame_r2 : List Cond := [Cond.selects RX1 yX1_sacks yX1_sacks, Cond.code yX1_sacks cX1_sacks 1 (some .int), Cond.methodLink RX2 63 yX1_rule, Cond.instanceMethod yX1_rule, Cond.selects RX1 yX1_rule yX1_rule, Cond.code yX1_rule cX1_rule 1 (some .int), Cond.methodLink RX2 65 yX1_wind, Cond.instanceMethod yX1_wind, Cond.selects RX1 yX1_wind yX1_wind, Cond.code yX1_wind cX1_wind 1 (some .int), Cond.methodLink RX1 102 yX0_windOfHour, Cond.instanceMethod yX0_windOfHour, Cond.selects RX0 yX0_windOfHour yX0_windOfHour, Cond.initialized RX0, Cond.code yX0_windOfHour cX0_windOfHour 1 (some .int), Cond.fieldLink RX0 9 "GustMill$State" "winds" "[I", Cond.fieldLink RX0 40 "GustMill$State" "hour" "I", Cond.methodLink RX0 105 yJ9_floorMod_7cf53, Cond.static yJ9_floorMod_7cf53, Cond.initialized RJ9, Cond.code yJ9_floorMod_7cf53 cJ9_floorMod_7cf53 3 (some .int), Cond.methodLink RX2 67 yX1_changes, Cond.instanceMethod yX1_changes, Cond.selects RX1 yX1_changes yX1_changes]
def wsX2_isSame_r3 : List Cond := [Cond.code yX1_changes cX1_changes 1 (some .int), Cond.methodLink RX2 69 yX1_ground, Cond.instanceMethod yX1_ground, Cond.selects RX1 yX1_ground yX1_ground, Cond.code yX1_ground cX1_ground 1 (some .int), Cond.methodLink RX2 72 yX1_first, Cond.instanceMethod yX1_first, Cond.selects RX1 yX1_first yX1_first, Cond.code yX1_first cX1_first 1 (some .int), Cond.methodLink RX1 123 yX0_firstByRule, Cond.instanceMethod yX0_firstByRule, Cond.selects RX0 yX0_firstByRule yX0_firstByRule, Cond.code yX0_firstByRule cX0_firstByRule 5 (some .int), Cond.fieldLink RX0 47 "GustMill$State" "sackCount" "I", Cond.fieldLink RX0 34 "GustMill$State" "stonesUnder" "[I", Cond.methodLink RX0 101 yX0_isGround, Cond.instanceMethod yX0_isGround, Cond.selects RX0 yX0_isGround yX0_isGround, Cond.code yX0_isGround cX0_isGround 2 (some .boolean), Cond.fieldLink RX0 28 "GustMill$State" "lefts" "[I", Cond.methodLink RX0 108 yX0_isAhead, Cond.instanceMethod yX0_isAhead, Cond.selects RX0 yX0_isAhead yX0_isAhead, Cond.code yX0_isAhead cX0_isAhead 4 (some .boolean)]
def wsX2_isSame_r4 : List Cond := [Cond.fieldLink RX0 56 "GustMill$State" "rule" "I", Cond.fieldLink RX0 31 "GustMill$State" "untils" "[I", Cond.methodLink RX2 75 yX1_late, Cond.instanceMethod yX1_late, Cond.selects RX1 yX1_late yX1_late, Cond.code yX1_late cX1_late 1 (some .int), Cond.methodLink RX1 137 yX0_hoursLate, Cond.instanceMethod yX0_hoursLate, Cond.selects RX0 yX0_hoursLate yX0_hoursLate, Cond.code yX0_hoursLate cX0_hoursLate 3 (some .int), Cond.fieldLink RX0 37 "GustMill$State" "groundHours" "[I", Cond.methodLink RX0 112 Lib.Math.max.name, Cond.static Lib.Math.max.name, Cond.initialized "java/lang/Math", Cond.code Lib.Math.max.name Lib.Math.max.code 2 (some .int), Cond.methodLink RX2 78 yX2_late, Cond.instanceMethod yX2_late, Cond.selects RX2 yX2_late yX2_late, Cond.code yX2_late cX2_late 7 (some .int), Cond.methodLink RX2 80 yX1_stoneOf, Cond.instanceMethod yX1_stoneOf, Cond.selects RX1 yX1_stoneOf yX1_stoneOf, Cond.code yX1_stoneOf cX1_stoneOf 2 (some .int), Cond.methodLink RX1 79 yX1_requireSack]
def wsX2_isSame_r5 : List Cond := [Cond.instanceMethod yX1_requireSack, Cond.selects RX1 yX1_requireSack yX1_requireSack, Cond.code yX1_requireSack cX1_requireSack 2 none, Cond.classLink RX1 39 "java/lang/IndexOutOfBoundsException", Cond.initialized "java/lang/IndexOutOfBoundsException", Cond.methodLink RX2 36 yX2_stoneOf, Cond.instanceMethod yX2_stoneOf, Cond.selects RX2 yX2_stoneOf yX2_stoneOf, Cond.code yX2_stoneOf cX2_stoneOf 3 (some .int), Cond.methodLink RX2 81 yX1_leftOf, Cond.instanceMethod yX1_leftOf, Cond.selects RX1 yX1_leftOf yX1_leftOf, Cond.code yX1_leftOf cX1_leftOf 2 (some .int), Cond.methodLink RX2 84 yX1_untilOf, Cond.instanceMethod yX1_untilOf, Cond.selects RX1 yX1_untilOf yX1_untilOf, Cond.code yX1_untilOf cX1_untilOf 2 (some .int), Cond.methodLink RX2 87 yX1_groundAt, Cond.instanceMethod yX1_groundAt, Cond.selects RX1 yX1_groundAt yX1_groundAt, Cond.code yX1_groundAt cX1_groundAt 2 (some .int), Cond.methodLink RX2 90 yX1_placeOf, Cond.instanceMethod yX1_placeOf, Cond.selects RX1 yX1_placeOf yX1_placeOf]
def wsX2_isSame_r6 : List Cond := [Cond.code yX1_placeOf cX1_placeOf 2 (some .int), Cond.methodLink RX1 127 yX0_isGround, Cond.methodLink RX1 131 yX0_countAhead, Cond.instanceMethod yX0_countAhead, Cond.selects RX0 yX0_countAhead yX0_countAhead, Cond.code yX0_countAhead cX0_countAhead 4 (some .int), Cond.methodLink RX2 93 yX1_sackOn, Cond.instanceMethod yX1_sackOn, Cond.selects RX1 yX1_sackOn yX1_sackOn, Cond.code yX1_sackOn cX1_sackOn 2 (some .int), Cond.methodLink RX2 96 yX1_leftFor, Cond.instanceMethod yX1_leftFor, Cond.selects RX1 yX1_leftFor yX1_leftFor, Cond.code yX1_leftFor cX1_leftFor 4 (some .int), Cond.methodLink RX1 61 yX1_requireBaker, Cond.static yX1_requireBaker, Cond.code yX1_requireBaker cX1_requireBaker 1 none, Cond.classLink RX1 19 "java/lang/IllegalArgumentException", Cond.initialized "java/lang/IllegalArgumentException", Cond.methodLink RX2 99 yX1_meanLeft, Cond.instanceMethod yX1_meanLeft, Cond.selects RX1 yX1_meanLeft yX1_meanLeft, Cond.code yX1_meanLeft cX1_meanLeft 4 (some .double)]
def wsX2_isSame : List Cond := .code yX2_isSame cX2_isSame 9 (some .boolean) :: ((wsX2_isSame_r1 ++ (wsX2_isSame_r2 ++ (wsX2_isSame_r3 ++ (wsX2_isSame_r4 ++ (wsX2_isSame_r5 ++ wsX2_isSame_r6))))) ++ wsX20 ++ wsX10 ++ wsX00 ++ (vx_atS RX1 43 "java/lang/IndexOutOfBoundsException" ["java/lang/RuntimeException", "java/lang/Exception"]).filter goodWord ++ (vx_atS RX1 23 "java/lang/IllegalArgumentException" ["java/lang/RuntimeException", "java/lang/Exception"]).filter goodWord)
def wsJ9_max_7cf53 : List Cond := .code yJ9_max_7cf53 cJ9_max_7cf53 2 (some .int) :: ([])
def wsJ9_min_7cf53 : List Cond := .code yJ9_min_7cf53 cJ9_min_7cf53 2 (some .int) :: ([])
def wsL_below : List Cond := .code yL_below cL_below 2 (some .int) :: ([.constant RL 7 (2147483647)])
def wsL_cell : List Cond := .code yL_cell cL_cell 2 (some .int) :: ([.constant RL 8 (790386105)])
def wsL_act_r1 : List Cond := [Cond.fieldLink RL 9 "GustMillLaw$Sim" "stones" "[[I", Cond.fieldLink RL 15 "GustMillLaw$Sim" "sacks" "[[I", Cond.arrayClass .int, Cond.fieldLink RL 34 "GustMillLaw$Sim" "wind" "[I", Cond.fieldLink RL 41 "GustMillLaw$Sim" "rule" "I", Cond.fieldLink RL 48 "GustMillLaw$Sim" "isAllowed" "Z", Cond.methodLink RL 18 yL_below, Cond.static yL_below, Cond.initialized RL, Cond.code yL_below cL_below 2 (some .int), Cond.constant RL 7 (2147483647), Cond.methodLink RL 24 yX2_with, Cond.static yX2_with, Cond.initialized RX2, Cond.code yX2_with cX2_with 4 (some (.array (.array .int))), Cond.classLink RX2 13 "[I", Cond.methodLink RL 28 yX1_addStone, Cond.instanceMethod yX1_addStone, Cond.selects RX1 yX1_addStone yX1_addStone, Cond.initialized RX1, Cond.code yX1_addStone cX1_addStone 2 (some .int), Cond.classLink RX1 19 "java/lang/IllegalArgumentException", Cond.initialized "java/lang/IllegalArgumentException", Cond.classLink RX1 30 "java/lang/IllegalStateException"]
def wsL_act_r2 : List Cond := [Cond.initialized "java/lang/IllegalStateException", Cond.fieldLink RX1 10 "GustMill" "now" "LGustMill$State;", Cond.methodLink RX1 35 yX0_placeStone, Cond.instanceMethod yX0_placeStone, Cond.selects RX0 yX0_placeStone yX0_placeStone, Cond.initialized RX0, Cond.code yX0_placeStone cX0_placeStone 3 (some .int), Cond.fieldLink RX0 44 "GustMill$State" "stoneCount" "I", Cond.fieldLink RX0 15 "GustMill$State" "sizes" "[I", Cond.fieldLink RX0 18 "GustMill$State" "sacksUpon" "[I", Cond.methodLink RL 38 yX1_setWind, Cond.instanceMethod yX1_setWind, Cond.selects RX1 yX1_setWind yX1_setWind, Cond.code yX1_setWind cX1_setWind 4 (some .int), Cond.classLink RX1 39 "java/lang/IndexOutOfBoundsException", Cond.initialized "java/lang/IndexOutOfBoundsException", Cond.methodLink RL 45 yX1_setRule, Cond.instanceMethod yX1_setRule, Cond.selects RX1 yX1_setRule yX1_setRule, Cond.code yX1_setRule cX1_setRule 3 (some .int), Cond.methodLink RX1 50 yX1_requireRule, Cond.static yX1_requireRule, Cond.code yX1_requireRule cX1_requireRule 1 none, Cond.methodLink RL 52 yX1_setTakingOff]
def wsL_act_r3 : List Cond := [Cond.instanceMethod yX1_setTakingOff, Cond.selects RX1 yX1_setTakingOff yX1_setTakingOff, Cond.code yX1_setTakingOff cX1_setTakingOff 3 (some .boolean), Cond.methodLink RL 56 yX1_bring, Cond.instanceMethod yX1_bring, Cond.selects RX1 yX1_bring yX1_bring, Cond.code yX1_bring cX1_bring 4 (some .int), Cond.methodLink RX1 61 yX1_requireBaker, Cond.static yX1_requireBaker, Cond.code yX1_requireBaker cX1_requireBaker 1 none, Cond.methodLink RX1 64 yX1_requireGrain, Cond.static yX1_requireGrain, Cond.code yX1_requireGrain cX1_requireGrain 1 none, Cond.methodLink RX1 67 yX1_requireUntil, Cond.static yX1_requireUntil, Cond.code yX1_requireUntil cX1_requireUntil 1 none, Cond.methodLink RX1 75 yX0_storeSack, Cond.instanceMethod yX0_storeSack, Cond.selects RX0 yX0_storeSack yX0_storeSack, Cond.code yX0_storeSack cX0_storeSack 5 (some .int), Cond.fieldLink RX0 47 "GustMill$State" "sackCount" "I", Cond.fieldLink RX0 25 "GustMill$State" "bakers" "[I", Cond.fieldLink RX0 28 "GustMill$State" "lefts" "[I", Cond.fieldLink RX0 31 "GustMill$State" "untils" "[I"]
def wsL_act_r4 : List Cond := [Cond.fieldLink RX0 34 "GustMill$State" "stonesUnder" "[I", Cond.fieldLink RX0 37 "GustMill$State" "groundHours" "[I", Cond.methodLink RL 60 yX2_stoneOf, Cond.instanceMethod yX2_stoneOf, Cond.selects RX2 yX2_stoneOf yX2_stoneOf, Cond.code yX2_stoneOf cX2_stoneOf 3 (some .int), Cond.fieldLink RX2 14 "GustMillLaw$Sim" "stones" "[[I", Cond.methodLink RL 63 yX1_lift, Cond.instanceMethod yX1_lift, Cond.selects RX1 yX1_lift yX1_lift, Cond.code yX1_lift cX1_lift 3 (some .int), Cond.methodLink RX1 79 yX1_requireSack, Cond.instanceMethod yX1_requireSack, Cond.selects RX1 yX1_requireSack yX1_requireSack, Cond.code yX1_requireSack cX1_requireSack 2 none, Cond.methodLink RX1 87 yX0_clearStone, Cond.instanceMethod yX0_clearStone, Cond.selects RX0 yX0_clearStone yX0_clearStone, Cond.code yX0_clearStone cX0_clearStone 3 none, Cond.methodLink RL 66 yX1_setUntil, Cond.instanceMethod yX1_setUntil, Cond.selects RX1 yX1_setUntil yX1_setUntil, Cond.code yX1_setUntil cX1_setUntil 4 (some .int), Cond.methodLink RL 69 yX1_pass]
def wsL_act_r5 : List Cond := [Cond.instanceMethod yX1_pass, Cond.selects RX1 yX1_pass yX1_pass, Cond.code yX1_pass cX1_pass 2 (some .int), Cond.methodLink RX1 93 yX1_requireHours, Cond.static yX1_requireHours, Cond.code yX1_requireHours cX1_requireHours 1 none, Cond.methodLink RX1 96 yX0_run, Cond.instanceMethod yX0_run, Cond.selects RX0 yX0_run yX0_run, Cond.code yX0_run cX0_run 5 (some .int), Cond.fieldLink RX0 40 "GustMill$State" "hour" "I", Cond.fieldLink RX0 50 "GustMill$State" "groundCount" "I", Cond.fieldLink RX0 59 "GustMill$State" "isTakingOff" "Z", Cond.methodLink RX0 67 yX0_takeOffUnwanted, Cond.instanceMethod yX0_takeOffUnwanted, Cond.selects RX0 yX0_takeOffUnwanted yX0_takeOffUnwanted, Cond.code yX0_takeOffUnwanted cX0_takeOffUnwanted 3 none, Cond.methodLink RX0 80 yX0_countAhead, Cond.instanceMethod yX0_countAhead, Cond.selects RX0 yX0_countAhead yX0_countAhead, Cond.code yX0_countAhead cX0_countAhead 4 (some .int), Cond.methodLink RX0 101 yX0_isGround, Cond.instanceMethod yX0_isGround, Cond.selects RX0 yX0_isGround yX0_isGround]
def wsL_act_r6 : List Cond := [Cond.code yX0_isGround cX0_isGround 2 (some .boolean), Cond.methodLink RX0 108 yX0_isAhead, Cond.instanceMethod yX0_isAhead, Cond.selects RX0 yX0_isAhead yX0_isAhead, Cond.code yX0_isAhead cX0_isAhead 4 (some .boolean), Cond.fieldLink RX0 56 "GustMill$State" "rule" "I", Cond.methodLink RX0 84 yX0_clearStone, Cond.methodLink RX0 70 yX0_fillStones, Cond.instanceMethod yX0_fillStones, Cond.selects RX0 yX0_fillStones yX0_fillStones, Cond.code yX0_fillStones cX0_fillStones 3 none, Cond.fieldLink RX0 21 "GustMill$State" "isFresh" "[Z", Cond.fieldLink RX0 53 "GustMill$State" "changeCount" "I", Cond.methodLink RX0 88 yX0_firstByRule, Cond.instanceMethod yX0_firstByRule, Cond.selects RX0 yX0_firstByRule yX0_firstByRule, Cond.code yX0_firstByRule cX0_firstByRule 5 (some .int), Cond.methodLink RX0 73 yX0_grind, Cond.instanceMethod yX0_grind, Cond.selects RX0 yX0_grind yX0_grind, Cond.code yX0_grind cX0_grind 7 (some .int), Cond.methodLink RX0 95 Lib.Math.min.name, Cond.static Lib.Math.min.name, Cond.initialized "java/lang/Math"]
def wsL_act_r7 : List Cond := [Cond.code Lib.Math.min.name Lib.Math.min.code 2 (some .int), Cond.methodLink RX0 92 yX0_windOfHour, Cond.instanceMethod yX0_windOfHour, Cond.selects RX0 yX0_windOfHour yX0_windOfHour, Cond.code yX0_windOfHour cX0_windOfHour 1 (some .int), Cond.fieldLink RX0 9 "GustMill$State" "winds" "[I", Cond.methodLink RX0 105 yJ9_floorMod_7cf53, Cond.static yJ9_floorMod_7cf53, Cond.initialized RJ9, Cond.code yJ9_floorMod_7cf53 cJ9_floorMod_7cf53 3 (some .int), Cond.methodLink RX0 77 yX0_finishSacks, Cond.instanceMethod yX0_finishSacks, Cond.selects RX0 yX0_finishSacks yX0_finishSacks, Cond.code yX0_finishSacks cX0_finishSacks 3 none, Cond.methodLink RL 72 yX2_behind, Cond.instanceMethod yX2_behind, Cond.selects RX2 yX2_behind yX2_behind, Cond.code yX2_behind cX2_behind 4 (some .int), Cond.fieldLink RX2 43 "GustMillLaw$Sim" "milled" "I", Cond.methodLink RX2 46 yX2_pass, Cond.instanceMethod yX2_pass, Cond.selects RX2 yX2_pass yX2_pass, Cond.code yX2_pass cX2_pass 9 none, Cond.fieldLink RX2 29 "GustMillLaw$Sim" "isAllowed" "Z"]
def wsL_act_r8 : List Cond := [Cond.fieldLink RX2 7 "GustMillLaw$Sim" "wind" "[I", Cond.fieldLink RX2 33 "GustMillLaw$Sim" "hour" "I", Cond.fieldLink RX2 40 "GustMillLaw$Sim" "changes" "I", Cond.fieldLink RX2 18 "GustMillLaw$Sim" "sacks" "[[I", Cond.methodLink RX2 25 yX2_order, Cond.instanceMethod yX2_order, Cond.selects RX2 yX2_order yX2_order, Cond.code yX2_order cX2_order 6 (some (.array .int)), Cond.fieldLink RX2 21 "GustMillLaw$Sim" "rule" "I", Cond.methodLink RX2 36 yX2_stoneOf]
def wsL_act : List Cond := .code yL_act cL_act 15 (some .boolean) :: ((wsL_act_r1 ++ (wsL_act_r2 ++ (wsL_act_r3 ++ (wsL_act_r4 ++ (wsL_act_r5 ++ (wsL_act_r6 ++ (wsL_act_r7 ++ wsL_act_r8))))))) ++ wsX20 ++ wsX10 ++ wsX00 ++ (vx_atS RX1 23 "java/lang/IllegalArgumentException" ["java/lang/RuntimeException", "java/lang/Exception"]).filter goodWord ++ (vx_atS RX1 34 "java/lang/IllegalStateException" ["java/lang/RuntimeException", "java/lang/Exception"]).filter goodWord ++ (vx_atS RX1 43 "java/lang/IndexOutOfBoundsException" ["java/lang/RuntimeException", "java/lang/Exception"]).filter goodWord)
def wsL_build_r1 : List Cond := [Cond.classLink RL 10 RX2, Cond.instantiable RX2 8, Cond.initialized RX2, Cond.instanceMethod yX2_init, Cond.code yX2_init cX2_init 1 none, Cond.methodLink RX2 1 objectInit, Cond.instanceMethod objectInit, Cond.code objectInit ⟨#[0xb1]⟩ 1 none, Cond.arrayClass .int, Cond.fieldLink RX2 7 "GustMillLaw$Sim" "wind" "[I", Cond.classLink RX2 13 "[I", Cond.fieldLink RX2 14 "GustMillLaw$Sim" "stones" "[[I", Cond.fieldLink RX2 18 "GustMillLaw$Sim" "sacks" "[[I", Cond.methodLink RL 76 yL_cell, Cond.static yL_cell, Cond.initialized RL, Cond.code yL_cell cL_cell 2 (some .int), Cond.constant RL 8 (790386105), Cond.methodLink RL 18 yL_below, Cond.static yL_below, Cond.code yL_below cL_below 2 (some .int), Cond.constant RL 7 (2147483647), Cond.methodLink RL 80 yL_act, Cond.static yL_act]
def wsL_build_r2 : List Cond := [Cond.code yL_act cL_act 15 (some .boolean), Cond.fieldLink RL 9 "GustMillLaw$Sim" "stones" "[[I", Cond.fieldLink RL 15 "GustMillLaw$Sim" "sacks" "[[I", Cond.fieldLink RL 34 "GustMillLaw$Sim" "wind" "[I", Cond.fieldLink RL 41 "GustMillLaw$Sim" "rule" "I", Cond.fieldLink RL 48 "GustMillLaw$Sim" "isAllowed" "Z", Cond.methodLink RL 24 yX2_with, Cond.static yX2_with, Cond.code yX2_with cX2_with 4 (some (.array (.array .int))), Cond.methodLink RL 28 yX1_addStone, Cond.instanceMethod yX1_addStone, Cond.selects RX1 yX1_addStone yX1_addStone, Cond.initialized RX1, Cond.code yX1_addStone cX1_addStone 2 (some .int), Cond.classLink RX1 19 "java/lang/IllegalArgumentException", Cond.initialized "java/lang/IllegalArgumentException", Cond.classLink RX1 30 "java/lang/IllegalStateException", Cond.initialized "java/lang/IllegalStateException", Cond.fieldLink RX1 10 "GustMill" "now" "LGustMill$State;", Cond.methodLink RX1 35 yX0_placeStone, Cond.instanceMethod yX0_placeStone, Cond.selects RX0 yX0_placeStone yX0_placeStone, Cond.initialized RX0, Cond.code yX0_placeStone cX0_placeStone 3 (some .int)]
def wsL_build_r3 : List Cond := [Cond.fieldLink RX0 44 "GustMill$State" "stoneCount" "I", Cond.fieldLink RX0 15 "GustMill$State" "sizes" "[I", Cond.fieldLink RX0 18 "GustMill$State" "sacksUpon" "[I", Cond.methodLink RL 38 yX1_setWind, Cond.instanceMethod yX1_setWind, Cond.selects RX1 yX1_setWind yX1_setWind, Cond.code yX1_setWind cX1_setWind 4 (some .int), Cond.classLink RX1 39 "java/lang/IndexOutOfBoundsException", Cond.initialized "java/lang/IndexOutOfBoundsException", Cond.methodLink RL 45 yX1_setRule, Cond.instanceMethod yX1_setRule, Cond.selects RX1 yX1_setRule yX1_setRule, Cond.code yX1_setRule cX1_setRule 3 (some .int), Cond.methodLink RX1 50 yX1_requireRule, Cond.static yX1_requireRule, Cond.code yX1_requireRule cX1_requireRule 1 none, Cond.methodLink RL 52 yX1_setTakingOff, Cond.instanceMethod yX1_setTakingOff, Cond.selects RX1 yX1_setTakingOff yX1_setTakingOff, Cond.code yX1_setTakingOff cX1_setTakingOff 3 (some .boolean), Cond.methodLink RL 56 yX1_bring, Cond.instanceMethod yX1_bring, Cond.selects RX1 yX1_bring yX1_bring, Cond.code yX1_bring cX1_bring 4 (some .int)]
def wsL_build_r4 : List Cond := [Cond.methodLink RX1 61 yX1_requireBaker, Cond.static yX1_requireBaker, Cond.code yX1_requireBaker cX1_requireBaker 1 none, Cond.methodLink RX1 64 yX1_requireGrain, Cond.static yX1_requireGrain, Cond.code yX1_requireGrain cX1_requireGrain 1 none, Cond.methodLink RX1 67 yX1_requireUntil, Cond.static yX1_requireUntil, Cond.code yX1_requireUntil cX1_requireUntil 1 none, Cond.methodLink RX1 75 yX0_storeSack, Cond.instanceMethod yX0_storeSack, Cond.selects RX0 yX0_storeSack yX0_storeSack, Cond.code yX0_storeSack cX0_storeSack 5 (some .int), Cond.fieldLink RX0 47 "GustMill$State" "sackCount" "I", Cond.fieldLink RX0 25 "GustMill$State" "bakers" "[I", Cond.fieldLink RX0 28 "GustMill$State" "lefts" "[I", Cond.fieldLink RX0 31 "GustMill$State" "untils" "[I", Cond.fieldLink RX0 34 "GustMill$State" "stonesUnder" "[I", Cond.fieldLink RX0 37 "GustMill$State" "groundHours" "[I", Cond.methodLink RL 60 yX2_stoneOf, Cond.instanceMethod yX2_stoneOf, Cond.selects RX2 yX2_stoneOf yX2_stoneOf, Cond.code yX2_stoneOf cX2_stoneOf 3 (some .int), Cond.methodLink RL 63 yX1_lift]
def wsL_build_r5 : List Cond := [Cond.instanceMethod yX1_lift, Cond.selects RX1 yX1_lift yX1_lift, Cond.code yX1_lift cX1_lift 3 (some .int), Cond.methodLink RX1 79 yX1_requireSack, Cond.instanceMethod yX1_requireSack, Cond.selects RX1 yX1_requireSack yX1_requireSack, Cond.code yX1_requireSack cX1_requireSack 2 none, Cond.methodLink RX1 87 yX0_clearStone, Cond.instanceMethod yX0_clearStone, Cond.selects RX0 yX0_clearStone yX0_clearStone, Cond.code yX0_clearStone cX0_clearStone 3 none, Cond.methodLink RL 66 yX1_setUntil, Cond.instanceMethod yX1_setUntil, Cond.selects RX1 yX1_setUntil yX1_setUntil, Cond.code yX1_setUntil cX1_setUntil 4 (some .int), Cond.methodLink RL 69 yX1_pass, Cond.instanceMethod yX1_pass, Cond.selects RX1 yX1_pass yX1_pass, Cond.code yX1_pass cX1_pass 2 (some .int), Cond.methodLink RX1 93 yX1_requireHours, Cond.static yX1_requireHours, Cond.code yX1_requireHours cX1_requireHours 1 none, Cond.methodLink RX1 96 yX0_run, Cond.instanceMethod yX0_run]
def wsL_build_r6 : List Cond := [Cond.selects RX0 yX0_run yX0_run, Cond.code yX0_run cX0_run 5 (some .int), Cond.fieldLink RX0 40 "GustMill$State" "hour" "I", Cond.fieldLink RX0 50 "GustMill$State" "groundCount" "I", Cond.fieldLink RX0 59 "GustMill$State" "isTakingOff" "Z", Cond.methodLink RX0 67 yX0_takeOffUnwanted, Cond.instanceMethod yX0_takeOffUnwanted, Cond.selects RX0 yX0_takeOffUnwanted yX0_takeOffUnwanted, Cond.code yX0_takeOffUnwanted cX0_takeOffUnwanted 3 none, Cond.methodLink RX0 80 yX0_countAhead, Cond.instanceMethod yX0_countAhead, Cond.selects RX0 yX0_countAhead yX0_countAhead, Cond.code yX0_countAhead cX0_countAhead 4 (some .int), Cond.methodLink RX0 101 yX0_isGround, Cond.instanceMethod yX0_isGround, Cond.selects RX0 yX0_isGround yX0_isGround, Cond.code yX0_isGround cX0_isGround 2 (some .boolean), Cond.methodLink RX0 108 yX0_isAhead, Cond.instanceMethod yX0_isAhead, Cond.selects RX0 yX0_isAhead yX0_isAhead, Cond.code yX0_isAhead cX0_isAhead 4 (some .boolean), Cond.fieldLink RX0 56 "GustMill$State" "rule" "I", Cond.methodLink RX0 84 yX0_clearStone, Cond.methodLink RX0 70 yX0_fillStones]
def wsL_build_r7 : List Cond := [Cond.instanceMethod yX0_fillStones, Cond.selects RX0 yX0_fillStones yX0_fillStones, Cond.code yX0_fillStones cX0_fillStones 3 none, Cond.fieldLink RX0 21 "GustMill$State" "isFresh" "[Z", Cond.fieldLink RX0 53 "GustMill$State" "changeCount" "I", Cond.methodLink RX0 88 yX0_firstByRule, Cond.instanceMethod yX0_firstByRule, Cond.selects RX0 yX0_firstByRule yX0_firstByRule, Cond.code yX0_firstByRule cX0_firstByRule 5 (some .int), Cond.methodLink RX0 73 yX0_grind, Cond.instanceMethod yX0_grind, Cond.selects RX0 yX0_grind yX0_grind, Cond.code yX0_grind cX0_grind 7 (some .int), Cond.methodLink RX0 95 Lib.Math.min.name, Cond.static Lib.Math.min.name, Cond.initialized "java/lang/Math", Cond.code Lib.Math.min.name Lib.Math.min.code 2 (some .int), Cond.methodLink RX0 92 yX0_windOfHour, Cond.instanceMethod yX0_windOfHour, Cond.selects RX0 yX0_windOfHour yX0_windOfHour, Cond.code yX0_windOfHour cX0_windOfHour 1 (some .int), Cond.fieldLink RX0 9 "GustMill$State" "winds" "[I", Cond.methodLink RX0 105 yJ9_floorMod_7cf53, Cond.static yJ9_floorMod_7cf53]
def wsL_build_r8 : List Cond := [Cond.initialized RJ9, Cond.code yJ9_floorMod_7cf53 cJ9_floorMod_7cf53 3 (some .int), Cond.methodLink RX0 77 yX0_finishSacks, Cond.instanceMethod yX0_finishSacks, Cond.selects RX0 yX0_finishSacks yX0_finishSacks, Cond.code yX0_finishSacks cX0_finishSacks 3 none, Cond.methodLink RL 72 yX2_behind, Cond.instanceMethod yX2_behind, Cond.selects RX2 yX2_behind yX2_behind, Cond.code yX2_behind cX2_behind 4 (some .int), Cond.fieldLink RX2 43 "GustMillLaw$Sim" "milled" "I", Cond.methodLink RX2 46 yX2_pass, Cond.instanceMethod yX2_pass, Cond.selects RX2 yX2_pass yX2_pass, Cond.code yX2_pass cX2_pass 9 none, Cond.fieldLink RX2 29 "GustMillLaw$Sim" "isAllowed" "Z", Cond.fieldLink RX2 33 "GustMillLaw$Sim" "hour" "I", Cond.fieldLink RX2 40 "GustMillLaw$Sim" "changes" "I", Cond.methodLink RX2 25 yX2_order, Cond.instanceMethod yX2_order, Cond.selects RX2 yX2_order yX2_order, Cond.code yX2_order cX2_order 6 (some (.array .int)), Cond.fieldLink RX2 21 "GustMillLaw$Sim" "rule" "I", Cond.methodLink RX2 36 yX2_stoneOf]
def wsL_build : List Cond := .code yL_build cL_build 5 (some (.object "GustMillLaw$Sim")) :: ((wsL_build_r1 ++ (wsL_build_r2 ++ (wsL_build_r3 ++ (wsL_build_r4 ++ (wsL_build_r5 ++ (wsL_build_r6 ++ (wsL_build_r7 ++ wsL_build_r8))))))) ++ wsX20 ++ wsX10 ++ wsX00 ++ (vx_atS RX1 23 "java/lang/IllegalArgumentException" ["java/lang/RuntimeException", "java/lang/Exception"]).filter goodWord ++ (vx_atS RX1 34 "java/lang/IllegalStateException" ["java/lang/RuntimeException", "java/lang/Exception"]).filter goodWord ++ (vx_atS RX1 43 "java/lang/IndexOutOfBoundsException" ["java/lang/RuntimeException", "java/lang/Exception"]).filter goodWord)
def wsL_law0_r1 : List Cond := [Cond.classLink RL 29 RX1, Cond.instantiable RX1 2, Cond.initialized RX1, Cond.arrayClass .boolean, Cond.arrayClass .int, Cond.methodLink RL 84 yX1_init, Cond.instanceMethod yX1_init, Cond.code yX1_init cX1_init 1 none, Cond.methodLink RX1 1 objectInit, Cond.instanceMethod objectInit, Cond.code objectInit ⟨#[0xb1]⟩ 1 none, Cond.classLink RX1 7 RX0, Cond.instantiable RX0 16, Cond.initialized RX0, Cond.fieldLink RX1 10 "GustMill" "now" "LGustMill$State;", Cond.fieldLink RX1 16 "GustMill" "trial" "LGustMill$State;", Cond.methodLink RX1 9 yX0_init, Cond.instanceMethod yX0_init, Cond.code yX0_init cX0_init 2 none, Cond.methodLink RX0 3 objectInit, Cond.fieldLink RX0 9 "GustMill$State" "winds" "[I", Cond.fieldLink RX0 15 "GustMill$State" "sizes" "[I", Cond.fieldLink RX0 18 "GustMill$State" "sacksUpon" "[I", Cond.fieldLink RX0 21 "GustMill$State" "isFresh" "[Z"]
def wsL_law0_r2 : List Cond := [Cond.fieldLink RX0 25 "GustMill$State" "bakers" "[I", Cond.fieldLink RX0 28 "GustMill$State" "lefts" "[I", Cond.fieldLink RX0 31 "GustMill$State" "untils" "[I", Cond.fieldLink RX0 34 "GustMill$State" "stonesUnder" "[I", Cond.fieldLink RX0 37 "GustMill$State" "groundHours" "[I", Cond.fieldLink RX0 40 "GustMill$State" "hour" "I", Cond.fieldLink RX0 44 "GustMill$State" "stoneCount" "I", Cond.fieldLink RX0 47 "GustMill$State" "sackCount" "I", Cond.fieldLink RX0 50 "GustMill$State" "groundCount" "I", Cond.fieldLink RX0 53 "GustMill$State" "changeCount" "I", Cond.fieldLink RX0 56 "GustMill$State" "rule" "I", Cond.fieldLink RX0 59 "GustMill$State" "isTakingOff" "Z", Cond.methodLink RL 85 yL_build, Cond.static yL_build, Cond.initialized RL, Cond.code yL_build cL_build 5 (some (.object "GustMillLaw$Sim")), Cond.classLink RL 10 RX2, Cond.instantiable RX2 8, Cond.initialized RX2, Cond.instanceMethod yX2_init, Cond.code yX2_init cX2_init 1 none, Cond.methodLink RX2 1 objectInit, Cond.fieldLink RX2 7 "GustMillLaw$Sim" "wind" "[I", Cond.classLink RX2 13 "[I"]
def wsL_law0_r3 : List Cond := [Cond.fieldLink RX2 14 "GustMillLaw$Sim" "stones" "[[I", Cond.fieldLink RX2 18 "GustMillLaw$Sim" "sacks" "[[I", Cond.methodLink RL 76 yL_cell, Cond.static yL_cell, Cond.code yL_cell cL_cell 2 (some .int), Cond.constant RL 8 (790386105), Cond.methodLink RL 18 yL_below, Cond.static yL_below, Cond.code yL_below cL_below 2 (some .int), Cond.constant RL 7 (2147483647), Cond.methodLink RL 80 yL_act, Cond.static yL_act, Cond.code yL_act cL_act 15 (some .boolean), Cond.fieldLink RL 9 "GustMillLaw$Sim" "stones" "[[I", Cond.fieldLink RL 15 "GustMillLaw$Sim" "sacks" "[[I", Cond.fieldLink RL 34 "GustMillLaw$Sim" "wind" "[I", Cond.fieldLink RL 41 "GustMillLaw$Sim" "rule" "I", Cond.fieldLink RL 48 "GustMillLaw$Sim" "isAllowed" "Z", Cond.methodLink RL 24 yX2_with, Cond.static yX2_with, Cond.code yX2_with cX2_with 4 (some (.array (.array .int))), Cond.methodLink RL 28 yX1_addStone, Cond.instanceMethod yX1_addStone, Cond.selects RX1 yX1_addStone yX1_addStone]
def wsL_law0_r4 : List Cond := [Cond.code yX1_addStone cX1_addStone 2 (some .int), Cond.classLink RX1 19 "java/lang/IllegalArgumentException", Cond.initialized "java/lang/IllegalArgumentException", Cond.classLink RX1 30 "java/lang/IllegalStateException", Cond.initialized "java/lang/IllegalStateException", Cond.methodLink RX1 35 yX0_placeStone, Cond.instanceMethod yX0_placeStone, Cond.selects RX0 yX0_placeStone yX0_placeStone, Cond.code yX0_placeStone cX0_placeStone 3 (some .int), Cond.methodLink RL 38 yX1_setWind, Cond.instanceMethod yX1_setWind, Cond.selects RX1 yX1_setWind yX1_setWind, Cond.code yX1_setWind cX1_setWind 4 (some .int), Cond.classLink RX1 39 "java/lang/IndexOutOfBoundsException", Cond.initialized "java/lang/IndexOutOfBoundsException", Cond.methodLink RL 45 yX1_setRule, Cond.instanceMethod yX1_setRule, Cond.selects RX1 yX1_setRule yX1_setRule, Cond.code yX1_setRule cX1_setRule 3 (some .int), Cond.methodLink RX1 50 yX1_requireRule, Cond.static yX1_requireRule, Cond.code yX1_requireRule cX1_requireRule 1 none, Cond.methodLink RL 52 yX1_setTakingOff, Cond.instanceMethod yX1_setTakingOff]
def wsL_law0_r5 : List Cond := [Cond.selects RX1 yX1_setTakingOff yX1_setTakingOff, Cond.code yX1_setTakingOff cX1_setTakingOff 3 (some .boolean), Cond.methodLink RL 56 yX1_bring, Cond.instanceMethod yX1_bring, Cond.selects RX1 yX1_bring yX1_bring, Cond.code yX1_bring cX1_bring 4 (some .int), Cond.methodLink RX1 61 yX1_requireBaker, Cond.static yX1_requireBaker, Cond.code yX1_requireBaker cX1_requireBaker 1 none, Cond.methodLink RX1 64 yX1_requireGrain, Cond.static yX1_requireGrain, Cond.code yX1_requireGrain cX1_requireGrain 1 none, Cond.methodLink RX1 67 yX1_requireUntil, Cond.static yX1_requireUntil, Cond.code yX1_requireUntil cX1_requireUntil 1 none, Cond.methodLink RX1 75 yX0_storeSack, Cond.instanceMethod yX0_storeSack, Cond.selects RX0 yX0_storeSack yX0_storeSack, Cond.code yX0_storeSack cX0_storeSack 5 (some .int), Cond.methodLink RL 60 yX2_stoneOf, Cond.instanceMethod yX2_stoneOf, Cond.selects RX2 yX2_stoneOf yX2_stoneOf, Cond.code yX2_stoneOf cX2_stoneOf 3 (some .int), Cond.methodLink RL 63 yX1_lift]
def wsL_law0_r6 : List Cond := [Cond.instanceMethod yX1_lift, Cond.selects RX1 yX1_lift yX1_lift, Cond.code yX1_lift cX1_lift 3 (some .int), Cond.methodLink RX1 79 yX1_requireSack, Cond.instanceMethod yX1_requireSack, Cond.selects RX1 yX1_requireSack yX1_requireSack, Cond.code yX1_requireSack cX1_requireSack 2 none, Cond.methodLink RX1 87 yX0_clearStone, Cond.instanceMethod yX0_clearStone, Cond.selects RX0 yX0_clearStone yX0_clearStone, Cond.code yX0_clearStone cX0_clearStone 3 none, Cond.methodLink RL 66 yX1_setUntil, Cond.instanceMethod yX1_setUntil, Cond.selects RX1 yX1_setUntil yX1_setUntil, Cond.code yX1_setUntil cX1_setUntil 4 (some .int), Cond.methodLink RL 69 yX1_pass, Cond.instanceMethod yX1_pass, Cond.selects RX1 yX1_pass yX1_pass, Cond.code yX1_pass cX1_pass 2 (some .int), Cond.methodLink RX1 93 yX1_requireHours, Cond.static yX1_requireHours, Cond.code yX1_requireHours cX1_requireHours 1 none, Cond.methodLink RX1 96 yX0_run, Cond.instanceMethod yX0_run]
def wsL_law0_r7 : List Cond := [Cond.selects RX0 yX0_run yX0_run, Cond.code yX0_run cX0_run 5 (some .int), Cond.methodLink RX0 67 yX0_takeOffUnwanted, Cond.instanceMethod yX0_takeOffUnwanted, Cond.selects RX0 yX0_takeOffUnwanted yX0_takeOffUnwanted, Cond.code yX0_takeOffUnwanted cX0_takeOffUnwanted 3 none, Cond.methodLink RX0 80 yX0_countAhead, Cond.instanceMethod yX0_countAhead, Cond.selects RX0 yX0_countAhead yX0_countAhead, Cond.code yX0_countAhead cX0_countAhead 4 (some .int), Cond.methodLink RX0 101 yX0_isGround, Cond.instanceMethod yX0_isGround, Cond.selects RX0 yX0_isGround yX0_isGround, Cond.code yX0_isGround cX0_isGround 2 (some .boolean), Cond.methodLink RX0 108 yX0_isAhead, Cond.instanceMethod yX0_isAhead, Cond.selects RX0 yX0_isAhead yX0_isAhead, Cond.code yX0_isAhead cX0_isAhead 4 (some .boolean), Cond.methodLink RX0 84 yX0_clearStone, Cond.methodLink RX0 70 yX0_fillStones, Cond.instanceMethod yX0_fillStones, Cond.selects RX0 yX0_fillStones yX0_fillStones, Cond.code yX0_fillStones cX0_fillStones 3 none, Cond.methodLink RX0 88 yX0_firstByRule]
def wsL_law0_r8 : List Cond := [Cond.instanceMethod yX0_firstByRule, Cond.selects RX0 yX0_firstByRule yX0_firstByRule, Cond.code yX0_firstByRule cX0_firstByRule 5 (some .int), Cond.methodLink RX0 73 yX0_grind, Cond.instanceMethod yX0_grind, Cond.selects RX0 yX0_grind yX0_grind, Cond.code yX0_grind cX0_grind 7 (some .int), Cond.methodLink RX0 95 Lib.Math.min.name, Cond.static Lib.Math.min.name, Cond.initialized "java/lang/Math", Cond.code Lib.Math.min.name Lib.Math.min.code 2 (some .int), Cond.methodLink RX0 92 yX0_windOfHour, Cond.instanceMethod yX0_windOfHour, Cond.selects RX0 yX0_windOfHour yX0_windOfHour, Cond.code yX0_windOfHour cX0_windOfHour 1 (some .int), Cond.methodLink RX0 105 yJ9_floorMod_7cf53, Cond.static yJ9_floorMod_7cf53, Cond.initialized RJ9, Cond.code yJ9_floorMod_7cf53 cJ9_floorMod_7cf53 3 (some .int), Cond.methodLink RX0 77 yX0_finishSacks, Cond.instanceMethod yX0_finishSacks, Cond.selects RX0 yX0_finishSacks yX0_finishSacks, Cond.code yX0_finishSacks cX0_finishSacks 3 none, Cond.methodLink RL 72 yX2_behind]
def wsL_law0_r9 : List Cond := [Cond.instanceMethod yX2_behind, Cond.selects RX2 yX2_behind yX2_behind, Cond.code yX2_behind cX2_behind 4 (some .int), Cond.fieldLink RX2 43 "GustMillLaw$Sim" "milled" "I", Cond.methodLink RX2 46 yX2_pass, Cond.instanceMethod yX2_pass, Cond.selects RX2 yX2_pass yX2_pass, Cond.code yX2_pass cX2_pass 9 none, Cond.fieldLink RX2 29 "GustMillLaw$Sim" "isAllowed" "Z", Cond.fieldLink RX2 33 "GustMillLaw$Sim" "hour" "I", Cond.fieldLink RX2 40 "GustMillLaw$Sim" "changes" "I", Cond.methodLink RX2 25 yX2_order, Cond.instanceMethod yX2_order, Cond.selects RX2 yX2_order yX2_order, Cond.code yX2_order cX2_order 6 (some (.array .int)), Cond.fieldLink RX2 21 "GustMillLaw$Sim" "rule" "I", Cond.methodLink RX2 36 yX2_stoneOf, Cond.methodLink RL 89 yX1_sacks, Cond.instanceMethod yX1_sacks, Cond.selects RX1 yX1_sacks yX1_sacks, Cond.code yX1_sacks cX1_sacks 1 (some .int), Cond.methodLink RL 92 yX1_stones, Cond.instanceMethod yX1_stones, Cond.selects RX1 yX1_stones yX1_stones]
def wsL_law0_r10 : List Cond := [Cond.code yX1_stones cX1_stones 1 (some .int), Cond.methodLink RL 94 yX1_leftOf, Cond.instanceMethod yX1_leftOf, Cond.selects RX1 yX1_leftOf yX1_leftOf, Cond.code yX1_leftOf cX1_leftOf 2 (some .int), Cond.methodLink RL 97 yX1_groundAt, Cond.instanceMethod yX1_groundAt, Cond.selects RX1 yX1_groundAt yX1_groundAt, Cond.code yX1_groundAt cX1_groundAt 2 (some .int), Cond.methodLink RL 100 yX1_placeOf, Cond.instanceMethod yX1_placeOf, Cond.selects RX1 yX1_placeOf yX1_placeOf, Cond.code yX1_placeOf cX1_placeOf 2 (some .int), Cond.methodLink RX1 127 yX0_isGround, Cond.methodLink RX1 131 yX0_countAhead, Cond.methodLink RL 103 yX1_stoneOf, Cond.instanceMethod yX1_stoneOf, Cond.selects RX1 yX1_stoneOf yX1_stoneOf, Cond.code yX1_stoneOf cX1_stoneOf 2 (some .int), Cond.methodLink RL 104 yX1_hour, Cond.instanceMethod yX1_hour, Cond.selects RX1 yX1_hour yX1_hour, Cond.code yX1_hour cX1_hour 1 (some .int), Cond.methodLink RL 107 yX1_sackOn]
def wsL_law0_r11 : List Cond := [Cond.instanceMethod yX1_sackOn, Cond.selects RX1 yX1_sackOn yX1_sackOn, Cond.code yX1_sackOn cX1_sackOn 2 (some .int), Cond.methodLink RL 110 yX1_first, Cond.instanceMethod yX1_first, Cond.selects RX1 yX1_first yX1_first, Cond.code yX1_first cX1_first 1 (some .int), Cond.methodLink RX1 123 yX0_firstByRule, Cond.methodLink RL 113 yX1_rule, Cond.instanceMethod yX1_rule, Cond.selects RX1 yX1_rule yX1_rule, Cond.code yX1_rule cX1_rule 1 (some .int), Cond.methodLink RL 115 yX1_untilOf, Cond.instanceMethod yX1_untilOf, Cond.selects RX1 yX1_untilOf yX1_untilOf, Cond.code yX1_untilOf cX1_untilOf 2 (some .int), Cond.methodLink RL 118 yX1_ground, Cond.instanceMethod yX1_ground, Cond.selects RX1 yX1_ground yX1_ground, Cond.code yX1_ground cX1_ground 1 (some .int), Cond.methodLink RL 121 yX1_meanLeft, Cond.instanceMethod yX1_meanLeft, Cond.selects RX1 yX1_meanLeft yX1_meanLeft, Cond.code yX1_meanLeft cX1_meanLeft 4 (some .double)]
def wsL_law0_r12 : List Cond := [Cond.methodLink RL 125 yX1_leftFor, Cond.instanceMethod yX1_leftFor, Cond.selects RX1 yX1_leftFor yX1_leftFor, Cond.code yX1_leftFor cX1_leftFor 4 (some .int), Cond.methodLink RL 128 yX1_lateWith, Cond.instanceMethod yX1_lateWith, Cond.selects RX1 yX1_lateWith yX1_lateWith, Cond.code yX1_lateWith cX1_lateWith 3 (some .int), Cond.methodLink RX1 143 yX0_become, Cond.instanceMethod yX0_become, Cond.selects RX0 yX0_become yX0_become, Cond.code yX0_become cX0_become 2 none, Cond.methodLink RX0 63 yX0_copyRow, Cond.static yX0_copyRow, Cond.code yX0_copyRow cX0_copyRow 3 none, Cond.methodLink RX1 137 yX0_hoursLate, Cond.instanceMethod yX0_hoursLate, Cond.selects RX0 yX0_hoursLate yX0_hoursLate, Cond.code yX0_hoursLate cX0_hoursLate 3 (some .int), Cond.methodLink RX0 112 Lib.Math.max.name, Cond.static Lib.Math.max.name, Cond.code Lib.Math.max.name Lib.Math.max.code 2 (some .int), Cond.methodLink RL 132 yX1_late, Cond.instanceMethod yX1_late]
def wsL_law0_r13 : List Cond := [Cond.selects RX1 yX1_late yX1_late, Cond.code yX1_late cX1_late 1 (some .int), Cond.methodLink RL 135 yX1_wind, Cond.instanceMethod yX1_wind, Cond.selects RX1 yX1_wind yX1_wind, Cond.code yX1_wind cX1_wind 1 (some .int), Cond.methodLink RX1 102 yX0_windOfHour, Cond.methodLink RL 137 yX1_changes, Cond.instanceMethod yX1_changes, Cond.selects RX1 yX1_changes yX1_changes, Cond.code yX1_changes cX1_changes 1 (some .int), Cond.methodLink RL 140 yX2_pass, Cond.methodLink RL 142 yX2_isSame, Cond.instanceMethod yX2_isSame, Cond.selects RX2 yX2_isSame yX2_isSame, Cond.code yX2_isSame cX2_isSame 9 (some .boolean), Cond.methodLink RX2 54 yX1_hour, Cond.methodLink RX2 59 yX1_stones, Cond.methodLink RX2 61 yX1_sacks, Cond.methodLink RX2 63 yX1_rule, Cond.methodLink RX2 65 yX1_wind, Cond.methodLink RX2 67 yX1_changes, Cond.methodLink RX2 69 yX1_ground, Cond.methodLink RX2 72 yX1_first]
def wsL_law0_r14 : List Cond := [Cond.methodLink RX2 75 yX1_late, Cond.methodLink RX2 78 yX2_late, Cond.instanceMethod yX2_late, Cond.selects RX2 yX2_late yX2_late, Cond.code yX2_late cX2_late 7 (some .int), Cond.methodLink RX2 80 yX1_stoneOf, Cond.methodLink RX2 81 yX1_leftOf, Cond.methodLink RX2 84 yX1_untilOf, Cond.methodLink RX2 87 yX1_groundAt, Cond.methodLink RX2 90 yX1_placeOf, Cond.methodLink RX2 93 yX1_sackOn, Cond.methodLink RX2 96 yX1_leftFor, Cond.methodLink RX2 99 yX1_meanLeft]
def wsL_law0 : List Cond := (wsL_law0_r1 ++ (wsL_law0_r2 ++ (wsL_law0_r3 ++ (wsL_law0_r4 ++ (wsL_law0_r5 ++ (wsL_law0_r6 ++ (wsL_law0_r7 ++ (wsL_law0_r8 ++ (wsL_law0_r9 ++ (wsL_law0_r10 ++ (wsL_law0_r11 ++ (wsL_law0_r12 ++ (wsL_law0_r13 ++ wsL_law0_r14))))))))))))) ++ wsX10 ++ wsX00 ++ wsX20 ++ ([] : List Cond)
def wsL_law : List Cond := wsL_law0 ++ (vx_atS RX1 23 "java/lang/IllegalArgumentException" ["java/lang/RuntimeException", "java/lang/Exception"]).filter goodWord ++ (vx_atS RX1 34 "java/lang/IllegalStateException" ["java/lang/RuntimeException", "java/lang/Exception"]).filter goodWord ++ (vx_atS RX1 43 "java/lang/IndexOutOfBoundsException" ["java/lang/RuntimeException", "java/lang/Exception"]).filter goodWord
abbrev vwCl : List vw_C := [(RX0, TX0, 16), (RX1, TX1, 2), (RX2, TX2, 8)]
end
section
theorem dJ9_floorMod_7cf53_0 : decode cJ9_floorMod_7cf53 0 = .ok (.iload_n 0, 1) := by decide +kernel
theorem dJ9_floorMod_7cf53_1 : decode cJ9_floorMod_7cf53 1 = .ok (.iload_n 1, 1) := by decide +kernel
theorem dJ9_floorMod_7cf53_2 : decode cJ9_floorMod_7cf53 2 = .ok (.irem, 1) := by decide +kernel
theorem dJ9_floorMod_7cf53_3 : decode cJ9_floorMod_7cf53 3 = .ok (.istore_n 2, 1) := by decide +kernel
theorem dJ9_floorMod_7cf53_4 : decode cJ9_floorMod_7cf53 4 = .ok (.iload_n 0, 1) := by decide +kernel
theorem dJ9_floorMod_7cf53_5 : decode cJ9_floorMod_7cf53 5 = .ok (.iload_n 1, 1) := by decide +kernel
theorem dJ9_floorMod_7cf53_6 : decode cJ9_floorMod_7cf53 6 = .ok (.ixor, 1) := by decide +kernel
theorem dJ9_floorMod_7cf53_7 : decode cJ9_floorMod_7cf53 7 = .ok (.ifCond .ge 11, 3) := by decide +kernel
theorem dJ9_floorMod_7cf53_10 : decode cJ9_floorMod_7cf53 10 = .ok (.iload_n 2, 1) := by decide +kernel
theorem dJ9_floorMod_7cf53_11 : decode cJ9_floorMod_7cf53 11 = .ok (.ifCond .eq 7, 3) := by decide +kernel
theorem dJ9_floorMod_7cf53_14 : decode cJ9_floorMod_7cf53 14 = .ok (.iload_n 2, 1) := by decide +kernel
theorem dJ9_floorMod_7cf53_15 : decode cJ9_floorMod_7cf53 15 = .ok (.iload_n 1, 1) := by decide +kernel
theorem dJ9_floorMod_7cf53_16 : decode cJ9_floorMod_7cf53 16 = .ok (.iadd, 1) := by decide +kernel
theorem dJ9_floorMod_7cf53_17 : decode cJ9_floorMod_7cf53 17 = .ok (.ireturn, 1) := by decide +kernel
theorem dJ9_floorMod_7cf53_18 : decode cJ9_floorMod_7cf53 18 = .ok (.iload_n 2, 1) := by decide +kernel
theorem dJ9_floorMod_7cf53_19 : decode cJ9_floorMod_7cf53 19 = .ok (.ireturn, 1) := by decide +kernel
theorem dJ9_max_7cf53_0 : decode cJ9_max_7cf53 0 = .ok (.iload_n 0, 1) := by decide +kernel
theorem dJ9_max_7cf53_1 : decode cJ9_max_7cf53 1 = .ok (.iload_n 1, 1) := by decide +kernel
theorem dJ9_max_7cf53_2 : decode cJ9_max_7cf53 2 = .ok (.if_icmp .lt 7, 3) := by decide +kernel
theorem dJ9_max_7cf53_5 : decode cJ9_max_7cf53 5 = .ok (.iload_n 0, 1) := by decide +kernel
theorem dJ9_max_7cf53_6 : decode cJ9_max_7cf53 6 = .ok (.goto 4, 3) := by decide +kernel
theorem dJ9_max_7cf53_9 : decode cJ9_max_7cf53 9 = .ok (.iload_n 1, 1) := by decide +kernel
theorem dJ9_max_7cf53_10 : decode cJ9_max_7cf53 10 = .ok (.ireturn, 1) := by decide +kernel
theorem dJ9_min_7cf53_0 : decode cJ9_min_7cf53 0 = .ok (.iload_n 0, 1) := by decide +kernel
theorem dJ9_min_7cf53_1 : decode cJ9_min_7cf53 1 = .ok (.iload_n 1, 1) := by decide +kernel
theorem dJ9_min_7cf53_2 : decode cJ9_min_7cf53 2 = .ok (.if_icmp .gt 7, 3) := by decide +kernel
theorem dJ9_min_7cf53_5 : decode cJ9_min_7cf53 5 = .ok (.iload_n 0, 1) := by decide +kernel
theorem dJ9_min_7cf53_6 : decode cJ9_min_7cf53 6 = .ok (.goto 4, 3) := by decide +kernel
theorem dJ9_min_7cf53_9 : decode cJ9_min_7cf53 9 = .ok (.iload_n 1, 1) := by decide +kernel
theorem dJ9_min_7cf53_10 : decode cJ9_min_7cf53 10 = .ok (.ireturn, 1) := by decide +kernel
theorem dX0_init_0 : decode cX0_init 0 = .ok (.aload_n 0, 1) := by decide +kernel
theorem dX0_init_1 : decode cX0_init 1 = .ok (.invokespecial 3, 3) := by decide +kernel
theorem dX0_init_4 : decode cX0_init 4 = .ok (.aload_n 0, 1) := by decide +kernel
theorem dX0_init_5 : decode cX0_init 5 = .ok (.bipush 12, 2) := by decide +kernel
theorem dX0_init_7 : decode cX0_init 7 = .ok (.newarray .int, 2) := by decide +kernel
theorem dX0_init_9 : decode cX0_init 9 = .ok (.putfield 9, 3) := by decide +kernel
theorem dX0_init_12 : decode cX0_init 12 = .ok (.aload_n 0, 1) := by decide +kernel
theorem dX0_init_13 : decode cX0_init 13 = .ok (.iconst 4, 1) := by decide +kernel
theorem dX0_init_14 : decode cX0_init 14 = .ok (.newarray .int, 2) := by decide +kernel
theorem dX0_init_16 : decode cX0_init 16 = .ok (.putfield 15, 3) := by decide +kernel
theorem dX0_init_19 : decode cX0_init 19 = .ok (.aload_n 0, 1) := by decide +kernel
theorem dX0_init_20 : decode cX0_init 20 = .ok (.iconst 4, 1) := by decide +kernel
theorem dX0_init_21 : decode cX0_init 21 = .ok (.newarray .int, 2) := by decide +kernel
theorem dX0_init_23 : decode cX0_init 23 = .ok (.putfield 18, 3) := by decide +kernel
theorem dX0_init_26 : decode cX0_init 26 = .ok (.aload_n 0, 1) := by decide +kernel
theorem dX0_init_27 : decode cX0_init 27 = .ok (.iconst 4, 1) := by decide +kernel
theorem dX0_init_28 : decode cX0_init 28 = .ok (.newarray .boolean, 2) := by decide +kernel
theorem dX0_init_30 : decode cX0_init 30 = .ok (.putfield 21, 3) := by decide +kernel
theorem dX0_init_33 : decode cX0_init 33 = .ok (.aload_n 0, 1) := by decide +kernel
theorem dX0_init_34 : decode cX0_init 34 = .ok (.bipush 16, 2) := by decide +kernel
theorem dX0_init_36 : decode cX0_init 36 = .ok (.newarray .int, 2) := by decide +kernel
theorem dX0_init_38 : decode cX0_init 38 = .ok (.putfield 25, 3) := by decide +kernel
theorem dX0_init_41 : decode cX0_init 41 = .ok (.aload_n 0, 1) := by decide +kernel
theorem dX0_init_42 : decode cX0_init 42 = .ok (.bipush 16, 2) := by decide +kernel
theorem dX0_init_44 : decode cX0_init 44 = .ok (.newarray .int, 2) := by decide +kernel
theorem dX0_init_46 : decode cX0_init 46 = .ok (.putfield 28, 3) := by decide +kernel
theorem dX0_init_49 : decode cX0_init 49 = .ok (.aload_n 0, 1) := by decide +kernel
theorem dX0_init_50 : decode cX0_init 50 = .ok (.bipush 16, 2) := by decide +kernel
theorem dX0_init_52 : decode cX0_init 52 = .ok (.newarray .int, 2) := by decide +kernel
theorem dX0_init_54 : decode cX0_init 54 = .ok (.putfield 31, 3) := by decide +kernel
theorem dX0_init_57 : decode cX0_init 57 = .ok (.aload_n 0, 1) := by decide +kernel
theorem dX0_init_58 : decode cX0_init 58 = .ok (.bipush 16, 2) := by decide +kernel
theorem dX0_init_60 : decode cX0_init 60 = .ok (.newarray .int, 2) := by decide +kernel
theorem dX0_init_62 : decode cX0_init 62 = .ok (.putfield 34, 3) := by decide +kernel
theorem dX0_init_65 : decode cX0_init 65 = .ok (.aload_n 0, 1) := by decide +kernel
theorem dX0_init_66 : decode cX0_init 66 = .ok (.bipush 16, 2) := by decide +kernel
theorem dX0_init_68 : decode cX0_init 68 = .ok (.newarray .int, 2) := by decide +kernel
theorem dX0_init_70 : decode cX0_init 70 = .ok (.putfield 37, 3) := by decide +kernel
theorem dX0_init_73 : decode cX0_init 73 = .ok (.aload_n 0, 1) := by decide +kernel
theorem dX0_init_74 : decode cX0_init 74 = .ok (.iconst 0, 1) := by decide +kernel
theorem dX0_init_75 : decode cX0_init 75 = .ok (.putfield 40, 3) := by decide +kernel
theorem dX0_init_78 : decode cX0_init 78 = .ok (.aload_n 0, 1) := by decide +kernel
theorem dX0_init_79 : decode cX0_init 79 = .ok (.iconst 0, 1) := by decide +kernel
theorem dX0_init_80 : decode cX0_init 80 = .ok (.putfield 44, 3) := by decide +kernel
theorem dX0_init_83 : decode cX0_init 83 = .ok (.aload_n 0, 1) := by decide +kernel
theorem dX0_init_84 : decode cX0_init 84 = .ok (.iconst 0, 1) := by decide +kernel
theorem dX0_init_85 : decode cX0_init 85 = .ok (.putfield 47, 3) := by decide +kernel
theorem dX0_init_88 : decode cX0_init 88 = .ok (.aload_n 0, 1) := by decide +kernel
theorem dX0_init_89 : decode cX0_init 89 = .ok (.iconst 0, 1) := by decide +kernel
theorem dX0_init_90 : decode cX0_init 90 = .ok (.putfield 50, 3) := by decide +kernel
theorem dX0_init_93 : decode cX0_init 93 = .ok (.aload_n 0, 1) := by decide +kernel
theorem dX0_init_94 : decode cX0_init 94 = .ok (.iconst 0, 1) := by decide +kernel
theorem dX0_init_95 : decode cX0_init 95 = .ok (.putfield 53, 3) := by decide +kernel
theorem dX0_init_98 : decode cX0_init 98 = .ok (.aload_n 0, 1) := by decide +kernel
theorem dX0_init_99 : decode cX0_init 99 = .ok (.iconst 0, 1) := by decide +kernel
theorem dX0_init_100 : decode cX0_init 100 = .ok (.putfield 56, 3) := by decide +kernel
theorem dX0_init_103 : decode cX0_init 103 = .ok (.aload_n 0, 1) := by decide +kernel
theorem dX0_init_104 : decode cX0_init 104 = .ok (.iconst 0, 1) := by decide +kernel
theorem dX0_init_105 : decode cX0_init 105 = .ok (.putfield 59, 3) := by decide +kernel
theorem dX0_init_108 : decode cX0_init 108 = .ok (.iconst 0, 1) := by decide +kernel
theorem dX0_init_109 : decode cX0_init 109 = .ok (.istore_n 1, 1) := by decide +kernel
theorem dX0_init_110 : decode cX0_init 110 = .ok (.iload_n 1, 1) := by decide +kernel
theorem dX0_init_111 : decode cX0_init 111 = .ok (.bipush 12, 2) := by decide +kernel
theorem dX0_init_113 : decode cX0_init 113 = .ok (.if_icmp .ge 16, 3) := by decide +kernel
theorem dX0_init_116 : decode cX0_init 116 = .ok (.aload_n 0, 1) := by decide +kernel
theorem dX0_init_117 : decode cX0_init 117 = .ok (.getfield 9, 3) := by decide +kernel
theorem dX0_init_120 : decode cX0_init 120 = .ok (.iload_n 1, 1) := by decide +kernel
theorem dX0_init_121 : decode cX0_init 121 = .ok (.iconst 5, 1) := by decide +kernel
theorem dX0_init_122 : decode cX0_init 122 = .ok (.iastore, 1) := by decide +kernel
theorem dX0_init_123 : decode cX0_init 123 = .ok (.iinc 1 1, 3) := by decide +kernel
theorem dX0_init_126 : decode cX0_init 126 = .ok (.goto (-16), 3) := by decide +kernel
theorem dX0_init_129 : decode cX0_init 129 = .ok (.return_, 1) := by decide +kernel
set_option maxRecDepth 20000 in
theorem ggX0_become_X0_copyRow : GoodIn wsX0_become wsX0_copyRow := goodIn_r _ [19] (by decide +kernel) (by decide +kernel)
set_option maxRecDepth 20000 in
theorem gX0_become_X0_copyRow : GoodIn wsX0_become (va_wsS RX0 63 yX0_copyRow wsX0_copyRow) := goodIn_app (goodIn_of _ (by decide +kernel)) ggX0_become_X0_copyRow
theorem dX0_become_0 : decode cX0_become 0 = .ok (.aload_n 1, 1) := by decide +kernel
theorem dX0_become_1 : decode cX0_become 1 = .ok (.getfield 9, 3) := by decide +kernel
theorem dX0_become_4 : decode cX0_become 4 = .ok (.aload_n 0, 1) := by decide +kernel
theorem dX0_become_5 : decode cX0_become 5 = .ok (.getfield 9, 3) := by decide +kernel
theorem dX0_become_8 : decode cX0_become 8 = .ok (.invokestatic 63, 3) := by decide +kernel
theorem dX0_become_11 : decode cX0_become 11 = .ok (.aload_n 1, 1) := by decide +kernel
theorem dX0_become_12 : decode cX0_become 12 = .ok (.getfield 15, 3) := by decide +kernel
theorem dX0_become_15 : decode cX0_become 15 = .ok (.aload_n 0, 1) := by decide +kernel
theorem dX0_become_16 : decode cX0_become 16 = .ok (.getfield 15, 3) := by decide +kernel
theorem dX0_become_19 : decode cX0_become 19 = .ok (.invokestatic 63, 3) := by decide +kernel
theorem dX0_become_22 : decode cX0_become 22 = .ok (.aload_n 1, 1) := by decide +kernel
theorem dX0_become_23 : decode cX0_become 23 = .ok (.getfield 18, 3) := by decide +kernel
theorem dX0_become_26 : decode cX0_become 26 = .ok (.aload_n 0, 1) := by decide +kernel
theorem dX0_become_27 : decode cX0_become 27 = .ok (.getfield 18, 3) := by decide +kernel
theorem dX0_become_30 : decode cX0_become 30 = .ok (.invokestatic 63, 3) := by decide +kernel
theorem dX0_become_33 : decode cX0_become 33 = .ok (.aload_n 1, 1) := by decide +kernel
theorem dX0_become_34 : decode cX0_become 34 = .ok (.getfield 25, 3) := by decide +kernel
theorem dX0_become_37 : decode cX0_become 37 = .ok (.aload_n 0, 1) := by decide +kernel
theorem dX0_become_38 : decode cX0_become 38 = .ok (.getfield 25, 3) := by decide +kernel
theorem dX0_become_41 : decode cX0_become 41 = .ok (.invokestatic 63, 3) := by decide +kernel
theorem dX0_become_44 : decode cX0_become 44 = .ok (.aload_n 1, 1) := by decide +kernel
theorem dX0_become_45 : decode cX0_become 45 = .ok (.getfield 28, 3) := by decide +kernel
theorem dX0_become_48 : decode cX0_become 48 = .ok (.aload_n 0, 1) := by decide +kernel
theorem dX0_become_49 : decode cX0_become 49 = .ok (.getfield 28, 3) := by decide +kernel
theorem dX0_become_52 : decode cX0_become 52 = .ok (.invokestatic 63, 3) := by decide +kernel
theorem dX0_become_55 : decode cX0_become 55 = .ok (.aload_n 1, 1) := by decide +kernel
theorem dX0_become_56 : decode cX0_become 56 = .ok (.getfield 31, 3) := by decide +kernel
theorem dX0_become_59 : decode cX0_become 59 = .ok (.aload_n 0, 1) := by decide +kernel
theorem dX0_become_60 : decode cX0_become 60 = .ok (.getfield 31, 3) := by decide +kernel
theorem dX0_become_63 : decode cX0_become 63 = .ok (.invokestatic 63, 3) := by decide +kernel
theorem dX0_become_66 : decode cX0_become 66 = .ok (.aload_n 1, 1) := by decide +kernel
theorem dX0_become_67 : decode cX0_become 67 = .ok (.getfield 34, 3) := by decide +kernel
theorem dX0_become_70 : decode cX0_become 70 = .ok (.aload_n 0, 1) := by decide +kernel
theorem dX0_become_71 : decode cX0_become 71 = .ok (.getfield 34, 3) := by decide +kernel
theorem dX0_become_74 : decode cX0_become 74 = .ok (.invokestatic 63, 3) := by decide +kernel
theorem dX0_become_77 : decode cX0_become 77 = .ok (.aload_n 1, 1) := by decide +kernel
theorem dX0_become_78 : decode cX0_become 78 = .ok (.getfield 37, 3) := by decide +kernel
theorem dX0_become_81 : decode cX0_become 81 = .ok (.aload_n 0, 1) := by decide +kernel
theorem dX0_become_82 : decode cX0_become 82 = .ok (.getfield 37, 3) := by decide +kernel
theorem dX0_become_85 : decode cX0_become 85 = .ok (.invokestatic 63, 3) := by decide +kernel
theorem dX0_become_88 : decode cX0_become 88 = .ok (.aload_n 0, 1) := by decide +kernel
theorem dX0_become_89 : decode cX0_become 89 = .ok (.aload_n 1, 1) := by decide +kernel
theorem dX0_become_90 : decode cX0_become 90 = .ok (.getfield 40, 3) := by decide +kernel
theorem dX0_become_93 : decode cX0_become 93 = .ok (.putfield 40, 3) := by decide +kernel
theorem dX0_become_96 : decode cX0_become 96 = .ok (.aload_n 0, 1) := by decide +kernel
theorem dX0_become_97 : decode cX0_become 97 = .ok (.aload_n 1, 1) := by decide +kernel
theorem dX0_become_98 : decode cX0_become 98 = .ok (.getfield 44, 3) := by decide +kernel
theorem dX0_become_101 : decode cX0_become 101 = .ok (.putfield 44, 3) := by decide +kernel
theorem dX0_become_104 : decode cX0_become 104 = .ok (.aload_n 0, 1) := by decide +kernel
theorem dX0_become_105 : decode cX0_become 105 = .ok (.aload_n 1, 1) := by decide +kernel
theorem dX0_become_106 : decode cX0_become 106 = .ok (.getfield 47, 3) := by decide +kernel
theorem dX0_become_109 : decode cX0_become 109 = .ok (.putfield 47, 3) := by decide +kernel
theorem dX0_become_112 : decode cX0_become 112 = .ok (.aload_n 0, 1) := by decide +kernel
theorem dX0_become_113 : decode cX0_become 113 = .ok (.aload_n 1, 1) := by decide +kernel
theorem dX0_become_114 : decode cX0_become 114 = .ok (.getfield 50, 3) := by decide +kernel
theorem dX0_become_117 : decode cX0_become 117 = .ok (.putfield 50, 3) := by decide +kernel
theorem dX0_become_120 : decode cX0_become 120 = .ok (.aload_n 0, 1) := by decide +kernel
theorem dX0_become_121 : decode cX0_become 121 = .ok (.aload_n 1, 1) := by decide +kernel
theorem dX0_become_122 : decode cX0_become 122 = .ok (.getfield 53, 3) := by decide +kernel
theorem dX0_become_125 : decode cX0_become 125 = .ok (.putfield 53, 3) := by decide +kernel
theorem dX0_become_128 : decode cX0_become 128 = .ok (.aload_n 0, 1) := by decide +kernel
theorem dX0_become_129 : decode cX0_become 129 = .ok (.aload_n 1, 1) := by decide +kernel
theorem dX0_become_130 : decode cX0_become 130 = .ok (.getfield 56, 3) := by decide +kernel
theorem dX0_become_133 : decode cX0_become 133 = .ok (.putfield 56, 3) := by decide +kernel
theorem dX0_become_136 : decode cX0_become 136 = .ok (.aload_n 0, 1) := by decide +kernel
theorem dX0_become_137 : decode cX0_become 137 = .ok (.aload_n 1, 1) := by decide +kernel
theorem dX0_become_138 : decode cX0_become 138 = .ok (.getfield 59, 3) := by decide +kernel
theorem dX0_become_141 : decode cX0_become 141 = .ok (.putfield 59, 3) := by decide +kernel
theorem dX0_become_144 : decode cX0_become 144 = .ok (.return_, 1) := by decide +kernel
theorem dX0_copyRow_0 : decode cX0_copyRow 0 = .ok (.iconst 0, 1) := by decide +kernel
theorem dX0_copyRow_1 : decode cX0_copyRow 1 = .ok (.istore_n 2, 1) := by decide +kernel
theorem dX0_copyRow_2 : decode cX0_copyRow 2 = .ok (.iload_n 2, 1) := by decide +kernel
theorem dX0_copyRow_3 : decode cX0_copyRow 3 = .ok (.aload_n 0, 1) := by decide +kernel
theorem dX0_copyRow_4 : decode cX0_copyRow 4 = .ok (.arraylength, 1) := by decide +kernel
theorem dX0_copyRow_5 : decode cX0_copyRow 5 = .ok (.if_icmp .ge 21, 3) := by decide +kernel
theorem dX0_copyRow_8 : decode cX0_copyRow 8 = .ok (.iload_n 2, 1) := by decide +kernel
theorem dX0_copyRow_9 : decode cX0_copyRow 9 = .ok (.aload_n 1, 1) := by decide +kernel
theorem dX0_copyRow_10 : decode cX0_copyRow 10 = .ok (.arraylength, 1) := by decide +kernel
theorem dX0_copyRow_11 : decode cX0_copyRow 11 = .ok (.if_icmp .ge 15, 3) := by decide +kernel
theorem dX0_copyRow_14 : decode cX0_copyRow 14 = .ok (.aload_n 1, 1) := by decide +kernel
theorem dX0_copyRow_15 : decode cX0_copyRow 15 = .ok (.iload_n 2, 1) := by decide +kernel
theorem dX0_copyRow_16 : decode cX0_copyRow 16 = .ok (.aload_n 0, 1) := by decide +kernel
theorem dX0_copyRow_17 : decode cX0_copyRow 17 = .ok (.iload_n 2, 1) := by decide +kernel
theorem dX0_copyRow_18 : decode cX0_copyRow 18 = .ok (.iaload, 1) := by decide +kernel
theorem dX0_copyRow_19 : decode cX0_copyRow 19 = .ok (.iastore, 1) := by decide +kernel
theorem dX0_copyRow_20 : decode cX0_copyRow 20 = .ok (.iinc 2 1, 3) := by decide +kernel
theorem dX0_copyRow_23 : decode cX0_copyRow 23 = .ok (.goto (-21), 3) := by decide +kernel
theorem dX0_copyRow_26 : decode cX0_copyRow 26 = .ok (.return_, 1) := by decide +kernel
theorem dX0_placeStone_0 : decode cX0_placeStone 0 = .ok (.aload_n 0, 1) := by decide +kernel
theorem dX0_placeStone_1 : decode cX0_placeStone 1 = .ok (.getfield 44, 3) := by decide +kernel
theorem dX0_placeStone_4 : decode cX0_placeStone 4 = .ok (.istore_n 2, 1) := by decide +kernel
theorem dX0_placeStone_5 : decode cX0_placeStone 5 = .ok (.aload_n 0, 1) := by decide +kernel
theorem dX0_placeStone_6 : decode cX0_placeStone 6 = .ok (.getfield 15, 3) := by decide +kernel
theorem dX0_placeStone_9 : decode cX0_placeStone 9 = .ok (.iload_n 2, 1) := by decide +kernel
theorem dX0_placeStone_10 : decode cX0_placeStone 10 = .ok (.iload_n 1, 1) := by decide +kernel
theorem dX0_placeStone_11 : decode cX0_placeStone 11 = .ok (.iastore, 1) := by decide +kernel
theorem dX0_placeStone_12 : decode cX0_placeStone 12 = .ok (.aload_n 0, 1) := by decide +kernel
theorem dX0_placeStone_13 : decode cX0_placeStone 13 = .ok (.getfield 18, 3) := by decide +kernel
theorem dX0_placeStone_16 : decode cX0_placeStone 16 = .ok (.iload_n 2, 1) := by decide +kernel
theorem dX0_placeStone_17 : decode cX0_placeStone 17 = .ok (.iconst (-1), 1) := by decide +kernel
theorem dX0_placeStone_18 : decode cX0_placeStone 18 = .ok (.iastore, 1) := by decide +kernel
theorem dX0_placeStone_19 : decode cX0_placeStone 19 = .ok (.aload_n 0, 1) := by decide +kernel
theorem dX0_placeStone_20 : decode cX0_placeStone 20 = .ok (.iload_n 2, 1) := by decide +kernel
theorem dX0_placeStone_21 : decode cX0_placeStone 21 = .ok (.iconst 1, 1) := by decide +kernel
theorem dX0_placeStone_22 : decode cX0_placeStone 22 = .ok (.iadd, 1) := by decide +kernel
theorem dX0_placeStone_23 : decode cX0_placeStone 23 = .ok (.putfield 44, 3) := by decide +kernel
theorem dX0_placeStone_26 : decode cX0_placeStone 26 = .ok (.iload_n 2, 1) := by decide +kernel
theorem dX0_placeStone_27 : decode cX0_placeStone 27 = .ok (.ireturn, 1) := by decide +kernel
theorem dX0_storeSack_0 : decode cX0_storeSack 0 = .ok (.aload_n 0, 1) := by decide +kernel
theorem dX0_storeSack_1 : decode cX0_storeSack 1 = .ok (.getfield 47, 3) := by decide +kernel
theorem dX0_storeSack_4 : decode cX0_storeSack 4 = .ok (.istore 4, 2) := by decide +kernel
theorem dX0_storeSack_6 : decode cX0_storeSack 6 = .ok (.aload_n 0, 1) := by decide +kernel
theorem dX0_storeSack_7 : decode cX0_storeSack 7 = .ok (.getfield 25, 3) := by decide +kernel
theorem dX0_storeSack_10 : decode cX0_storeSack 10 = .ok (.iload 4, 2) := by decide +kernel
theorem dX0_storeSack_12 : decode cX0_storeSack 12 = .ok (.iload_n 1, 1) := by decide +kernel
theorem dX0_storeSack_13 : decode cX0_storeSack 13 = .ok (.iastore, 1) := by decide +kernel
theorem dX0_storeSack_14 : decode cX0_storeSack 14 = .ok (.aload_n 0, 1) := by decide +kernel
theorem dX0_storeSack_15 : decode cX0_storeSack 15 = .ok (.getfield 28, 3) := by decide +kernel
theorem dX0_storeSack_18 : decode cX0_storeSack 18 = .ok (.iload 4, 2) := by decide +kernel
theorem dX0_storeSack_20 : decode cX0_storeSack 20 = .ok (.iload_n 2, 1) := by decide +kernel
theorem dX0_storeSack_21 : decode cX0_storeSack 21 = .ok (.iastore, 1) := by decide +kernel
theorem dX0_storeSack_22 : decode cX0_storeSack 22 = .ok (.aload_n 0, 1) := by decide +kernel
theorem dX0_storeSack_23 : decode cX0_storeSack 23 = .ok (.getfield 31, 3) := by decide +kernel
theorem dX0_storeSack_26 : decode cX0_storeSack 26 = .ok (.iload 4, 2) := by decide +kernel
theorem dX0_storeSack_28 : decode cX0_storeSack 28 = .ok (.iload_n 3, 1) := by decide +kernel
theorem dX0_storeSack_29 : decode cX0_storeSack 29 = .ok (.iastore, 1) := by decide +kernel
theorem dX0_storeSack_30 : decode cX0_storeSack 30 = .ok (.aload_n 0, 1) := by decide +kernel
theorem dX0_storeSack_31 : decode cX0_storeSack 31 = .ok (.getfield 34, 3) := by decide +kernel
theorem dX0_storeSack_34 : decode cX0_storeSack 34 = .ok (.iload 4, 2) := by decide +kernel
theorem dX0_storeSack_36 : decode cX0_storeSack 36 = .ok (.iconst (-1), 1) := by decide +kernel
theorem dX0_storeSack_37 : decode cX0_storeSack 37 = .ok (.iastore, 1) := by decide +kernel
theorem dX0_storeSack_38 : decode cX0_storeSack 38 = .ok (.aload_n 0, 1) := by decide +kernel
theorem dX0_storeSack_39 : decode cX0_storeSack 39 = .ok (.getfield 37, 3) := by decide +kernel
theorem dX0_storeSack_42 : decode cX0_storeSack 42 = .ok (.iload 4, 2) := by decide +kernel
theorem dX0_storeSack_44 : decode cX0_storeSack 44 = .ok (.iconst (-1), 1) := by decide +kernel
theorem dX0_storeSack_45 : decode cX0_storeSack 45 = .ok (.iastore, 1) := by decide +kernel
theorem dX0_storeSack_46 : decode cX0_storeSack 46 = .ok (.aload_n 0, 1) := by decide +kernel
theorem dX0_storeSack_47 : decode cX0_storeSack 47 = .ok (.iload 4, 2) := by decide +kernel
theorem dX0_storeSack_49 : decode cX0_storeSack 49 = .ok (.iconst 1, 1) := by decide +kernel
theorem dX0_storeSack_50 : decode cX0_storeSack 50 = .ok (.iadd, 1) := by decide +kernel
theorem dX0_storeSack_51 : decode cX0_storeSack 51 = .ok (.putfield 47, 3) := by decide +kernel
theorem dX0_storeSack_54 : decode cX0_storeSack 54 = .ok (.iload 4, 2) := by decide +kernel
theorem dX0_storeSack_56 : decode cX0_storeSack 56 = .ok (.ireturn, 1) := by decide +kernel
set_option maxRecDepth 20000 in
theorem ggX0_run_X0_takeOffUnwanted : GoodIn wsX0_run wsX0_takeOffUnwanted := goodIn_r _ [9, 10, 11, 12, 13, 14, 8, 15, 3, 16, 17, 18, 19, 20, 21, 22, 23, 24, 25, 26, 27, 28, 29, 30, 31, 65, 66, 67, 68, 69, 70, 71, 72, 73, 74, 75, 76, 77, 78, 79, 80] (by decide +kernel) (by decide +kernel)
set_option maxRecDepth 20000 in
theorem gX0_run_X0_takeOffUnwanted : GoodIn wsX0_run (wsV RX0 67 RX0 yX0_takeOffUnwanted wsX0_takeOffUnwanted) := goodIn_app (goodIn_of _ (by decide +kernel)) ggX0_run_X0_takeOffUnwanted
set_option maxRecDepth 20000 in
theorem ggX0_run_X0_fillStones : GoodIn wsX0_run wsX0_fillStones := goodIn_r _ [35, 10, 11, 36, 31, 37, 38, 39, 40, 8, 41, 3, 16, 17, 18, 19, 20, 21, 22, 23, 24, 25, 26, 65, 66, 67, 68, 69, 70, 71, 72, 73, 74, 75, 76, 77, 78, 79, 80] (by decide +kernel) (by decide +kernel)
set_option maxRecDepth 20000 in
theorem gX0_run_X0_fillStones : GoodIn wsX0_run (wsV RX0 70 RX0 yX0_fillStones wsX0_fillStones) := goodIn_app (goodIn_of _ (by decide +kernel)) ggX0_run_X0_fillStones
set_option maxRecDepth 20000 in
theorem ggX0_run_X0_grind : GoodIn wsX0_run wsX0_grind := goodIn_r _ [45, 10, 11, 36, 46, 20, 47, 48, 49, 50, 51, 52, 53, 8, 54, 55, 1, 56, 57, 58, 59, 65, 66, 67, 68, 69, 70, 71, 72, 73, 74, 75, 76, 77, 78, 79, 80] (by decide +kernel) (by decide +kernel)
set_option maxRecDepth 20000 in
theorem gX0_run_X0_grind : GoodIn wsX0_run (wsV RX0 73 RX0 yX0_grind wsX0_grind) := goodIn_app (goodIn_of _ (by decide +kernel)) ggX0_run_X0_grind
set_option maxRecDepth 20000 in
theorem ggX0_run_X0_finishSacks : GoodIn wsX0_run wsX0_finishSacks := goodIn_r _ [63, 10, 11, 64, 1, 2, 16, 17, 18, 8, 19, 20, 27, 28, 29, 30, 31, 65, 66, 67, 68, 69, 70, 71, 72, 73, 74, 75, 76, 77, 78, 79, 80] (by decide +kernel) (by decide +kernel)
set_option maxRecDepth 20000 in
theorem gX0_run_X0_finishSacks : GoodIn wsX0_run (wsV RX0 77 RX0 yX0_finishSacks wsX0_finishSacks) := goodIn_app (goodIn_of _ (by decide +kernel)) ggX0_run_X0_finishSacks
theorem dX0_run_0 : decode cX0_run 0 = .ok (.aload_n 0, 1) := by decide +kernel
theorem dX0_run_1 : decode cX0_run 1 = .ok (.getfield 40, 3) := by decide +kernel
theorem dX0_run_4 : decode cX0_run 4 = .ok (.iload_n 1, 1) := by decide +kernel
theorem dX0_run_5 : decode cX0_run 5 = .ok (.iadd, 1) := by decide +kernel
theorem dX0_run_6 : decode cX0_run 6 = .ok (.istore_n 2, 1) := by decide +kernel
theorem dX0_run_7 : decode cX0_run 7 = .ok (.iconst 0, 1) := by decide +kernel
theorem dX0_run_8 : decode cX0_run 8 = .ok (.istore_n 3, 1) := by decide +kernel
theorem dX0_run_9 : decode cX0_run 9 = .ok (.iconst 0, 1) := by decide +kernel
theorem dX0_run_10 : decode cX0_run 10 = .ok (.istore 4, 2) := by decide +kernel
theorem dX0_run_12 : decode cX0_run 12 = .ok (.iload 4, 2) := by decide +kernel
theorem dX0_run_14 : decode cX0_run 14 = .ok (.iload_n 1, 1) := by decide +kernel
theorem dX0_run_15 : decode cX0_run 15 = .ok (.if_icmp .ge 56, 3) := by decide +kernel
theorem dX0_run_18 : decode cX0_run 18 = .ok (.aload_n 0, 1) := by decide +kernel
theorem dX0_run_19 : decode cX0_run 19 = .ok (.getfield 50, 3) := by decide +kernel
theorem dX0_run_22 : decode cX0_run 22 = .ok (.aload_n 0, 1) := by decide +kernel
theorem dX0_run_23 : decode cX0_run 23 = .ok (.getfield 47, 3) := by decide +kernel
theorem dX0_run_26 : decode cX0_run 26 = .ok (.if_icmp .ge 45, 3) := by decide +kernel
theorem dX0_run_29 : decode cX0_run 29 = .ok (.aload_n 0, 1) := by decide +kernel
theorem dX0_run_30 : decode cX0_run 30 = .ok (.getfield 59, 3) := by decide +kernel
theorem dX0_run_33 : decode cX0_run 33 = .ok (.ifCond .eq 7, 3) := by decide +kernel
theorem dX0_run_36 : decode cX0_run 36 = .ok (.aload_n 0, 1) := by decide +kernel
theorem dX0_run_37 : decode cX0_run 37 = .ok (.invokevirtual 67, 3) := by decide +kernel
theorem dX0_run_40 : decode cX0_run 40 = .ok (.aload_n 0, 1) := by decide +kernel
theorem dX0_run_41 : decode cX0_run 41 = .ok (.invokevirtual 70, 3) := by decide +kernel
theorem dX0_run_44 : decode cX0_run 44 = .ok (.iload_n 3, 1) := by decide +kernel
theorem dX0_run_45 : decode cX0_run 45 = .ok (.aload_n 0, 1) := by decide +kernel
theorem dX0_run_46 : decode cX0_run 46 = .ok (.invokevirtual 73, 3) := by decide +kernel
theorem dX0_run_49 : decode cX0_run 49 = .ok (.iadd, 1) := by decide +kernel
theorem dX0_run_50 : decode cX0_run 50 = .ok (.istore_n 3, 1) := by decide +kernel
theorem dX0_run_51 : decode cX0_run 51 = .ok (.aload_n 0, 1) := by decide +kernel
theorem dX0_run_52 : decode cX0_run 52 = .ok (.dup, 1) := by decide +kernel
theorem dX0_run_53 : decode cX0_run 53 = .ok (.getfield 40, 3) := by decide +kernel
theorem dX0_run_56 : decode cX0_run 56 = .ok (.iconst 1, 1) := by decide +kernel
theorem dX0_run_57 : decode cX0_run 57 = .ok (.iadd, 1) := by decide +kernel
theorem dX0_run_58 : decode cX0_run 58 = .ok (.putfield 40, 3) := by decide +kernel
theorem dX0_run_61 : decode cX0_run 61 = .ok (.aload_n 0, 1) := by decide +kernel
theorem dX0_run_62 : decode cX0_run 62 = .ok (.invokevirtual 77, 3) := by decide +kernel
theorem dX0_run_65 : decode cX0_run 65 = .ok (.iinc 4 1, 3) := by decide +kernel
theorem dX0_run_68 : decode cX0_run 68 = .ok (.goto (-56), 3) := by decide +kernel
theorem dX0_run_71 : decode cX0_run 71 = .ok (.aload_n 0, 1) := by decide +kernel
theorem dX0_run_72 : decode cX0_run 72 = .ok (.iload_n 2, 1) := by decide +kernel
theorem dX0_run_73 : decode cX0_run 73 = .ok (.putfield 40, 3) := by decide +kernel
theorem dX0_run_76 : decode cX0_run 76 = .ok (.iload_n 3, 1) := by decide +kernel
theorem dX0_run_77 : decode cX0_run 77 = .ok (.ireturn, 1) := by decide +kernel
set_option maxRecDepth 20000 in
theorem ggX0_takeOffUnwanted_X0_countAhead : GoodIn wsX0_takeOffUnwanted wsX0_countAhead := goodIn_r _ [7, 8, 9, 10, 11, 6, 12, 13, 14, 15, 16, 17, 18, 19, 25, 26, 27, 28, 29, 30, 31, 32, 33, 34, 35, 36, 37, 38, 39, 40] (by decide +kernel) (by decide +kernel)
set_option maxRecDepth 20000 in
theorem gX0_takeOffUnwanted_X0_countAhead : GoodIn wsX0_takeOffUnwanted (wsV RX0 80 RX0 yX0_countAhead wsX0_countAhead) := goodIn_app (goodIn_of _ (by decide +kernel)) ggX0_takeOffUnwanted_X0_countAhead
set_option maxRecDepth 20000 in
theorem ggX0_takeOffUnwanted_X0_clearStone : GoodIn wsX0_takeOffUnwanted wsX0_clearStone := goodIn_r _ [23, 2, 24, 25, 26, 27, 28, 29, 30, 31, 32, 33, 34, 35, 36, 37, 38, 39, 40] (by decide +kernel) (by decide +kernel)
set_option maxRecDepth 20000 in
theorem gX0_takeOffUnwanted_X0_clearStone : GoodIn wsX0_takeOffUnwanted (wsV RX0 84 RX0 yX0_clearStone wsX0_clearStone) := goodIn_app (goodIn_of _ (by decide +kernel)) ggX0_takeOffUnwanted_X0_clearStone
theorem dX0_takeOffUnwanted_0 : decode cX0_takeOffUnwanted 0 = .ok (.iconst 0, 1) := by decide +kernel
theorem dX0_takeOffUnwanted_1 : decode cX0_takeOffUnwanted 1 = .ok (.istore_n 1, 1) := by decide +kernel
theorem dX0_takeOffUnwanted_2 : decode cX0_takeOffUnwanted 2 = .ok (.iload_n 1, 1) := by decide +kernel
theorem dX0_takeOffUnwanted_3 : decode cX0_takeOffUnwanted 3 = .ok (.aload_n 0, 1) := by decide +kernel
theorem dX0_takeOffUnwanted_4 : decode cX0_takeOffUnwanted 4 = .ok (.getfield 44, 3) := by decide +kernel
theorem dX0_takeOffUnwanted_7 : decode cX0_takeOffUnwanted 7 = .ok (.if_icmp .ge 38, 3) := by decide +kernel
theorem dX0_takeOffUnwanted_10 : decode cX0_takeOffUnwanted 10 = .ok (.aload_n 0, 1) := by decide +kernel
theorem dX0_takeOffUnwanted_11 : decode cX0_takeOffUnwanted 11 = .ok (.getfield 18, 3) := by decide +kernel
theorem dX0_takeOffUnwanted_14 : decode cX0_takeOffUnwanted 14 = .ok (.iload_n 1, 1) := by decide +kernel
theorem dX0_takeOffUnwanted_15 : decode cX0_takeOffUnwanted 15 = .ok (.iaload, 1) := by decide +kernel
theorem dX0_takeOffUnwanted_16 : decode cX0_takeOffUnwanted 16 = .ok (.istore_n 2, 1) := by decide +kernel
theorem dX0_takeOffUnwanted_17 : decode cX0_takeOffUnwanted 17 = .ok (.iload_n 2, 1) := by decide +kernel
theorem dX0_takeOffUnwanted_18 : decode cX0_takeOffUnwanted 18 = .ok (.iconst (-1), 1) := by decide +kernel
theorem dX0_takeOffUnwanted_19 : decode cX0_takeOffUnwanted 19 = .ok (.if_icmp .eq 20, 3) := by decide +kernel
theorem dX0_takeOffUnwanted_22 : decode cX0_takeOffUnwanted 22 = .ok (.aload_n 0, 1) := by decide +kernel
theorem dX0_takeOffUnwanted_23 : decode cX0_takeOffUnwanted 23 = .ok (.iload_n 2, 1) := by decide +kernel
theorem dX0_takeOffUnwanted_24 : decode cX0_takeOffUnwanted 24 = .ok (.invokevirtual 80, 3) := by decide +kernel
theorem dX0_takeOffUnwanted_27 : decode cX0_takeOffUnwanted 27 = .ok (.aload_n 0, 1) := by decide +kernel
theorem dX0_takeOffUnwanted_28 : decode cX0_takeOffUnwanted 28 = .ok (.getfield 44, 3) := by decide +kernel
theorem dX0_takeOffUnwanted_31 : decode cX0_takeOffUnwanted 31 = .ok (.if_icmp .lt 8, 3) := by decide +kernel
theorem dX0_takeOffUnwanted_34 : decode cX0_takeOffUnwanted 34 = .ok (.aload_n 0, 1) := by decide +kernel
theorem dX0_takeOffUnwanted_35 : decode cX0_takeOffUnwanted 35 = .ok (.iload_n 1, 1) := by decide +kernel
theorem dX0_takeOffUnwanted_36 : decode cX0_takeOffUnwanted 36 = .ok (.invokevirtual 84, 3) := by decide +kernel
theorem dX0_takeOffUnwanted_39 : decode cX0_takeOffUnwanted 39 = .ok (.iinc 1 1, 3) := by decide +kernel
theorem dX0_takeOffUnwanted_42 : decode cX0_takeOffUnwanted 42 = .ok (.goto (-40), 3) := by decide +kernel
theorem dX0_takeOffUnwanted_45 : decode cX0_takeOffUnwanted 45 = .ok (.return_, 1) := by decide +kernel
set_option maxRecDepth 20000 in
theorem ggX0_fillStones_X0_firstByRule : GoodIn wsX0_fillStones wsX0_firstByRule := goodIn_r _ [10, 11, 4, 12, 13, 14, 9, 15, 16, 17, 18, 19, 20, 21, 22, 23, 24, 25, 26, 27, 28, 29, 30, 31, 32, 33, 34, 35, 36, 37, 38] (by decide +kernel) (by decide +kernel)
set_option maxRecDepth 20000 in
theorem gX0_fillStones_X0_firstByRule : GoodIn wsX0_fillStones (wsV RX0 88 RX0 yX0_firstByRule wsX0_firstByRule) := goodIn_app (goodIn_of _ (by decide +kernel)) ggX0_fillStones_X0_firstByRule
theorem dX0_fillStones_0 : decode cX0_fillStones 0 = .ok (.iconst 0, 1) := by decide +kernel
theorem dX0_fillStones_1 : decode cX0_fillStones 1 = .ok (.istore_n 1, 1) := by decide +kernel
theorem dX0_fillStones_2 : decode cX0_fillStones 2 = .ok (.iload_n 1, 1) := by decide +kernel
theorem dX0_fillStones_3 : decode cX0_fillStones 3 = .ok (.aload_n 0, 1) := by decide +kernel
theorem dX0_fillStones_4 : decode cX0_fillStones 4 = .ok (.getfield 44, 3) := by decide +kernel
theorem dX0_fillStones_7 : decode cX0_fillStones 7 = .ok (.if_icmp .ge 74, 3) := by decide +kernel
theorem dX0_fillStones_10 : decode cX0_fillStones 10 = .ok (.aload_n 0, 1) := by decide +kernel
theorem dX0_fillStones_11 : decode cX0_fillStones 11 = .ok (.getfield 18, 3) := by decide +kernel
theorem dX0_fillStones_14 : decode cX0_fillStones 14 = .ok (.iload_n 1, 1) := by decide +kernel
theorem dX0_fillStones_15 : decode cX0_fillStones 15 = .ok (.iaload, 1) := by decide +kernel
theorem dX0_fillStones_16 : decode cX0_fillStones 16 = .ok (.iconst (-1), 1) := by decide +kernel
theorem dX0_fillStones_17 : decode cX0_fillStones 17 = .ok (.if_icmp .ne 11, 3) := by decide +kernel
theorem dX0_fillStones_20 : decode cX0_fillStones 20 = .ok (.aload_n 0, 1) := by decide +kernel
theorem dX0_fillStones_21 : decode cX0_fillStones 21 = .ok (.iconst 1, 1) := by decide +kernel
theorem dX0_fillStones_22 : decode cX0_fillStones 22 = .ok (.invokevirtual 88, 3) := by decide +kernel
theorem dX0_fillStones_25 : decode cX0_fillStones 25 = .ok (.goto 4, 3) := by decide +kernel
theorem dX0_fillStones_28 : decode cX0_fillStones 28 = .ok (.iconst (-1), 1) := by decide +kernel
theorem dX0_fillStones_29 : decode cX0_fillStones 29 = .ok (.istore_n 2, 1) := by decide +kernel
theorem dX0_fillStones_30 : decode cX0_fillStones 30 = .ok (.aload_n 0, 1) := by decide +kernel
theorem dX0_fillStones_31 : decode cX0_fillStones 31 = .ok (.getfield 21, 3) := by decide +kernel
theorem dX0_fillStones_34 : decode cX0_fillStones 34 = .ok (.iload_n 1, 1) := by decide +kernel
theorem dX0_fillStones_35 : decode cX0_fillStones 35 = .ok (.iload_n 2, 1) := by decide +kernel
theorem dX0_fillStones_36 : decode cX0_fillStones 36 = .ok (.iconst (-1), 1) := by decide +kernel
theorem dX0_fillStones_37 : decode cX0_fillStones 37 = .ok (.if_icmp .eq 7, 3) := by decide +kernel
theorem dX0_fillStones_40 : decode cX0_fillStones 40 = .ok (.iconst 1, 1) := by decide +kernel
theorem dX0_fillStones_41 : decode cX0_fillStones 41 = .ok (.goto 4, 3) := by decide +kernel
theorem dX0_fillStones_44 : decode cX0_fillStones 44 = .ok (.iconst 0, 1) := by decide +kernel
theorem dX0_fillStones_45 : decode cX0_fillStones 45 = .ok (.bastore, 1) := by decide +kernel
theorem dX0_fillStones_46 : decode cX0_fillStones 46 = .ok (.iload_n 2, 1) := by decide +kernel
theorem dX0_fillStones_47 : decode cX0_fillStones 47 = .ok (.iconst (-1), 1) := by decide +kernel
theorem dX0_fillStones_48 : decode cX0_fillStones 48 = .ok (.if_icmp .eq 27, 3) := by decide +kernel
theorem dX0_fillStones_51 : decode cX0_fillStones 51 = .ok (.aload_n 0, 1) := by decide +kernel
theorem dX0_fillStones_52 : decode cX0_fillStones 52 = .ok (.getfield 18, 3) := by decide +kernel
theorem dX0_fillStones_55 : decode cX0_fillStones 55 = .ok (.iload_n 1, 1) := by decide +kernel
theorem dX0_fillStones_56 : decode cX0_fillStones 56 = .ok (.iload_n 2, 1) := by decide +kernel
theorem dX0_fillStones_57 : decode cX0_fillStones 57 = .ok (.iastore, 1) := by decide +kernel
theorem dX0_fillStones_58 : decode cX0_fillStones 58 = .ok (.aload_n 0, 1) := by decide +kernel
theorem dX0_fillStones_59 : decode cX0_fillStones 59 = .ok (.getfield 34, 3) := by decide +kernel
theorem dX0_fillStones_62 : decode cX0_fillStones 62 = .ok (.iload_n 2, 1) := by decide +kernel
theorem dX0_fillStones_63 : decode cX0_fillStones 63 = .ok (.iload_n 1, 1) := by decide +kernel
theorem dX0_fillStones_64 : decode cX0_fillStones 64 = .ok (.iastore, 1) := by decide +kernel
theorem dX0_fillStones_65 : decode cX0_fillStones 65 = .ok (.aload_n 0, 1) := by decide +kernel
theorem dX0_fillStones_66 : decode cX0_fillStones 66 = .ok (.dup, 1) := by decide +kernel
theorem dX0_fillStones_67 : decode cX0_fillStones 67 = .ok (.getfield 53, 3) := by decide +kernel
theorem dX0_fillStones_70 : decode cX0_fillStones 70 = .ok (.iconst 1, 1) := by decide +kernel
theorem dX0_fillStones_71 : decode cX0_fillStones 71 = .ok (.iadd, 1) := by decide +kernel
theorem dX0_fillStones_72 : decode cX0_fillStones 72 = .ok (.putfield 53, 3) := by decide +kernel
theorem dX0_fillStones_75 : decode cX0_fillStones 75 = .ok (.iinc 1 1, 3) := by decide +kernel
theorem dX0_fillStones_78 : decode cX0_fillStones 78 = .ok (.goto (-76), 3) := by decide +kernel
theorem dX0_fillStones_81 : decode cX0_fillStones 81 = .ok (.return_, 1) := by decide +kernel
set_option maxRecDepth 20000 in
theorem ggX0_grind_X0_windOfHour : GoodIn wsX0_grind wsX0_windOfHour := goodIn_r _ [14, 15, 16, 17, 18, 19, 20, 21, 22, 23, 24, 25, 26, 27, 28, 29, 30, 31, 32, 33, 34, 35, 36] (by decide +kernel) (by decide +kernel)
set_option maxRecDepth 20000 in
theorem gX0_grind_X0_windOfHour : GoodIn wsX0_grind (wsV RX0 92 RX0 yX0_windOfHour wsX0_windOfHour) := goodIn_app (goodIn_of _ (by decide +kernel)) ggX0_grind_X0_windOfHour
theorem dX0_grind_0 : decode cX0_grind 0 = .ok (.aload_n 0, 1) := by decide +kernel
theorem dX0_grind_1 : decode cX0_grind 1 = .ok (.invokevirtual 92, 3) := by decide +kernel
theorem dX0_grind_4 : decode cX0_grind 4 = .ok (.istore_n 1, 1) := by decide +kernel
theorem dX0_grind_5 : decode cX0_grind 5 = .ok (.iconst 0, 1) := by decide +kernel
theorem dX0_grind_6 : decode cX0_grind 6 = .ok (.istore_n 2, 1) := by decide +kernel
theorem dX0_grind_7 : decode cX0_grind 7 = .ok (.iconst 0, 1) := by decide +kernel
theorem dX0_grind_8 : decode cX0_grind 8 = .ok (.istore_n 3, 1) := by decide +kernel
theorem dX0_grind_9 : decode cX0_grind 9 = .ok (.iload_n 3, 1) := by decide +kernel
theorem dX0_grind_10 : decode cX0_grind 10 = .ok (.aload_n 0, 1) := by decide +kernel
theorem dX0_grind_11 : decode cX0_grind 11 = .ok (.getfield 44, 3) := by decide +kernel
theorem dX0_grind_14 : decode cX0_grind 14 = .ok (.if_icmp .ge 88, 3) := by decide +kernel
theorem dX0_grind_17 : decode cX0_grind 17 = .ok (.aload_n 0, 1) := by decide +kernel
theorem dX0_grind_18 : decode cX0_grind 18 = .ok (.getfield 18, 3) := by decide +kernel
theorem dX0_grind_21 : decode cX0_grind 21 = .ok (.iload_n 3, 1) := by decide +kernel
theorem dX0_grind_22 : decode cX0_grind 22 = .ok (.iaload, 1) := by decide +kernel
theorem dX0_grind_23 : decode cX0_grind 23 = .ok (.istore 4, 2) := by decide +kernel
theorem dX0_grind_25 : decode cX0_grind 25 = .ok (.iload 4, 2) := by decide +kernel
theorem dX0_grind_27 : decode cX0_grind 27 = .ok (.iconst (-1), 1) := by decide +kernel
theorem dX0_grind_28 : decode cX0_grind 28 = .ok (.if_icmp .eq 68, 3) := by decide +kernel
theorem dX0_grind_31 : decode cX0_grind 31 = .ok (.aload_n 0, 1) := by decide +kernel
theorem dX0_grind_32 : decode cX0_grind 32 = .ok (.getfield 21, 3) := by decide +kernel
theorem dX0_grind_35 : decode cX0_grind 35 = .ok (.iload_n 3, 1) := by decide +kernel
theorem dX0_grind_36 : decode cX0_grind 36 = .ok (.baload, 1) := by decide +kernel
theorem dX0_grind_37 : decode cX0_grind 37 = .ok (.ifCond .eq 14, 3) := by decide +kernel
theorem dX0_grind_40 : decode cX0_grind 40 = .ok (.aload_n 0, 1) := by decide +kernel
theorem dX0_grind_41 : decode cX0_grind 41 = .ok (.getfield 15, 3) := by decide +kernel
theorem dX0_grind_44 : decode cX0_grind 44 = .ok (.iload_n 3, 1) := by decide +kernel
theorem dX0_grind_45 : decode cX0_grind 45 = .ok (.iaload, 1) := by decide +kernel
theorem dX0_grind_46 : decode cX0_grind 46 = .ok (.iconst 1, 1) := by decide +kernel
theorem dX0_grind_47 : decode cX0_grind 47 = .ok (.isub, 1) := by decide +kernel
theorem dX0_grind_48 : decode cX0_grind 48 = .ok (.goto 9, 3) := by decide +kernel
theorem dX0_grind_51 : decode cX0_grind 51 = .ok (.aload_n 0, 1) := by decide +kernel
theorem dX0_grind_52 : decode cX0_grind 52 = .ok (.getfield 15, 3) := by decide +kernel
theorem dX0_grind_55 : decode cX0_grind 55 = .ok (.iload_n 3, 1) := by decide +kernel
theorem dX0_grind_56 : decode cX0_grind 56 = .ok (.iaload, 1) := by decide +kernel
theorem dX0_grind_57 : decode cX0_grind 57 = .ok (.istore 5, 2) := by decide +kernel
theorem dX0_grind_59 : decode cX0_grind 59 = .ok (.iload 5, 2) := by decide +kernel
theorem dX0_grind_61 : decode cX0_grind 61 = .ok (.aload_n 0, 1) := by decide +kernel
theorem dX0_grind_62 : decode cX0_grind 62 = .ok (.getfield 28, 3) := by decide +kernel
theorem dX0_grind_65 : decode cX0_grind 65 = .ok (.iload 4, 2) := by decide +kernel
theorem dX0_grind_67 : decode cX0_grind 67 = .ok (.iaload, 1) := by decide +kernel
theorem dX0_grind_68 : decode cX0_grind 68 = .ok (.iload_n 1, 1) := by decide +kernel
theorem dX0_grind_69 : decode cX0_grind 69 = .ok (.iload_n 2, 1) := by decide +kernel
theorem dX0_grind_70 : decode cX0_grind 70 = .ok (.isub, 1) := by decide +kernel
theorem dX0_grind_71 : decode cX0_grind 71 = .ok (.invokestatic 95, 3) := by decide +kernel
theorem dX0_grind_74 : decode cX0_grind 74 = .ok (.invokestatic 95, 3) := by decide +kernel
theorem dX0_grind_77 : decode cX0_grind 77 = .ok (.istore 6, 2) := by decide +kernel
theorem dX0_grind_79 : decode cX0_grind 79 = .ok (.aload_n 0, 1) := by decide +kernel
theorem dX0_grind_80 : decode cX0_grind 80 = .ok (.getfield 28, 3) := by decide +kernel
theorem dX0_grind_83 : decode cX0_grind 83 = .ok (.iload 4, 2) := by decide +kernel
theorem dX0_grind_85 : decode cX0_grind 85 = .ok (.dup2, 1) := by decide +kernel
theorem dX0_grind_86 : decode cX0_grind 86 = .ok (.iaload, 1) := by decide +kernel
theorem dX0_grind_87 : decode cX0_grind 87 = .ok (.iload 6, 2) := by decide +kernel
theorem dX0_grind_89 : decode cX0_grind 89 = .ok (.isub, 1) := by decide +kernel
theorem dX0_grind_90 : decode cX0_grind 90 = .ok (.iastore, 1) := by decide +kernel
theorem dX0_grind_91 : decode cX0_grind 91 = .ok (.iload_n 2, 1) := by decide +kernel
theorem dX0_grind_92 : decode cX0_grind 92 = .ok (.iload 6, 2) := by decide +kernel
theorem dX0_grind_94 : decode cX0_grind 94 = .ok (.iadd, 1) := by decide +kernel
theorem dX0_grind_95 : decode cX0_grind 95 = .ok (.istore_n 2, 1) := by decide +kernel
theorem dX0_grind_96 : decode cX0_grind 96 = .ok (.iinc 3 1, 3) := by decide +kernel
theorem dX0_grind_99 : decode cX0_grind 99 = .ok (.goto (-90), 3) := by decide +kernel
theorem dX0_grind_102 : decode cX0_grind 102 = .ok (.iload_n 2, 1) := by decide +kernel
theorem dX0_grind_103 : decode cX0_grind 103 = .ok (.ireturn, 1) := by decide +kernel
set_option maxRecDepth 20000 in
theorem ggX0_finishSacks_X0_isGround : GoodIn wsX0_finishSacks wsX0_isGround := goodIn_r _ [10, 11, 17, 18, 19, 20, 21, 22, 23, 24, 25, 26, 27, 28, 29, 30, 31, 32] (by decide +kernel) (by decide +kernel)
set_option maxRecDepth 20000 in
theorem gX0_finishSacks_X0_isGround : GoodIn wsX0_finishSacks (wsV RX0 101 RX0 yX0_isGround wsX0_isGround) := goodIn_app (goodIn_of _ (by decide +kernel)) ggX0_finishSacks_X0_isGround
set_option maxRecDepth 20000 in
theorem ggX0_finishSacks_X0_clearStone : GoodIn wsX0_finishSacks wsX0_clearStone := goodIn_r _ [15, 2, 16, 17, 18, 19, 20, 21, 22, 23, 24, 25, 26, 27, 28, 29, 30, 31, 32] (by decide +kernel) (by decide +kernel)
set_option maxRecDepth 20000 in
theorem gX0_finishSacks_X0_clearStone : GoodIn wsX0_finishSacks (wsV RX0 84 RX0 yX0_clearStone wsX0_clearStone) := goodIn_app (goodIn_of _ (by decide +kernel)) ggX0_finishSacks_X0_clearStone
theorem dX0_finishSacks_0 : decode cX0_finishSacks 0 = .ok (.iconst 0, 1) := by decide +kernel
theorem dX0_finishSacks_1 : decode cX0_finishSacks 1 = .ok (.istore_n 1, 1) := by decide +kernel
theorem dX0_finishSacks_2 : decode cX0_finishSacks 2 = .ok (.iload_n 1, 1) := by decide +kernel
theorem dX0_finishSacks_3 : decode cX0_finishSacks 3 = .ok (.aload_n 0, 1) := by decide +kernel
theorem dX0_finishSacks_4 : decode cX0_finishSacks 4 = .ok (.getfield 44, 3) := by decide +kernel
theorem dX0_finishSacks_7 : decode cX0_finishSacks 7 = .ok (.if_icmp .ge 54, 3) := by decide +kernel
theorem dX0_finishSacks_10 : decode cX0_finishSacks 10 = .ok (.aload_n 0, 1) := by decide +kernel
theorem dX0_finishSacks_11 : decode cX0_finishSacks 11 = .ok (.getfield 18, 3) := by decide +kernel
theorem dX0_finishSacks_14 : decode cX0_finishSacks 14 = .ok (.iload_n 1, 1) := by decide +kernel
theorem dX0_finishSacks_15 : decode cX0_finishSacks 15 = .ok (.iaload, 1) := by decide +kernel
theorem dX0_finishSacks_16 : decode cX0_finishSacks 16 = .ok (.istore_n 2, 1) := by decide +kernel
theorem dX0_finishSacks_17 : decode cX0_finishSacks 17 = .ok (.iload_n 2, 1) := by decide +kernel
theorem dX0_finishSacks_18 : decode cX0_finishSacks 18 = .ok (.iconst (-1), 1) := by decide +kernel
theorem dX0_finishSacks_19 : decode cX0_finishSacks 19 = .ok (.if_icmp .eq 36, 3) := by decide +kernel
theorem dX0_finishSacks_22 : decode cX0_finishSacks 22 = .ok (.aload_n 0, 1) := by decide +kernel
theorem dX0_finishSacks_23 : decode cX0_finishSacks 23 = .ok (.iload_n 2, 1) := by decide +kernel
theorem dX0_finishSacks_24 : decode cX0_finishSacks 24 = .ok (.invokevirtual 101, 3) := by decide +kernel
theorem dX0_finishSacks_27 : decode cX0_finishSacks 27 = .ok (.ifCond .eq 28, 3) := by decide +kernel
theorem dX0_finishSacks_30 : decode cX0_finishSacks 30 = .ok (.aload_n 0, 1) := by decide +kernel
theorem dX0_finishSacks_31 : decode cX0_finishSacks 31 = .ok (.getfield 37, 3) := by decide +kernel
theorem dX0_finishSacks_34 : decode cX0_finishSacks 34 = .ok (.iload_n 2, 1) := by decide +kernel
theorem dX0_finishSacks_35 : decode cX0_finishSacks 35 = .ok (.aload_n 0, 1) := by decide +kernel
theorem dX0_finishSacks_36 : decode cX0_finishSacks 36 = .ok (.getfield 40, 3) := by decide +kernel
theorem dX0_finishSacks_39 : decode cX0_finishSacks 39 = .ok (.iastore, 1) := by decide +kernel
theorem dX0_finishSacks_40 : decode cX0_finishSacks 40 = .ok (.aload_n 0, 1) := by decide +kernel
theorem dX0_finishSacks_41 : decode cX0_finishSacks 41 = .ok (.dup, 1) := by decide +kernel
theorem dX0_finishSacks_42 : decode cX0_finishSacks 42 = .ok (.getfield 50, 3) := by decide +kernel
theorem dX0_finishSacks_45 : decode cX0_finishSacks 45 = .ok (.iconst 1, 1) := by decide +kernel
theorem dX0_finishSacks_46 : decode cX0_finishSacks 46 = .ok (.iadd, 1) := by decide +kernel
theorem dX0_finishSacks_47 : decode cX0_finishSacks 47 = .ok (.putfield 50, 3) := by decide +kernel
theorem dX0_finishSacks_50 : decode cX0_finishSacks 50 = .ok (.aload_n 0, 1) := by decide +kernel
theorem dX0_finishSacks_51 : decode cX0_finishSacks 51 = .ok (.iload_n 1, 1) := by decide +kernel
theorem dX0_finishSacks_52 : decode cX0_finishSacks 52 = .ok (.invokevirtual 84, 3) := by decide +kernel
theorem dX0_finishSacks_55 : decode cX0_finishSacks 55 = .ok (.iinc 1 1, 3) := by decide +kernel
theorem dX0_finishSacks_58 : decode cX0_finishSacks 58 = .ok (.goto (-56), 3) := by decide +kernel
theorem dX0_finishSacks_61 : decode cX0_finishSacks 61 = .ok (.return_, 1) := by decide +kernel
theorem dX0_clearStone_0 : decode cX0_clearStone 0 = .ok (.aload_n 0, 1) := by decide +kernel
theorem dX0_clearStone_1 : decode cX0_clearStone 1 = .ok (.getfield 18, 3) := by decide +kernel
theorem dX0_clearStone_4 : decode cX0_clearStone 4 = .ok (.iload_n 1, 1) := by decide +kernel
theorem dX0_clearStone_5 : decode cX0_clearStone 5 = .ok (.iaload, 1) := by decide +kernel
theorem dX0_clearStone_6 : decode cX0_clearStone 6 = .ok (.istore_n 2, 1) := by decide +kernel
theorem dX0_clearStone_7 : decode cX0_clearStone 7 = .ok (.iload_n 2, 1) := by decide +kernel
theorem dX0_clearStone_8 : decode cX0_clearStone 8 = .ok (.iconst (-1), 1) := by decide +kernel
theorem dX0_clearStone_9 : decode cX0_clearStone 9 = .ok (.if_icmp .eq 17, 3) := by decide +kernel
theorem dX0_clearStone_12 : decode cX0_clearStone 12 = .ok (.aload_n 0, 1) := by decide +kernel
theorem dX0_clearStone_13 : decode cX0_clearStone 13 = .ok (.getfield 34, 3) := by decide +kernel
theorem dX0_clearStone_16 : decode cX0_clearStone 16 = .ok (.iload_n 2, 1) := by decide +kernel
theorem dX0_clearStone_17 : decode cX0_clearStone 17 = .ok (.iconst (-1), 1) := by decide +kernel
theorem dX0_clearStone_18 : decode cX0_clearStone 18 = .ok (.iastore, 1) := by decide +kernel
theorem dX0_clearStone_19 : decode cX0_clearStone 19 = .ok (.aload_n 0, 1) := by decide +kernel
theorem dX0_clearStone_20 : decode cX0_clearStone 20 = .ok (.getfield 18, 3) := by decide +kernel
theorem dX0_clearStone_23 : decode cX0_clearStone 23 = .ok (.iload_n 1, 1) := by decide +kernel
theorem dX0_clearStone_24 : decode cX0_clearStone 24 = .ok (.iconst (-1), 1) := by decide +kernel
theorem dX0_clearStone_25 : decode cX0_clearStone 25 = .ok (.iastore, 1) := by decide +kernel
theorem dX0_clearStone_26 : decode cX0_clearStone 26 = .ok (.return_, 1) := by decide +kernel
set_option maxRecDepth 20000 in
theorem ggX0_windOfHour_J9_floorMod_7cf53 : GoodIn wsX0_windOfHour wsJ9_floorMod_7cf53 := goodIn_r _ [6] (by decide +kernel) (by decide +kernel)
set_option maxRecDepth 20000 in
theorem gX0_windOfHour_J9_floorMod_7cf53 : GoodIn wsX0_windOfHour (va_wsS RX0 105 yJ9_floorMod_7cf53 wsJ9_floorMod_7cf53) := goodIn_app (goodIn_of _ (by decide +kernel)) ggX0_windOfHour_J9_floorMod_7cf53
theorem dX0_windOfHour_0 : decode cX0_windOfHour 0 = .ok (.aload_n 0, 1) := by decide +kernel
theorem dX0_windOfHour_1 : decode cX0_windOfHour 1 = .ok (.getfield 9, 3) := by decide +kernel
theorem dX0_windOfHour_4 : decode cX0_windOfHour 4 = .ok (.aload_n 0, 1) := by decide +kernel
theorem dX0_windOfHour_5 : decode cX0_windOfHour 5 = .ok (.getfield 40, 3) := by decide +kernel
theorem dX0_windOfHour_8 : decode cX0_windOfHour 8 = .ok (.bipush 12, 2) := by decide +kernel
theorem dX0_windOfHour_10 : decode cX0_windOfHour 10 = .ok (.invokestatic 105, 3) := by decide +kernel
theorem dX0_windOfHour_13 : decode cX0_windOfHour 13 = .ok (.iaload, 1) := by decide +kernel
theorem dX0_windOfHour_14 : decode cX0_windOfHour 14 = .ok (.ireturn, 1) := by decide +kernel
theorem dX0_isGround_0 : decode cX0_isGround 0 = .ok (.aload_n 0, 1) := by decide +kernel
theorem dX0_isGround_1 : decode cX0_isGround 1 = .ok (.getfield 28, 3) := by decide +kernel
theorem dX0_isGround_4 : decode cX0_isGround 4 = .ok (.iload_n 1, 1) := by decide +kernel
theorem dX0_isGround_5 : decode cX0_isGround 5 = .ok (.iaload, 1) := by decide +kernel
theorem dX0_isGround_6 : decode cX0_isGround 6 = .ok (.ifCond .ne 7, 3) := by decide +kernel
theorem dX0_isGround_9 : decode cX0_isGround 9 = .ok (.iconst 1, 1) := by decide +kernel
theorem dX0_isGround_10 : decode cX0_isGround 10 = .ok (.goto 4, 3) := by decide +kernel
theorem dX0_isGround_13 : decode cX0_isGround 13 = .ok (.iconst 0, 1) := by decide +kernel
theorem dX0_isGround_14 : decode cX0_isGround 14 = .ok (.ireturn, 1) := by decide +kernel
set_option maxRecDepth 20000 in
theorem ggX0_firstByRule_X0_isGround : GoodIn wsX0_firstByRule wsX0_isGround := goodIn_r _ [7, 8, 15, 16, 17, 18, 19, 20, 21, 22, 23, 24, 25, 26, 27, 28, 29, 30] (by decide +kernel) (by decide +kernel)
set_option maxRecDepth 20000 in
theorem gX0_firstByRule_X0_isGround : GoodIn wsX0_firstByRule (wsV RX0 101 RX0 yX0_isGround wsX0_isGround) := goodIn_app (goodIn_of _ (by decide +kernel)) ggX0_firstByRule_X0_isGround
set_option maxRecDepth 20000 in
theorem ggX0_firstByRule_X0_isAhead : GoodIn wsX0_firstByRule wsX0_isAhead := goodIn_r _ [12, 13, 14, 8, 15, 16, 17, 18, 19, 20, 21, 22, 23, 24, 25, 26, 27, 28, 29, 30] (by decide +kernel) (by decide +kernel)
set_option maxRecDepth 20000 in
theorem gX0_firstByRule_X0_isAhead : GoodIn wsX0_firstByRule (wsV RX0 108 RX0 yX0_isAhead wsX0_isAhead) := goodIn_app (goodIn_of _ (by decide +kernel)) ggX0_firstByRule_X0_isAhead
theorem dX0_firstByRule_0 : decode cX0_firstByRule 0 = .ok (.iconst (-1), 1) := by decide +kernel
theorem dX0_firstByRule_1 : decode cX0_firstByRule 1 = .ok (.istore_n 2, 1) := by decide +kernel
theorem dX0_firstByRule_2 : decode cX0_firstByRule 2 = .ok (.iconst 0, 1) := by decide +kernel
theorem dX0_firstByRule_3 : decode cX0_firstByRule 3 = .ok (.istore_n 3, 1) := by decide +kernel
theorem dX0_firstByRule_4 : decode cX0_firstByRule 4 = .ok (.iload_n 3, 1) := by decide +kernel
theorem dX0_firstByRule_5 : decode cX0_firstByRule 5 = .ok (.aload_n 0, 1) := by decide +kernel
theorem dX0_firstByRule_6 : decode cX0_firstByRule 6 = .ok (.getfield 47, 3) := by decide +kernel
theorem dX0_firstByRule_9 : decode cX0_firstByRule 9 = .ok (.if_icmp .ge 59, 3) := by decide +kernel
theorem dX0_firstByRule_12 : decode cX0_firstByRule 12 = .ok (.aload_n 0, 1) := by decide +kernel
theorem dX0_firstByRule_13 : decode cX0_firstByRule 13 = .ok (.iload_n 3, 1) := by decide +kernel
theorem dX0_firstByRule_14 : decode cX0_firstByRule 14 = .ok (.invokevirtual 101, 3) := by decide +kernel
theorem dX0_firstByRule_17 : decode cX0_firstByRule 17 = .ok (.ifCond .ne 21, 3) := by decide +kernel
theorem dX0_firstByRule_20 : decode cX0_firstByRule 20 = .ok (.iload_n 1, 1) := by decide +kernel
theorem dX0_firstByRule_21 : decode cX0_firstByRule 21 = .ok (.ifCond .eq 13, 3) := by decide +kernel
theorem dX0_firstByRule_24 : decode cX0_firstByRule 24 = .ok (.aload_n 0, 1) := by decide +kernel
theorem dX0_firstByRule_25 : decode cX0_firstByRule 25 = .ok (.getfield 34, 3) := by decide +kernel
theorem dX0_firstByRule_28 : decode cX0_firstByRule 28 = .ok (.iload_n 3, 1) := by decide +kernel
theorem dX0_firstByRule_29 : decode cX0_firstByRule 29 = .ok (.iaload, 1) := by decide +kernel
theorem dX0_firstByRule_30 : decode cX0_firstByRule 30 = .ok (.iconst (-1), 1) := by decide +kernel
theorem dX0_firstByRule_31 : decode cX0_firstByRule 31 = .ok (.if_icmp .ne 7, 3) := by decide +kernel
theorem dX0_firstByRule_34 : decode cX0_firstByRule 34 = .ok (.iconst 1, 1) := by decide +kernel
theorem dX0_firstByRule_35 : decode cX0_firstByRule 35 = .ok (.goto 4, 3) := by decide +kernel
theorem dX0_firstByRule_38 : decode cX0_firstByRule 38 = .ok (.iconst 0, 1) := by decide +kernel
theorem dX0_firstByRule_39 : decode cX0_firstByRule 39 = .ok (.istore 4, 2) := by decide +kernel
theorem dX0_firstByRule_41 : decode cX0_firstByRule 41 = .ok (.iload 4, 2) := by decide +kernel
theorem dX0_firstByRule_43 : decode cX0_firstByRule 43 = .ok (.ifCond .eq 19, 3) := by decide +kernel
theorem dX0_firstByRule_46 : decode cX0_firstByRule 46 = .ok (.iload_n 2, 1) := by decide +kernel
theorem dX0_firstByRule_47 : decode cX0_firstByRule 47 = .ok (.iconst (-1), 1) := by decide +kernel
theorem dX0_firstByRule_48 : decode cX0_firstByRule 48 = .ok (.if_icmp .eq 12, 3) := by decide +kernel
theorem dX0_firstByRule_51 : decode cX0_firstByRule 51 = .ok (.aload_n 0, 1) := by decide +kernel
theorem dX0_firstByRule_52 : decode cX0_firstByRule 52 = .ok (.iload_n 3, 1) := by decide +kernel
theorem dX0_firstByRule_53 : decode cX0_firstByRule 53 = .ok (.iload_n 2, 1) := by decide +kernel
theorem dX0_firstByRule_54 : decode cX0_firstByRule 54 = .ok (.invokevirtual 108, 3) := by decide +kernel
theorem dX0_firstByRule_57 : decode cX0_firstByRule 57 = .ok (.ifCond .eq 5, 3) := by decide +kernel
theorem dX0_firstByRule_60 : decode cX0_firstByRule 60 = .ok (.iload_n 3, 1) := by decide +kernel
theorem dX0_firstByRule_61 : decode cX0_firstByRule 61 = .ok (.istore_n 2, 1) := by decide +kernel
theorem dX0_firstByRule_62 : decode cX0_firstByRule 62 = .ok (.iinc 3 1, 3) := by decide +kernel
theorem dX0_firstByRule_65 : decode cX0_firstByRule 65 = .ok (.goto (-61), 3) := by decide +kernel
theorem dX0_firstByRule_68 : decode cX0_firstByRule 68 = .ok (.iload_n 2, 1) := by decide +kernel
theorem dX0_firstByRule_69 : decode cX0_firstByRule 69 = .ok (.ireturn, 1) := by decide +kernel
set_option maxRecDepth 20000 in
theorem ggX0_countAhead_X0_isGround : GoodIn wsX0_countAhead wsX0_isGround := goodIn_r _ [6, 7, 14, 15, 16, 17, 18, 19, 20, 21, 22, 23, 24, 25, 26, 27, 28, 29] (by decide +kernel) (by decide +kernel)
set_option maxRecDepth 20000 in
theorem gX0_countAhead_X0_isGround : GoodIn wsX0_countAhead (wsV RX0 101 RX0 yX0_isGround wsX0_isGround) := goodIn_app (goodIn_of _ (by decide +kernel)) ggX0_countAhead_X0_isGround
set_option maxRecDepth 20000 in
theorem ggX0_countAhead_X0_isAhead : GoodIn wsX0_countAhead wsX0_isAhead := goodIn_r _ [11, 12, 13, 7, 14, 15, 16, 17, 18, 19, 20, 21, 22, 23, 24, 25, 26, 27, 28, 29] (by decide +kernel) (by decide +kernel)
set_option maxRecDepth 20000 in
theorem gX0_countAhead_X0_isAhead : GoodIn wsX0_countAhead (wsV RX0 108 RX0 yX0_isAhead wsX0_isAhead) := goodIn_app (goodIn_of _ (by decide +kernel)) ggX0_countAhead_X0_isAhead
theorem dX0_countAhead_0 : decode cX0_countAhead 0 = .ok (.iconst 0, 1) := by decide +kernel
theorem dX0_countAhead_1 : decode cX0_countAhead 1 = .ok (.istore_n 2, 1) := by decide +kernel
theorem dX0_countAhead_2 : decode cX0_countAhead 2 = .ok (.iconst 0, 1) := by decide +kernel
theorem dX0_countAhead_3 : decode cX0_countAhead 3 = .ok (.istore_n 3, 1) := by decide +kernel
theorem dX0_countAhead_4 : decode cX0_countAhead 4 = .ok (.iload_n 3, 1) := by decide +kernel
theorem dX0_countAhead_5 : decode cX0_countAhead 5 = .ok (.aload_n 0, 1) := by decide +kernel
theorem dX0_countAhead_6 : decode cX0_countAhead 6 = .ok (.getfield 47, 3) := by decide +kernel
theorem dX0_countAhead_9 : decode cX0_countAhead 9 = .ok (.if_icmp .ge 29, 3) := by decide +kernel
theorem dX0_countAhead_12 : decode cX0_countAhead 12 = .ok (.aload_n 0, 1) := by decide +kernel
theorem dX0_countAhead_13 : decode cX0_countAhead 13 = .ok (.iload_n 3, 1) := by decide +kernel
theorem dX0_countAhead_14 : decode cX0_countAhead 14 = .ok (.invokevirtual 101, 3) := by decide +kernel
theorem dX0_countAhead_17 : decode cX0_countAhead 17 = .ok (.ifCond .ne 15, 3) := by decide +kernel
theorem dX0_countAhead_20 : decode cX0_countAhead 20 = .ok (.aload_n 0, 1) := by decide +kernel
theorem dX0_countAhead_21 : decode cX0_countAhead 21 = .ok (.iload_n 3, 1) := by decide +kernel
theorem dX0_countAhead_22 : decode cX0_countAhead 22 = .ok (.iload_n 1, 1) := by decide +kernel
theorem dX0_countAhead_23 : decode cX0_countAhead 23 = .ok (.invokevirtual 108, 3) := by decide +kernel
theorem dX0_countAhead_26 : decode cX0_countAhead 26 = .ok (.ifCond .eq 6, 3) := by decide +kernel
theorem dX0_countAhead_29 : decode cX0_countAhead 29 = .ok (.iinc 2 1, 3) := by decide +kernel
theorem dX0_countAhead_32 : decode cX0_countAhead 32 = .ok (.iinc 3 1, 3) := by decide +kernel
theorem dX0_countAhead_35 : decode cX0_countAhead 35 = .ok (.goto (-31), 3) := by decide +kernel
theorem dX0_countAhead_38 : decode cX0_countAhead 38 = .ok (.iload_n 2, 1) := by decide +kernel
theorem dX0_countAhead_39 : decode cX0_countAhead 39 = .ok (.ireturn, 1) := by decide +kernel
theorem dX0_isAhead_0 : decode cX0_isAhead 0 = .ok (.iconst 0, 1) := by decide +kernel
theorem dX0_isAhead_1 : decode cX0_isAhead 1 = .ok (.istore_n 3, 1) := by decide +kernel
theorem dX0_isAhead_2 : decode cX0_isAhead 2 = .ok (.aload_n 0, 1) := by decide +kernel
theorem dX0_isAhead_3 : decode cX0_isAhead 3 = .ok (.getfield 56, 3) := by decide +kernel
theorem dX0_isAhead_6 : decode cX0_isAhead 6 = .ok (.iconst 1, 1) := by decide +kernel
theorem dX0_isAhead_7 : decode cX0_isAhead 7 = .ok (.if_icmp .ne 20, 3) := by decide +kernel
theorem dX0_isAhead_10 : decode cX0_isAhead 10 = .ok (.aload_n 0, 1) := by decide +kernel
theorem dX0_isAhead_11 : decode cX0_isAhead 11 = .ok (.getfield 31, 3) := by decide +kernel
theorem dX0_isAhead_14 : decode cX0_isAhead 14 = .ok (.iload_n 1, 1) := by decide +kernel
theorem dX0_isAhead_15 : decode cX0_isAhead 15 = .ok (.iaload, 1) := by decide +kernel
theorem dX0_isAhead_16 : decode cX0_isAhead 16 = .ok (.aload_n 0, 1) := by decide +kernel
theorem dX0_isAhead_17 : decode cX0_isAhead 17 = .ok (.getfield 31, 3) := by decide +kernel
theorem dX0_isAhead_20 : decode cX0_isAhead 20 = .ok (.iload_n 2, 1) := by decide +kernel
theorem dX0_isAhead_21 : decode cX0_isAhead 21 = .ok (.iaload, 1) := by decide +kernel
theorem dX0_isAhead_22 : decode cX0_isAhead 22 = .ok (.isub, 1) := by decide +kernel
theorem dX0_isAhead_23 : decode cX0_isAhead 23 = .ok (.istore_n 3, 1) := by decide +kernel
theorem dX0_isAhead_24 : decode cX0_isAhead 24 = .ok (.goto 25, 3) := by decide +kernel
theorem dX0_isAhead_27 : decode cX0_isAhead 27 = .ok (.aload_n 0, 1) := by decide +kernel
theorem dX0_isAhead_28 : decode cX0_isAhead 28 = .ok (.getfield 56, 3) := by decide +kernel
theorem dX0_isAhead_31 : decode cX0_isAhead 31 = .ok (.iconst 2, 1) := by decide +kernel
theorem dX0_isAhead_32 : decode cX0_isAhead 32 = .ok (.if_icmp .ne 17, 3) := by decide +kernel
theorem dX0_isAhead_35 : decode cX0_isAhead 35 = .ok (.aload_n 0, 1) := by decide +kernel
theorem dX0_isAhead_36 : decode cX0_isAhead 36 = .ok (.getfield 28, 3) := by decide +kernel
theorem dX0_isAhead_39 : decode cX0_isAhead 39 = .ok (.iload_n 1, 1) := by decide +kernel
theorem dX0_isAhead_40 : decode cX0_isAhead 40 = .ok (.iaload, 1) := by decide +kernel
theorem dX0_isAhead_41 : decode cX0_isAhead 41 = .ok (.aload_n 0, 1) := by decide +kernel
theorem dX0_isAhead_42 : decode cX0_isAhead 42 = .ok (.getfield 28, 3) := by decide +kernel
theorem dX0_isAhead_45 : decode cX0_isAhead 45 = .ok (.iload_n 2, 1) := by decide +kernel
theorem dX0_isAhead_46 : decode cX0_isAhead 46 = .ok (.iaload, 1) := by decide +kernel
theorem dX0_isAhead_47 : decode cX0_isAhead 47 = .ok (.isub, 1) := by decide +kernel
theorem dX0_isAhead_48 : decode cX0_isAhead 48 = .ok (.istore_n 3, 1) := by decide +kernel
theorem dX0_isAhead_49 : decode cX0_isAhead 49 = .ok (.iload_n 3, 1) := by decide +kernel
theorem dX0_isAhead_50 : decode cX0_isAhead 50 = .ok (.ifCond .lt 12, 3) := by decide +kernel
theorem dX0_isAhead_53 : decode cX0_isAhead 53 = .ok (.iload_n 3, 1) := by decide +kernel
theorem dX0_isAhead_54 : decode cX0_isAhead 54 = .ok (.ifCond .ne 12, 3) := by decide +kernel
theorem dX0_isAhead_57 : decode cX0_isAhead 57 = .ok (.iload_n 1, 1) := by decide +kernel
theorem dX0_isAhead_58 : decode cX0_isAhead 58 = .ok (.iload_n 2, 1) := by decide +kernel
theorem dX0_isAhead_59 : decode cX0_isAhead 59 = .ok (.if_icmp .ge 7, 3) := by decide +kernel
theorem dX0_isAhead_62 : decode cX0_isAhead 62 = .ok (.iconst 1, 1) := by decide +kernel
theorem dX0_isAhead_63 : decode cX0_isAhead 63 = .ok (.goto 4, 3) := by decide +kernel
theorem dX0_isAhead_66 : decode cX0_isAhead 66 = .ok (.iconst 0, 1) := by decide +kernel
theorem dX0_isAhead_67 : decode cX0_isAhead 67 = .ok (.ireturn, 1) := by decide +kernel
set_option maxRecDepth 20000 in
theorem ggX0_hoursLate_X0_isGround : GoodIn wsX0_hoursLate wsX0_isGround := goodIn_r _ [12, 13, 14, 15, 16, 17, 18, 19, 20, 21, 22, 23, 24, 25, 26, 27, 28, 29] (by decide +kernel) (by decide +kernel)
set_option maxRecDepth 20000 in
theorem gX0_hoursLate_X0_isGround : GoodIn wsX0_hoursLate (wsV RX0 101 RX0 yX0_isGround wsX0_isGround) := goodIn_app (goodIn_of _ (by decide +kernel)) ggX0_hoursLate_X0_isGround
theorem dX0_hoursLate_0 : decode cX0_hoursLate 0 = .ok (.iconst 0, 1) := by decide +kernel
theorem dX0_hoursLate_1 : decode cX0_hoursLate 1 = .ok (.istore_n 1, 1) := by decide +kernel
theorem dX0_hoursLate_2 : decode cX0_hoursLate 2 = .ok (.iconst 0, 1) := by decide +kernel
theorem dX0_hoursLate_3 : decode cX0_hoursLate 3 = .ok (.istore_n 2, 1) := by decide +kernel
theorem dX0_hoursLate_4 : decode cX0_hoursLate 4 = .ok (.iload_n 2, 1) := by decide +kernel
theorem dX0_hoursLate_5 : decode cX0_hoursLate 5 = .ok (.aload_n 0, 1) := by decide +kernel
theorem dX0_hoursLate_6 : decode cX0_hoursLate 6 = .ok (.getfield 47, 3) := by decide +kernel
theorem dX0_hoursLate_9 : decode cX0_hoursLate 9 = .ok (.if_icmp .ge 37, 3) := by decide +kernel
theorem dX0_hoursLate_12 : decode cX0_hoursLate 12 = .ok (.aload_n 0, 1) := by decide +kernel
theorem dX0_hoursLate_13 : decode cX0_hoursLate 13 = .ok (.iload_n 2, 1) := by decide +kernel
theorem dX0_hoursLate_14 : decode cX0_hoursLate 14 = .ok (.invokevirtual 101, 3) := by decide +kernel
theorem dX0_hoursLate_17 : decode cX0_hoursLate 17 = .ok (.ifCond .eq 23, 3) := by decide +kernel
theorem dX0_hoursLate_20 : decode cX0_hoursLate 20 = .ok (.iload_n 1, 1) := by decide +kernel
theorem dX0_hoursLate_21 : decode cX0_hoursLate 21 = .ok (.iconst 0, 1) := by decide +kernel
theorem dX0_hoursLate_22 : decode cX0_hoursLate 22 = .ok (.aload_n 0, 1) := by decide +kernel
theorem dX0_hoursLate_23 : decode cX0_hoursLate 23 = .ok (.getfield 37, 3) := by decide +kernel
theorem dX0_hoursLate_26 : decode cX0_hoursLate 26 = .ok (.iload_n 2, 1) := by decide +kernel
theorem dX0_hoursLate_27 : decode cX0_hoursLate 27 = .ok (.iaload, 1) := by decide +kernel
theorem dX0_hoursLate_28 : decode cX0_hoursLate 28 = .ok (.aload_n 0, 1) := by decide +kernel
theorem dX0_hoursLate_29 : decode cX0_hoursLate 29 = .ok (.getfield 31, 3) := by decide +kernel
theorem dX0_hoursLate_32 : decode cX0_hoursLate 32 = .ok (.iload_n 2, 1) := by decide +kernel
theorem dX0_hoursLate_33 : decode cX0_hoursLate 33 = .ok (.iaload, 1) := by decide +kernel
theorem dX0_hoursLate_34 : decode cX0_hoursLate 34 = .ok (.isub, 1) := by decide +kernel
theorem dX0_hoursLate_35 : decode cX0_hoursLate 35 = .ok (.invokestatic 112, 3) := by decide +kernel
theorem dX0_hoursLate_38 : decode cX0_hoursLate 38 = .ok (.iadd, 1) := by decide +kernel
theorem dX0_hoursLate_39 : decode cX0_hoursLate 39 = .ok (.istore_n 1, 1) := by decide +kernel
theorem dX0_hoursLate_40 : decode cX0_hoursLate 40 = .ok (.iinc 2 1, 3) := by decide +kernel
theorem dX0_hoursLate_43 : decode cX0_hoursLate 43 = .ok (.goto (-39), 3) := by decide +kernel
theorem dX0_hoursLate_46 : decode cX0_hoursLate 46 = .ok (.iload_n 1, 1) := by decide +kernel
theorem dX0_hoursLate_47 : decode cX0_hoursLate 47 = .ok (.ireturn, 1) := by decide +kernel
end
section
set_option maxRecDepth 20000 in
theorem ggX1_init_X0_init : GoodIn wsX1_init wsX0_init := goodIn_r _ [11, 12, 2, 3, 13, 14, 15, 16, 17, 18, 19, 20, 21, 22, 23, 24, 25, 26, 27, 28, 29, 30, 31, 32, 33, 34, 35, 36, 37, 38, 39, 40, 41, 42, 43, 44, 45, 46] (by decide +kernel) (by decide +kernel)
set_option maxRecDepth 20000 in
theorem gX1_init_X0_init : GoodIn wsX1_init (wsX0_init) := ggX1_init_X0_init
theorem dX1_init_0 : decode cX1_init 0 = .ok (.aload_n 0, 1) := by decide +kernel
theorem dX1_init_1 : decode cX1_init 1 = .ok (.invokespecial 1, 3) := by decide +kernel
theorem dX1_init_4 : decode cX1_init 4 = .ok (.aload_n 0, 1) := by decide +kernel
theorem dX1_init_5 : decode cX1_init 5 = .ok (.new 7, 3) := by decide +kernel
theorem dX1_init_8 : decode cX1_init 8 = .ok (.dup, 1) := by decide +kernel
theorem dX1_init_9 : decode cX1_init 9 = .ok (.invokespecial 9, 3) := by decide +kernel
theorem dX1_init_12 : decode cX1_init 12 = .ok (.putfield 10, 3) := by decide +kernel
theorem dX1_init_15 : decode cX1_init 15 = .ok (.aload_n 0, 1) := by decide +kernel
theorem dX1_init_16 : decode cX1_init 16 = .ok (.new 7, 3) := by decide +kernel
theorem dX1_init_19 : decode cX1_init 19 = .ok (.dup, 1) := by decide +kernel
theorem dX1_init_20 : decode cX1_init 20 = .ok (.invokespecial 9, 3) := by decide +kernel
theorem dX1_init_23 : decode cX1_init 23 = .ok (.putfield 16, 3) := by decide +kernel
theorem dX1_init_26 : decode cX1_init 26 = .ok (.return_, 1) := by decide +kernel
set_option maxRecDepth 20000 in
theorem ggX1_addStone_X0_placeStone : GoodIn wsX1_addStone wsX0_placeStone := goodIn_r _ [10, 11, 12, 13, 16, 17, 18, 19, 20, 21, 22, 23, 24, 25, 26, 27, 28, 29, 30, 31] (by decide +kernel) (by decide +kernel)
set_option maxRecDepth 20000 in
theorem gX1_addStone_X0_placeStone : GoodIn wsX1_addStone (wsV RX1 35 RX0 yX0_placeStone wsX0_placeStone) := goodIn_app (goodIn_of _ (by decide +kernel)) ggX1_addStone_X0_placeStone
theorem dX1_addStone_0 : decode cX1_addStone 0 = .ok (.iload_n 1, 1) := by decide +kernel
theorem dX1_addStone_1 : decode cX1_addStone 1 = .ok (.iconst 1, 1) := by decide +kernel
theorem dX1_addStone_2 : decode cX1_addStone 2 = .ok (.if_icmp .lt 9, 3) := by decide +kernel
theorem dX1_addStone_5 : decode cX1_addStone 5 = .ok (.iload_n 1, 1) := by decide +kernel
theorem dX1_addStone_6 : decode cX1_addStone 6 = .ok (.bipush 9, 2) := by decide +kernel
theorem dX1_addStone_8 : decode cX1_addStone 8 = .ok (.if_icmp .le 13, 3) := by decide +kernel
theorem dX1_addStone_11 : decode cX1_addStone 11 = .ok (.new 19, 3) := by decide +kernel
theorem dX1_addStone_14 : decode cX1_addStone 14 = .ok (.dup, 1) := by decide +kernel
theorem dX1_addStone_15 : decode cX1_addStone 15 = .ok (.ldc 21, 2) := by decide +kernel
theorem dX1_addStone_17 : decode cX1_addStone 17 = .ok (.invokespecial 23, 3) := by decide +kernel
theorem dX1_addStone_20 : decode cX1_addStone 20 = .ok (.athrow, 1) := by decide +kernel
theorem dX1_addStone_21 : decode cX1_addStone 21 = .ok (.aload_n 0, 1) := by decide +kernel
theorem dX1_addStone_22 : decode cX1_addStone 22 = .ok (.getfield 10, 3) := by decide +kernel
theorem dX1_addStone_25 : decode cX1_addStone 25 = .ok (.getfield 26, 3) := by decide +kernel
theorem dX1_addStone_28 : decode cX1_addStone 28 = .ok (.iconst 4, 1) := by decide +kernel
theorem dX1_addStone_29 : decode cX1_addStone 29 = .ok (.if_icmp .lt 13, 3) := by decide +kernel
theorem dX1_addStone_32 : decode cX1_addStone 32 = .ok (.new 30, 3) := by decide +kernel
theorem dX1_addStone_35 : decode cX1_addStone 35 = .ok (.dup, 1) := by decide +kernel
theorem dX1_addStone_36 : decode cX1_addStone 36 = .ok (.ldc 32, 2) := by decide +kernel
theorem dX1_addStone_38 : decode cX1_addStone 38 = .ok (.invokespecial 34, 3) := by decide +kernel
theorem dX1_addStone_41 : decode cX1_addStone 41 = .ok (.athrow, 1) := by decide +kernel
theorem dX1_addStone_42 : decode cX1_addStone 42 = .ok (.aload_n 0, 1) := by decide +kernel
theorem dX1_addStone_43 : decode cX1_addStone 43 = .ok (.getfield 10, 3) := by decide +kernel
theorem dX1_addStone_46 : decode cX1_addStone 46 = .ok (.iload_n 1, 1) := by decide +kernel
theorem dX1_addStone_47 : decode cX1_addStone 47 = .ok (.invokevirtual 35, 3) := by decide +kernel
theorem dX1_addStone_50 : decode cX1_addStone 50 = .ok (.ireturn, 1) := by decide +kernel
theorem dX1_setWind_0 : decode cX1_setWind 0 = .ok (.iload_n 1, 1) := by decide +kernel
theorem dX1_setWind_1 : decode cX1_setWind 1 = .ok (.ifCond .lt 9, 3) := by decide +kernel
theorem dX1_setWind_4 : decode cX1_setWind 4 = .ok (.iload_n 1, 1) := by decide +kernel
theorem dX1_setWind_5 : decode cX1_setWind 5 = .ok (.bipush 12, 2) := by decide +kernel
theorem dX1_setWind_7 : decode cX1_setWind 7 = .ok (.if_icmp .lt 13, 3) := by decide +kernel
theorem dX1_setWind_10 : decode cX1_setWind 10 = .ok (.new 39, 3) := by decide +kernel
theorem dX1_setWind_13 : decode cX1_setWind 13 = .ok (.dup, 1) := by decide +kernel
theorem dX1_setWind_14 : decode cX1_setWind 14 = .ok (.ldc 41, 2) := by decide +kernel
theorem dX1_setWind_16 : decode cX1_setWind 16 = .ok (.invokespecial 43, 3) := by decide +kernel
theorem dX1_setWind_19 : decode cX1_setWind 19 = .ok (.athrow, 1) := by decide +kernel
theorem dX1_setWind_20 : decode cX1_setWind 20 = .ok (.iload_n 2, 1) := by decide +kernel
theorem dX1_setWind_21 : decode cX1_setWind 21 = .ok (.ifCond .lt 9, 3) := by decide +kernel
theorem dX1_setWind_24 : decode cX1_setWind 24 = .ok (.iload_n 2, 1) := by decide +kernel
theorem dX1_setWind_25 : decode cX1_setWind 25 = .ok (.bipush 20, 2) := by decide +kernel
theorem dX1_setWind_27 : decode cX1_setWind 27 = .ok (.if_icmp .le 13, 3) := by decide +kernel
theorem dX1_setWind_30 : decode cX1_setWind 30 = .ok (.new 19, 3) := by decide +kernel
theorem dX1_setWind_33 : decode cX1_setWind 33 = .ok (.dup, 1) := by decide +kernel
theorem dX1_setWind_34 : decode cX1_setWind 34 = .ok (.ldc 44, 2) := by decide +kernel
theorem dX1_setWind_36 : decode cX1_setWind 36 = .ok (.invokespecial 23, 3) := by decide +kernel
theorem dX1_setWind_39 : decode cX1_setWind 39 = .ok (.athrow, 1) := by decide +kernel
theorem dX1_setWind_40 : decode cX1_setWind 40 = .ok (.aload_n 0, 1) := by decide +kernel
theorem dX1_setWind_41 : decode cX1_setWind 41 = .ok (.getfield 10, 3) := by decide +kernel
theorem dX1_setWind_44 : decode cX1_setWind 44 = .ok (.getfield 46, 3) := by decide +kernel
theorem dX1_setWind_47 : decode cX1_setWind 47 = .ok (.iload_n 1, 1) := by decide +kernel
theorem dX1_setWind_48 : decode cX1_setWind 48 = .ok (.iaload, 1) := by decide +kernel
theorem dX1_setWind_49 : decode cX1_setWind 49 = .ok (.istore_n 3, 1) := by decide +kernel
theorem dX1_setWind_50 : decode cX1_setWind 50 = .ok (.aload_n 0, 1) := by decide +kernel
theorem dX1_setWind_51 : decode cX1_setWind 51 = .ok (.getfield 10, 3) := by decide +kernel
theorem dX1_setWind_54 : decode cX1_setWind 54 = .ok (.getfield 46, 3) := by decide +kernel
theorem dX1_setWind_57 : decode cX1_setWind 57 = .ok (.iload_n 1, 1) := by decide +kernel
theorem dX1_setWind_58 : decode cX1_setWind 58 = .ok (.iload_n 2, 1) := by decide +kernel
theorem dX1_setWind_59 : decode cX1_setWind 59 = .ok (.iastore, 1) := by decide +kernel
theorem dX1_setWind_60 : decode cX1_setWind 60 = .ok (.iload_n 3, 1) := by decide +kernel
theorem dX1_setWind_61 : decode cX1_setWind 61 = .ok (.ireturn, 1) := by decide +kernel
set_option maxRecDepth 20000 in
theorem ggX1_setRule_X1_requireRule : GoodIn wsX1_setRule wsX1_requireRule := goodIn_ca (goodIn_r _ [5, 6, 7] (by decide +kernel) (by decide +kernel)) (goodIn_sub (fun _ h => List.mem_cons_of_mem _ (List.mem_append_right _ h)) (by decide +kernel))
set_option maxRecDepth 20000 in
theorem gX1_setRule_X1_requireRule : GoodIn wsX1_setRule (va_wsS RX1 50 yX1_requireRule wsX1_requireRule) := goodIn_app (goodIn_of _ (by decide +kernel)) ggX1_setRule_X1_requireRule
theorem dX1_setRule_0 : decode cX1_setRule 0 = .ok (.iload_n 1, 1) := by decide +kernel
theorem dX1_setRule_1 : decode cX1_setRule 1 = .ok (.invokestatic 50, 3) := by decide +kernel
theorem dX1_setRule_4 : decode cX1_setRule 4 = .ok (.aload_n 0, 1) := by decide +kernel
theorem dX1_setRule_5 : decode cX1_setRule 5 = .ok (.getfield 10, 3) := by decide +kernel
theorem dX1_setRule_8 : decode cX1_setRule 8 = .ok (.getfield 54, 3) := by decide +kernel
theorem dX1_setRule_11 : decode cX1_setRule 11 = .ok (.istore_n 2, 1) := by decide +kernel
theorem dX1_setRule_12 : decode cX1_setRule 12 = .ok (.aload_n 0, 1) := by decide +kernel
theorem dX1_setRule_13 : decode cX1_setRule 13 = .ok (.getfield 10, 3) := by decide +kernel
theorem dX1_setRule_16 : decode cX1_setRule 16 = .ok (.iload_n 1, 1) := by decide +kernel
theorem dX1_setRule_17 : decode cX1_setRule 17 = .ok (.putfield 54, 3) := by decide +kernel
theorem dX1_setRule_20 : decode cX1_setRule 20 = .ok (.iload_n 2, 1) := by decide +kernel
theorem dX1_setRule_21 : decode cX1_setRule 21 = .ok (.ireturn, 1) := by decide +kernel
theorem dX1_setTakingOff_0 : decode cX1_setTakingOff 0 = .ok (.aload_n 0, 1) := by decide +kernel
theorem dX1_setTakingOff_1 : decode cX1_setTakingOff 1 = .ok (.getfield 10, 3) := by decide +kernel
theorem dX1_setTakingOff_4 : decode cX1_setTakingOff 4 = .ok (.getfield 57, 3) := by decide +kernel
theorem dX1_setTakingOff_7 : decode cX1_setTakingOff 7 = .ok (.istore_n 2, 1) := by decide +kernel
theorem dX1_setTakingOff_8 : decode cX1_setTakingOff 8 = .ok (.aload_n 0, 1) := by decide +kernel
theorem dX1_setTakingOff_9 : decode cX1_setTakingOff 9 = .ok (.getfield 10, 3) := by decide +kernel
theorem dX1_setTakingOff_12 : decode cX1_setTakingOff 12 = .ok (.iload_n 1, 1) := by decide +kernel
theorem dX1_setTakingOff_13 : decode cX1_setTakingOff 13 = .ok (.putfield 57, 3) := by decide +kernel
theorem dX1_setTakingOff_16 : decode cX1_setTakingOff 16 = .ok (.iload_n 2, 1) := by decide +kernel
theorem dX1_setTakingOff_17 : decode cX1_setTakingOff 17 = .ok (.ireturn, 1) := by decide +kernel
set_option maxRecDepth 20000 in
theorem ggX1_bring_X1_requireBaker : GoodIn wsX1_bring wsX1_requireBaker := goodIn_ca (goodIn_r _ [7, 8, 9] (by decide +kernel) (by decide +kernel)) (goodIn_sub (fun _ h => List.mem_cons_of_mem _ (List.mem_append_right _ h)) (by decide +kernel))
set_option maxRecDepth 20000 in
theorem gX1_bring_X1_requireBaker : GoodIn wsX1_bring (va_wsS RX1 61 yX1_requireBaker wsX1_requireBaker) := goodIn_app (goodIn_of _ (by decide +kernel)) ggX1_bring_X1_requireBaker
set_option maxRecDepth 20000 in
theorem ggX1_bring_X1_requireGrain : GoodIn wsX1_bring wsX1_requireGrain := goodIn_ca (goodIn_r _ [12, 8, 9] (by decide +kernel) (by decide +kernel)) (goodIn_sub (fun _ h => List.mem_cons_of_mem _ (List.mem_append_right _ h)) (by decide +kernel))
set_option maxRecDepth 20000 in
theorem gX1_bring_X1_requireGrain : GoodIn wsX1_bring (va_wsS RX1 64 yX1_requireGrain wsX1_requireGrain) := goodIn_app (goodIn_of _ (by decide +kernel)) ggX1_bring_X1_requireGrain
set_option maxRecDepth 20000 in
theorem ggX1_bring_X1_requireUntil : GoodIn wsX1_bring wsX1_requireUntil := goodIn_ca (goodIn_r _ [15, 8, 9] (by decide +kernel) (by decide +kernel)) (goodIn_sub (fun _ h => List.mem_cons_of_mem _ (List.mem_append_right _ h)) (by decide +kernel))
set_option maxRecDepth 20000 in
theorem gX1_bring_X1_requireUntil : GoodIn wsX1_bring (va_wsS RX1 67 yX1_requireUntil wsX1_requireUntil) := goodIn_app (goodIn_of _ (by decide +kernel)) ggX1_bring_X1_requireUntil
set_option maxRecDepth 20000 in
theorem ggX1_bring_X0_storeSack : GoodIn wsX1_bring wsX0_storeSack := goodIn_r _ [20, 21, 22, 23, 24, 25, 26, 29, 30, 31, 32, 33, 34, 35, 36, 37, 38, 39, 40, 41, 42, 43, 44] (by decide +kernel) (by decide +kernel)
set_option maxRecDepth 20000 in
theorem gX1_bring_X0_storeSack : GoodIn wsX1_bring (wsV RX1 75 RX0 yX0_storeSack wsX0_storeSack) := goodIn_app (goodIn_of _ (by decide +kernel)) ggX1_bring_X0_storeSack
theorem dX1_bring_0 : decode cX1_bring 0 = .ok (.iload_n 1, 1) := by decide +kernel
theorem dX1_bring_1 : decode cX1_bring 1 = .ok (.invokestatic 61, 3) := by decide +kernel
theorem dX1_bring_4 : decode cX1_bring 4 = .ok (.iload_n 2, 1) := by decide +kernel
theorem dX1_bring_5 : decode cX1_bring 5 = .ok (.invokestatic 64, 3) := by decide +kernel
theorem dX1_bring_8 : decode cX1_bring 8 = .ok (.iload_n 3, 1) := by decide +kernel
theorem dX1_bring_9 : decode cX1_bring 9 = .ok (.invokestatic 67, 3) := by decide +kernel
theorem dX1_bring_12 : decode cX1_bring 12 = .ok (.aload_n 0, 1) := by decide +kernel
theorem dX1_bring_13 : decode cX1_bring 13 = .ok (.getfield 10, 3) := by decide +kernel
theorem dX1_bring_16 : decode cX1_bring 16 = .ok (.getfield 70, 3) := by decide +kernel
theorem dX1_bring_19 : decode cX1_bring 19 = .ok (.bipush 16, 2) := by decide +kernel
theorem dX1_bring_21 : decode cX1_bring 21 = .ok (.if_icmp .lt 13, 3) := by decide +kernel
theorem dX1_bring_24 : decode cX1_bring 24 = .ok (.new 30, 3) := by decide +kernel
theorem dX1_bring_27 : decode cX1_bring 27 = .ok (.dup, 1) := by decide +kernel
theorem dX1_bring_28 : decode cX1_bring 28 = .ok (.ldc 73, 2) := by decide +kernel
theorem dX1_bring_30 : decode cX1_bring 30 = .ok (.invokespecial 34, 3) := by decide +kernel
theorem dX1_bring_33 : decode cX1_bring 33 = .ok (.athrow, 1) := by decide +kernel
theorem dX1_bring_34 : decode cX1_bring 34 = .ok (.aload_n 0, 1) := by decide +kernel
theorem dX1_bring_35 : decode cX1_bring 35 = .ok (.getfield 10, 3) := by decide +kernel
theorem dX1_bring_38 : decode cX1_bring 38 = .ok (.iload_n 1, 1) := by decide +kernel
theorem dX1_bring_39 : decode cX1_bring 39 = .ok (.iload_n 2, 1) := by decide +kernel
theorem dX1_bring_40 : decode cX1_bring 40 = .ok (.iload_n 3, 1) := by decide +kernel
theorem dX1_bring_41 : decode cX1_bring 41 = .ok (.invokevirtual 75, 3) := by decide +kernel
theorem dX1_bring_44 : decode cX1_bring 44 = .ok (.ireturn, 1) := by decide +kernel
set_option maxRecDepth 20000 in
theorem ggX1_lift_X1_requireSack : GoodIn wsX1_lift wsX1_requireSack := goodIn_ca (goodIn_r _ [8, 9, 10, 3, 18, 19, 20, 21, 22, 23, 24, 25, 26, 27, 28, 29, 30, 31, 32, 33, 34, 35] (by decide +kernel) (by decide +kernel)) (goodIn_sub (fun _ h => List.mem_cons_of_mem _ (List.mem_append_right _ h)) (by decide +kernel))
set_option maxRecDepth 20000 in
theorem gX1_lift_X1_requireSack : GoodIn wsX1_lift (wsV RX1 79 RX1 yX1_requireSack wsX1_requireSack) := goodIn_app (goodIn_of _ (by decide +kernel)) ggX1_lift_X1_requireSack
set_option maxRecDepth 20000 in
theorem ggX1_lift_X0_clearStone : GoodIn wsX1_lift wsX0_clearStone := goodIn_r _ [15, 16, 17, 20, 21, 22, 23, 24, 25, 26, 27, 28, 29, 30, 31, 32, 33, 34, 35] (by decide +kernel) (by decide +kernel)
set_option maxRecDepth 20000 in
theorem gX1_lift_X0_clearStone : GoodIn wsX1_lift (wsV RX1 87 RX0 yX0_clearStone wsX0_clearStone) := goodIn_app (goodIn_of _ (by decide +kernel)) ggX1_lift_X0_clearStone
theorem dX1_lift_0 : decode cX1_lift 0 = .ok (.aload_n 0, 1) := by decide +kernel
theorem dX1_lift_1 : decode cX1_lift 1 = .ok (.iload_n 1, 1) := by decide +kernel
theorem dX1_lift_2 : decode cX1_lift 2 = .ok (.invokevirtual 79, 3) := by decide +kernel
theorem dX1_lift_5 : decode cX1_lift 5 = .ok (.aload_n 0, 1) := by decide +kernel
theorem dX1_lift_6 : decode cX1_lift 6 = .ok (.getfield 10, 3) := by decide +kernel
theorem dX1_lift_9 : decode cX1_lift 9 = .ok (.getfield 82, 3) := by decide +kernel
theorem dX1_lift_12 : decode cX1_lift 12 = .ok (.iload_n 1, 1) := by decide +kernel
theorem dX1_lift_13 : decode cX1_lift 13 = .ok (.iaload, 1) := by decide +kernel
theorem dX1_lift_14 : decode cX1_lift 14 = .ok (.istore_n 2, 1) := by decide +kernel
theorem dX1_lift_15 : decode cX1_lift 15 = .ok (.iload_n 2, 1) := by decide +kernel
theorem dX1_lift_16 : decode cX1_lift 16 = .ok (.iconst (-1), 1) := by decide +kernel
theorem dX1_lift_17 : decode cX1_lift 17 = .ok (.if_icmp .ne 13, 3) := by decide +kernel
theorem dX1_lift_20 : decode cX1_lift 20 = .ok (.new 30, 3) := by decide +kernel
theorem dX1_lift_23 : decode cX1_lift 23 = .ok (.dup, 1) := by decide +kernel
theorem dX1_lift_24 : decode cX1_lift 24 = .ok (.ldc 85, 2) := by decide +kernel
theorem dX1_lift_26 : decode cX1_lift 26 = .ok (.invokespecial 34, 3) := by decide +kernel
theorem dX1_lift_29 : decode cX1_lift 29 = .ok (.athrow, 1) := by decide +kernel
theorem dX1_lift_30 : decode cX1_lift 30 = .ok (.aload_n 0, 1) := by decide +kernel
theorem dX1_lift_31 : decode cX1_lift 31 = .ok (.getfield 10, 3) := by decide +kernel
theorem dX1_lift_34 : decode cX1_lift 34 = .ok (.iload_n 2, 1) := by decide +kernel
theorem dX1_lift_35 : decode cX1_lift 35 = .ok (.invokevirtual 87, 3) := by decide +kernel
theorem dX1_lift_38 : decode cX1_lift 38 = .ok (.iload_n 2, 1) := by decide +kernel
theorem dX1_lift_39 : decode cX1_lift 39 = .ok (.ireturn, 1) := by decide +kernel
set_option maxRecDepth 20000 in
theorem ggX1_setUntil_X1_requireSack : GoodIn wsX1_setUntil wsX1_requireSack := goodIn_ca (goodIn_r _ [6, 7, 8, 1, 14, 15, 16, 17, 18, 19, 20, 21, 22, 23, 24, 25, 26, 27, 28, 29, 30, 31] (by decide +kernel) (by decide +kernel)) (goodIn_sub (fun _ h => List.mem_cons_of_mem _ (List.mem_append_left _ (List.mem_append_right _ h))) (by decide +kernel))
set_option maxRecDepth 20000 in
theorem gX1_setUntil_X1_requireSack : GoodIn wsX1_setUntil (wsV RX1 79 RX1 yX1_requireSack wsX1_requireSack) := goodIn_app (goodIn_of _ (by decide +kernel)) ggX1_setUntil_X1_requireSack
set_option maxRecDepth 20000 in
theorem ggX1_setUntil_X1_requireUntil : GoodIn wsX1_setUntil wsX1_requireUntil := goodIn_ca (goodIn_r _ [11, 12, 13] (by decide +kernel) (by decide +kernel)) (goodIn_sub (fun _ h => List.mem_cons_of_mem _ (List.mem_append_right _ h)) (by decide +kernel))
set_option maxRecDepth 20000 in
theorem gX1_setUntil_X1_requireUntil : GoodIn wsX1_setUntil (va_wsS RX1 67 yX1_requireUntil wsX1_requireUntil) := goodIn_app (goodIn_of _ (by decide +kernel)) ggX1_setUntil_X1_requireUntil
theorem dX1_setUntil_0 : decode cX1_setUntil 0 = .ok (.aload_n 0, 1) := by decide +kernel
theorem dX1_setUntil_1 : decode cX1_setUntil 1 = .ok (.iload_n 1, 1) := by decide +kernel
theorem dX1_setUntil_2 : decode cX1_setUntil 2 = .ok (.invokevirtual 79, 3) := by decide +kernel
theorem dX1_setUntil_5 : decode cX1_setUntil 5 = .ok (.iload_n 2, 1) := by decide +kernel
theorem dX1_setUntil_6 : decode cX1_setUntil 6 = .ok (.invokestatic 67, 3) := by decide +kernel
theorem dX1_setUntil_9 : decode cX1_setUntil 9 = .ok (.aload_n 0, 1) := by decide +kernel
theorem dX1_setUntil_10 : decode cX1_setUntil 10 = .ok (.getfield 10, 3) := by decide +kernel
theorem dX1_setUntil_13 : decode cX1_setUntil 13 = .ok (.getfield 90, 3) := by decide +kernel
theorem dX1_setUntil_16 : decode cX1_setUntil 16 = .ok (.iload_n 1, 1) := by decide +kernel
theorem dX1_setUntil_17 : decode cX1_setUntil 17 = .ok (.iaload, 1) := by decide +kernel
theorem dX1_setUntil_18 : decode cX1_setUntil 18 = .ok (.istore_n 3, 1) := by decide +kernel
theorem dX1_setUntil_19 : decode cX1_setUntil 19 = .ok (.aload_n 0, 1) := by decide +kernel
theorem dX1_setUntil_20 : decode cX1_setUntil 20 = .ok (.getfield 10, 3) := by decide +kernel
theorem dX1_setUntil_23 : decode cX1_setUntil 23 = .ok (.getfield 90, 3) := by decide +kernel
theorem dX1_setUntil_26 : decode cX1_setUntil 26 = .ok (.iload_n 1, 1) := by decide +kernel
theorem dX1_setUntil_27 : decode cX1_setUntil 27 = .ok (.iload_n 2, 1) := by decide +kernel
theorem dX1_setUntil_28 : decode cX1_setUntil 28 = .ok (.iastore, 1) := by decide +kernel
theorem dX1_setUntil_29 : decode cX1_setUntil 29 = .ok (.iload_n 3, 1) := by decide +kernel
theorem dX1_setUntil_30 : decode cX1_setUntil 30 = .ok (.ireturn, 1) := by decide +kernel
set_option maxRecDepth 20000 in
theorem ggX1_pass_X1_requireHours : GoodIn wsX1_pass wsX1_requireHours := goodIn_ca (goodIn_r _ [5, 6, 7] (by decide +kernel) (by decide +kernel)) (goodIn_sub (fun _ h => List.mem_cons_of_mem _ (List.mem_append_right _ h)) (by decide +kernel))
set_option maxRecDepth 20000 in
theorem gX1_pass_X1_requireHours : GoodIn wsX1_pass (va_wsS RX1 93 yX1_requireHours wsX1_requireHours) := goodIn_app (goodIn_of _ (by decide +kernel)) ggX1_pass_X1_requireHours
set_option maxRecDepth 20000 in
theorem ggX1_pass_X0_run : GoodIn wsX1_pass wsX0_run := goodIn_r _ [12, 13, 14, 15, 16, 17, 18, 19, 11, 20, 21, 22, 23, 24, 25, 26, 27, 28, 29, 30, 31, 32, 33, 34, 35, 36, 37, 38, 39, 40, 41, 42, 43, 44, 45, 46, 47, 48, 49, 50, 51, 52, 53, 54, 55, 56, 57, 58, 59, 60, 61, 62, 63, 64, 65, 66, 67, 68, 69, 70, 71, 72, 73, 74, 75, 78, 79, 80, 81, 82, 83, 84, 85, 86, 87, 88, 89, 90, 91, 92, 93] (by decide +kernel) (by decide +kernel)
set_option maxRecDepth 20000 in
theorem gX1_pass_X0_run : GoodIn wsX1_pass (wsV RX1 96 RX0 yX0_run wsX0_run) := goodIn_app (goodIn_of _ (by decide +kernel)) ggX1_pass_X0_run
theorem dX1_pass_0 : decode cX1_pass 0 = .ok (.iload_n 1, 1) := by decide +kernel
theorem dX1_pass_1 : decode cX1_pass 1 = .ok (.invokestatic 93, 3) := by decide +kernel
theorem dX1_pass_4 : decode cX1_pass 4 = .ok (.aload_n 0, 1) := by decide +kernel
theorem dX1_pass_5 : decode cX1_pass 5 = .ok (.getfield 10, 3) := by decide +kernel
theorem dX1_pass_8 : decode cX1_pass 8 = .ok (.iload_n 1, 1) := by decide +kernel
theorem dX1_pass_9 : decode cX1_pass 9 = .ok (.invokevirtual 96, 3) := by decide +kernel
theorem dX1_pass_12 : decode cX1_pass 12 = .ok (.ireturn, 1) := by decide +kernel
theorem dX1_hour_0 : decode cX1_hour 0 = .ok (.aload_n 0, 1) := by decide +kernel
theorem dX1_hour_1 : decode cX1_hour 1 = .ok (.getfield 10, 3) := by decide +kernel
theorem dX1_hour_4 : decode cX1_hour 4 = .ok (.getfield 99, 3) := by decide +kernel
theorem dX1_hour_7 : decode cX1_hour 7 = .ok (.ireturn, 1) := by decide +kernel
theorem dX1_stones_0 : decode cX1_stones 0 = .ok (.aload_n 0, 1) := by decide +kernel
theorem dX1_stones_1 : decode cX1_stones 1 = .ok (.getfield 10, 3) := by decide +kernel
theorem dX1_stones_4 : decode cX1_stones 4 = .ok (.getfield 26, 3) := by decide +kernel
theorem dX1_stones_7 : decode cX1_stones 7 = .ok (.ireturn, 1) := by decide +kernel
theorem dX1_sacks_0 : decode cX1_sacks 0 = .ok (.aload_n 0, 1) := by decide +kernel
theorem dX1_sacks_1 : decode cX1_sacks 1 = .ok (.getfield 10, 3) := by decide +kernel
theorem dX1_sacks_4 : decode cX1_sacks 4 = .ok (.getfield 70, 3) := by decide +kernel
theorem dX1_sacks_7 : decode cX1_sacks 7 = .ok (.ireturn, 1) := by decide +kernel
theorem dX1_rule_0 : decode cX1_rule 0 = .ok (.aload_n 0, 1) := by decide +kernel
theorem dX1_rule_1 : decode cX1_rule 1 = .ok (.getfield 10, 3) := by decide +kernel
theorem dX1_rule_4 : decode cX1_rule 4 = .ok (.getfield 54, 3) := by decide +kernel
theorem dX1_rule_7 : decode cX1_rule 7 = .ok (.ireturn, 1) := by decide +kernel
set_option maxRecDepth 20000 in
theorem ggX1_wind_X0_windOfHour : GoodIn wsX1_wind wsX0_windOfHour := goodIn_r _ [6, 7, 8, 9, 10, 11, 12, 15, 16, 17, 18, 19, 20, 21, 22, 23, 24, 25, 26, 27, 28, 29, 30] (by decide +kernel) (by decide +kernel)
set_option maxRecDepth 20000 in
theorem gX1_wind_X0_windOfHour : GoodIn wsX1_wind (wsV RX1 102 RX0 yX0_windOfHour wsX0_windOfHour) := goodIn_app (goodIn_of _ (by decide +kernel)) ggX1_wind_X0_windOfHour
theorem dX1_wind_0 : decode cX1_wind 0 = .ok (.aload_n 0, 1) := by decide +kernel
theorem dX1_wind_1 : decode cX1_wind 1 = .ok (.getfield 10, 3) := by decide +kernel
theorem dX1_wind_4 : decode cX1_wind 4 = .ok (.invokevirtual 102, 3) := by decide +kernel
theorem dX1_wind_7 : decode cX1_wind 7 = .ok (.ireturn, 1) := by decide +kernel
theorem dX1_sackOn_0 : decode cX1_sackOn 0 = .ok (.iload_n 1, 1) := by decide +kernel
theorem dX1_sackOn_1 : decode cX1_sackOn 1 = .ok (.ifCond .lt 14, 3) := by decide +kernel
theorem dX1_sackOn_4 : decode cX1_sackOn 4 = .ok (.iload_n 1, 1) := by decide +kernel
theorem dX1_sackOn_5 : decode cX1_sackOn 5 = .ok (.aload_n 0, 1) := by decide +kernel
theorem dX1_sackOn_6 : decode cX1_sackOn 6 = .ok (.getfield 10, 3) := by decide +kernel
theorem dX1_sackOn_9 : decode cX1_sackOn 9 = .ok (.getfield 26, 3) := by decide +kernel
theorem dX1_sackOn_12 : decode cX1_sackOn 12 = .ok (.if_icmp .lt 13, 3) := by decide +kernel
theorem dX1_sackOn_15 : decode cX1_sackOn 15 = .ok (.new 39, 3) := by decide +kernel
theorem dX1_sackOn_18 : decode cX1_sackOn 18 = .ok (.dup, 1) := by decide +kernel
theorem dX1_sackOn_19 : decode cX1_sackOn 19 = .ok (.ldc 106, 2) := by decide +kernel
theorem dX1_sackOn_21 : decode cX1_sackOn 21 = .ok (.invokespecial 43, 3) := by decide +kernel
theorem dX1_sackOn_24 : decode cX1_sackOn 24 = .ok (.athrow, 1) := by decide +kernel
theorem dX1_sackOn_25 : decode cX1_sackOn 25 = .ok (.aload_n 0, 1) := by decide +kernel
theorem dX1_sackOn_26 : decode cX1_sackOn 26 = .ok (.getfield 10, 3) := by decide +kernel
theorem dX1_sackOn_29 : decode cX1_sackOn 29 = .ok (.getfield 108, 3) := by decide +kernel
theorem dX1_sackOn_32 : decode cX1_sackOn 32 = .ok (.iload_n 1, 1) := by decide +kernel
theorem dX1_sackOn_33 : decode cX1_sackOn 33 = .ok (.iaload, 1) := by decide +kernel
theorem dX1_sackOn_34 : decode cX1_sackOn 34 = .ok (.ireturn, 1) := by decide +kernel
set_option maxRecDepth 20000 in
theorem ggX1_stoneOf_X1_requireSack : GoodIn wsX1_stoneOf wsX1_requireSack := goodIn_ca (goodIn_r _ [6, 7, 8, 1, 9, 10, 11, 12, 13, 14, 15, 16, 17, 18, 19, 20, 21, 22, 23, 24, 25, 26] (by decide +kernel) (by decide +kernel)) (goodIn_sub (fun _ h => List.mem_cons_of_mem _ (List.mem_append_right _ h)) (by decide +kernel))
set_option maxRecDepth 20000 in
theorem gX1_stoneOf_X1_requireSack : GoodIn wsX1_stoneOf (wsV RX1 79 RX1 yX1_requireSack wsX1_requireSack) := goodIn_app (goodIn_of _ (by decide +kernel)) ggX1_stoneOf_X1_requireSack
theorem dX1_stoneOf_0 : decode cX1_stoneOf 0 = .ok (.aload_n 0, 1) := by decide +kernel
theorem dX1_stoneOf_1 : decode cX1_stoneOf 1 = .ok (.iload_n 1, 1) := by decide +kernel
theorem dX1_stoneOf_2 : decode cX1_stoneOf 2 = .ok (.invokevirtual 79, 3) := by decide +kernel
theorem dX1_stoneOf_5 : decode cX1_stoneOf 5 = .ok (.aload_n 0, 1) := by decide +kernel
theorem dX1_stoneOf_6 : decode cX1_stoneOf 6 = .ok (.getfield 10, 3) := by decide +kernel
theorem dX1_stoneOf_9 : decode cX1_stoneOf 9 = .ok (.getfield 82, 3) := by decide +kernel
theorem dX1_stoneOf_12 : decode cX1_stoneOf 12 = .ok (.iload_n 1, 1) := by decide +kernel
theorem dX1_stoneOf_13 : decode cX1_stoneOf 13 = .ok (.iaload, 1) := by decide +kernel
theorem dX1_stoneOf_14 : decode cX1_stoneOf 14 = .ok (.ireturn, 1) := by decide +kernel
set_option maxRecDepth 20000 in
theorem ggX1_leftOf_X1_requireSack : GoodIn wsX1_leftOf wsX1_requireSack := goodIn_ca (goodIn_r _ [6, 7, 8, 1, 9, 10, 11, 12, 13, 14, 15, 16, 17, 18, 19, 20, 21, 22, 23, 24, 25, 26] (by decide +kernel) (by decide +kernel)) (goodIn_sub (fun _ h => List.mem_cons_of_mem _ (List.mem_append_right _ h)) (by decide +kernel))
set_option maxRecDepth 20000 in
theorem gX1_leftOf_X1_requireSack : GoodIn wsX1_leftOf (wsV RX1 79 RX1 yX1_requireSack wsX1_requireSack) := goodIn_app (goodIn_of _ (by decide +kernel)) ggX1_leftOf_X1_requireSack
theorem dX1_leftOf_0 : decode cX1_leftOf 0 = .ok (.aload_n 0, 1) := by decide +kernel
theorem dX1_leftOf_1 : decode cX1_leftOf 1 = .ok (.iload_n 1, 1) := by decide +kernel
theorem dX1_leftOf_2 : decode cX1_leftOf 2 = .ok (.invokevirtual 79, 3) := by decide +kernel
theorem dX1_leftOf_5 : decode cX1_leftOf 5 = .ok (.aload_n 0, 1) := by decide +kernel
theorem dX1_leftOf_6 : decode cX1_leftOf 6 = .ok (.getfield 10, 3) := by decide +kernel
theorem dX1_leftOf_9 : decode cX1_leftOf 9 = .ok (.getfield 111, 3) := by decide +kernel
theorem dX1_leftOf_12 : decode cX1_leftOf 12 = .ok (.iload_n 1, 1) := by decide +kernel
theorem dX1_leftOf_13 : decode cX1_leftOf 13 = .ok (.iaload, 1) := by decide +kernel
theorem dX1_leftOf_14 : decode cX1_leftOf 14 = .ok (.ireturn, 1) := by decide +kernel
set_option maxRecDepth 20000 in
theorem ggX1_untilOf_X1_requireSack : GoodIn wsX1_untilOf wsX1_requireSack := goodIn_ca (goodIn_r _ [6, 7, 8, 1, 9, 10, 11, 12, 13, 14, 15, 16, 17, 18, 19, 20, 21, 22, 23, 24, 25, 26] (by decide +kernel) (by decide +kernel)) (goodIn_sub (fun _ h => List.mem_cons_of_mem _ (List.mem_append_right _ h)) (by decide +kernel))
set_option maxRecDepth 20000 in
theorem gX1_untilOf_X1_requireSack : GoodIn wsX1_untilOf (wsV RX1 79 RX1 yX1_requireSack wsX1_requireSack) := goodIn_app (goodIn_of _ (by decide +kernel)) ggX1_untilOf_X1_requireSack
theorem dX1_untilOf_0 : decode cX1_untilOf 0 = .ok (.aload_n 0, 1) := by decide +kernel
theorem dX1_untilOf_1 : decode cX1_untilOf 1 = .ok (.iload_n 1, 1) := by decide +kernel
theorem dX1_untilOf_2 : decode cX1_untilOf 2 = .ok (.invokevirtual 79, 3) := by decide +kernel
theorem dX1_untilOf_5 : decode cX1_untilOf 5 = .ok (.aload_n 0, 1) := by decide +kernel
theorem dX1_untilOf_6 : decode cX1_untilOf 6 = .ok (.getfield 10, 3) := by decide +kernel
theorem dX1_untilOf_9 : decode cX1_untilOf 9 = .ok (.getfield 90, 3) := by decide +kernel
theorem dX1_untilOf_12 : decode cX1_untilOf 12 = .ok (.iload_n 1, 1) := by decide +kernel
theorem dX1_untilOf_13 : decode cX1_untilOf 13 = .ok (.iaload, 1) := by decide +kernel
theorem dX1_untilOf_14 : decode cX1_untilOf 14 = .ok (.ireturn, 1) := by decide +kernel
set_option maxRecDepth 20000 in
theorem ggX1_groundAt_X1_requireSack : GoodIn wsX1_groundAt wsX1_requireSack := goodIn_ca (goodIn_r _ [6, 7, 8, 1, 9, 10, 11, 12, 13, 14, 15, 16, 17, 18, 19, 20, 21, 22, 23, 24, 25, 26] (by decide +kernel) (by decide +kernel)) (goodIn_sub (fun _ h => List.mem_cons_of_mem _ (List.mem_append_right _ h)) (by decide +kernel))
set_option maxRecDepth 20000 in
theorem gX1_groundAt_X1_requireSack : GoodIn wsX1_groundAt (wsV RX1 79 RX1 yX1_requireSack wsX1_requireSack) := goodIn_app (goodIn_of _ (by decide +kernel)) ggX1_groundAt_X1_requireSack
theorem dX1_groundAt_0 : decode cX1_groundAt 0 = .ok (.aload_n 0, 1) := by decide +kernel
theorem dX1_groundAt_1 : decode cX1_groundAt 1 = .ok (.iload_n 1, 1) := by decide +kernel
theorem dX1_groundAt_2 : decode cX1_groundAt 2 = .ok (.invokevirtual 79, 3) := by decide +kernel
theorem dX1_groundAt_5 : decode cX1_groundAt 5 = .ok (.aload_n 0, 1) := by decide +kernel
theorem dX1_groundAt_6 : decode cX1_groundAt 6 = .ok (.getfield 10, 3) := by decide +kernel
theorem dX1_groundAt_9 : decode cX1_groundAt 9 = .ok (.getfield 114, 3) := by decide +kernel
theorem dX1_groundAt_12 : decode cX1_groundAt 12 = .ok (.iload_n 1, 1) := by decide +kernel
theorem dX1_groundAt_13 : decode cX1_groundAt 13 = .ok (.iaload, 1) := by decide +kernel
theorem dX1_groundAt_14 : decode cX1_groundAt 14 = .ok (.ireturn, 1) := by decide +kernel
theorem dX1_ground_0 : decode cX1_ground 0 = .ok (.aload_n 0, 1) := by decide +kernel
theorem dX1_ground_1 : decode cX1_ground 1 = .ok (.getfield 10, 3) := by decide +kernel
theorem dX1_ground_4 : decode cX1_ground 4 = .ok (.getfield 117, 3) := by decide +kernel
theorem dX1_ground_7 : decode cX1_ground 7 = .ok (.ireturn, 1) := by decide +kernel
theorem dX1_changes_0 : decode cX1_changes 0 = .ok (.aload_n 0, 1) := by decide +kernel
theorem dX1_changes_1 : decode cX1_changes 1 = .ok (.getfield 10, 3) := by decide +kernel
theorem dX1_changes_4 : decode cX1_changes 4 = .ok (.getfield 120, 3) := by decide +kernel
theorem dX1_changes_7 : decode cX1_changes 7 = .ok (.ireturn, 1) := by decide +kernel
set_option maxRecDepth 20000 in
theorem ggX1_first_X0_firstByRule : GoodIn wsX1_first wsX0_firstByRule := goodIn_r _ [6, 7, 8, 9, 10, 11, 5, 12, 13, 14, 15, 16, 17, 18, 19, 22, 23, 24, 25, 26, 27, 28, 29, 30, 31, 32, 33, 34, 35, 36, 37] (by decide +kernel) (by decide +kernel)
set_option maxRecDepth 20000 in
theorem gX1_first_X0_firstByRule : GoodIn wsX1_first (wsV RX1 123 RX0 yX0_firstByRule wsX0_firstByRule) := goodIn_app (goodIn_of _ (by decide +kernel)) ggX1_first_X0_firstByRule
theorem dX1_first_0 : decode cX1_first 0 = .ok (.aload_n 0, 1) := by decide +kernel
theorem dX1_first_1 : decode cX1_first 1 = .ok (.getfield 10, 3) := by decide +kernel
theorem dX1_first_4 : decode cX1_first 4 = .ok (.iconst 0, 1) := by decide +kernel
theorem dX1_first_5 : decode cX1_first 5 = .ok (.invokevirtual 123, 3) := by decide +kernel
theorem dX1_first_8 : decode cX1_first 8 = .ok (.ireturn, 1) := by decide +kernel
set_option maxRecDepth 20000 in
theorem ggX1_placeOf_X1_requireSack : GoodIn wsX1_placeOf wsX1_requireSack := goodIn_ca (goodIn_r _ [6, 7, 8, 1, 27, 28, 29, 30, 31, 32, 33, 34, 35, 36, 37, 38, 39, 40, 41, 42, 43, 44] (by decide +kernel) (by decide +kernel)) (goodIn_sub (fun _ h => List.mem_cons_of_mem _ (List.mem_append_right _ h)) (by decide +kernel))
set_option maxRecDepth 20000 in
theorem gX1_placeOf_X1_requireSack : GoodIn wsX1_placeOf (wsV RX1 79 RX1 yX1_requireSack wsX1_requireSack) := goodIn_app (goodIn_of _ (by decide +kernel)) ggX1_placeOf_X1_requireSack
set_option maxRecDepth 20000 in
theorem ggX1_placeOf_X0_isGround : GoodIn wsX1_placeOf wsX0_isGround := goodIn_r _ [13, 14, 29, 30, 31, 32, 33, 34, 35, 36, 37, 38, 39, 40, 41, 42, 43, 44] (by decide +kernel) (by decide +kernel)
set_option maxRecDepth 20000 in
theorem gX1_placeOf_X0_isGround : GoodIn wsX1_placeOf (wsV RX1 127 RX0 yX0_isGround wsX0_isGround) := goodIn_app (goodIn_of _ (by decide +kernel)) ggX1_placeOf_X0_isGround
set_option maxRecDepth 20000 in
theorem ggX1_placeOf_X0_countAhead : GoodIn wsX1_placeOf wsX0_countAhead := goodIn_r _ [18, 19, 20, 10, 11, 12, 13, 14, 21, 22, 23, 24, 25, 26, 29, 30, 31, 32, 33, 34, 35, 36, 37, 38, 39, 40, 41, 42, 43, 44] (by decide +kernel) (by decide +kernel)
set_option maxRecDepth 20000 in
theorem gX1_placeOf_X0_countAhead : GoodIn wsX1_placeOf (wsV RX1 131 RX0 yX0_countAhead wsX0_countAhead) := goodIn_app (goodIn_of _ (by decide +kernel)) ggX1_placeOf_X0_countAhead
theorem dX1_placeOf_0 : decode cX1_placeOf 0 = .ok (.aload_n 0, 1) := by decide +kernel
theorem dX1_placeOf_1 : decode cX1_placeOf 1 = .ok (.iload_n 1, 1) := by decide +kernel
theorem dX1_placeOf_2 : decode cX1_placeOf 2 = .ok (.invokevirtual 79, 3) := by decide +kernel
theorem dX1_placeOf_5 : decode cX1_placeOf 5 = .ok (.aload_n 0, 1) := by decide +kernel
theorem dX1_placeOf_6 : decode cX1_placeOf 6 = .ok (.getfield 10, 3) := by decide +kernel
theorem dX1_placeOf_9 : decode cX1_placeOf 9 = .ok (.iload_n 1, 1) := by decide +kernel
theorem dX1_placeOf_10 : decode cX1_placeOf 10 = .ok (.invokevirtual 127, 3) := by decide +kernel
theorem dX1_placeOf_13 : decode cX1_placeOf 13 = .ok (.ifCond .eq 7, 3) := by decide +kernel
theorem dX1_placeOf_16 : decode cX1_placeOf 16 = .ok (.iconst (-1), 1) := by decide +kernel
theorem dX1_placeOf_17 : decode cX1_placeOf 17 = .ok (.goto 11, 3) := by decide +kernel
theorem dX1_placeOf_20 : decode cX1_placeOf 20 = .ok (.aload_n 0, 1) := by decide +kernel
theorem dX1_placeOf_21 : decode cX1_placeOf 21 = .ok (.getfield 10, 3) := by decide +kernel
theorem dX1_placeOf_24 : decode cX1_placeOf 24 = .ok (.iload_n 1, 1) := by decide +kernel
theorem dX1_placeOf_25 : decode cX1_placeOf 25 = .ok (.invokevirtual 131, 3) := by decide +kernel
theorem dX1_placeOf_28 : decode cX1_placeOf 28 = .ok (.ireturn, 1) := by decide +kernel
set_option maxRecDepth 20000 in
theorem ggX1_leftFor_X1_requireBaker : GoodIn wsX1_leftFor wsX1_requireBaker := goodIn_ca (goodIn_r _ [5, 6, 7] (by decide +kernel) (by decide +kernel)) (goodIn_sub (fun _ h => List.mem_cons_of_mem _ (List.mem_append_right _ h)) (by decide +kernel))
set_option maxRecDepth 20000 in
theorem gX1_leftFor_X1_requireBaker : GoodIn wsX1_leftFor (va_wsS RX1 61 yX1_requireBaker wsX1_requireBaker) := goodIn_app (goodIn_of _ (by decide +kernel)) ggX1_leftFor_X1_requireBaker
theorem dX1_leftFor_0 : decode cX1_leftFor 0 = .ok (.iload_n 1, 1) := by decide +kernel
theorem dX1_leftFor_1 : decode cX1_leftFor 1 = .ok (.invokestatic 61, 3) := by decide +kernel
theorem dX1_leftFor_4 : decode cX1_leftFor 4 = .ok (.iconst 0, 1) := by decide +kernel
theorem dX1_leftFor_5 : decode cX1_leftFor 5 = .ok (.istore_n 2, 1) := by decide +kernel
theorem dX1_leftFor_6 : decode cX1_leftFor 6 = .ok (.iconst 0, 1) := by decide +kernel
theorem dX1_leftFor_7 : decode cX1_leftFor 7 = .ok (.istore_n 3, 1) := by decide +kernel
theorem dX1_leftFor_8 : decode cX1_leftFor 8 = .ok (.iload_n 3, 1) := by decide +kernel
theorem dX1_leftFor_9 : decode cX1_leftFor 9 = .ok (.aload_n 0, 1) := by decide +kernel
theorem dX1_leftFor_10 : decode cX1_leftFor 10 = .ok (.getfield 10, 3) := by decide +kernel
theorem dX1_leftFor_13 : decode cX1_leftFor 13 = .ok (.getfield 70, 3) := by decide +kernel
theorem dX1_leftFor_16 : decode cX1_leftFor 16 = .ok (.if_icmp .ge 34, 3) := by decide +kernel
theorem dX1_leftFor_19 : decode cX1_leftFor 19 = .ok (.aload_n 0, 1) := by decide +kernel
theorem dX1_leftFor_20 : decode cX1_leftFor 20 = .ok (.getfield 10, 3) := by decide +kernel
theorem dX1_leftFor_23 : decode cX1_leftFor 23 = .ok (.getfield 134, 3) := by decide +kernel
theorem dX1_leftFor_26 : decode cX1_leftFor 26 = .ok (.iload_n 3, 1) := by decide +kernel
theorem dX1_leftFor_27 : decode cX1_leftFor 27 = .ok (.iaload, 1) := by decide +kernel
theorem dX1_leftFor_28 : decode cX1_leftFor 28 = .ok (.iload_n 1, 1) := by decide +kernel
theorem dX1_leftFor_29 : decode cX1_leftFor 29 = .ok (.if_icmp .ne 15, 3) := by decide +kernel
theorem dX1_leftFor_32 : decode cX1_leftFor 32 = .ok (.iload_n 2, 1) := by decide +kernel
theorem dX1_leftFor_33 : decode cX1_leftFor 33 = .ok (.aload_n 0, 1) := by decide +kernel
theorem dX1_leftFor_34 : decode cX1_leftFor 34 = .ok (.getfield 10, 3) := by decide +kernel
theorem dX1_leftFor_37 : decode cX1_leftFor 37 = .ok (.getfield 111, 3) := by decide +kernel
theorem dX1_leftFor_40 : decode cX1_leftFor 40 = .ok (.iload_n 3, 1) := by decide +kernel
theorem dX1_leftFor_41 : decode cX1_leftFor 41 = .ok (.iaload, 1) := by decide +kernel
theorem dX1_leftFor_42 : decode cX1_leftFor 42 = .ok (.iadd, 1) := by decide +kernel
theorem dX1_leftFor_43 : decode cX1_leftFor 43 = .ok (.istore_n 2, 1) := by decide +kernel
theorem dX1_leftFor_44 : decode cX1_leftFor 44 = .ok (.iinc 3 1, 3) := by decide +kernel
theorem dX1_leftFor_47 : decode cX1_leftFor 47 = .ok (.goto (-39), 3) := by decide +kernel
theorem dX1_leftFor_50 : decode cX1_leftFor 50 = .ok (.iload_n 2, 1) := by decide +kernel
theorem dX1_leftFor_51 : decode cX1_leftFor 51 = .ok (.ireturn, 1) := by decide +kernel
set_option maxRecDepth 20000 in
theorem ggX1_late_X0_hoursLate : GoodIn wsX1_late wsX0_hoursLate := goodIn_r _ [6, 7, 8, 9, 10, 11, 12, 13, 14, 15, 16, 5, 17, 18, 21, 22, 23, 24, 25, 26, 27, 28, 29, 30, 31, 32, 33, 34, 35, 36] (by decide +kernel) (by decide +kernel)
set_option maxRecDepth 20000 in
theorem gX1_late_X0_hoursLate : GoodIn wsX1_late (wsV RX1 137 RX0 yX0_hoursLate wsX0_hoursLate) := goodIn_app (goodIn_of _ (by decide +kernel)) ggX1_late_X0_hoursLate
theorem dX1_late_0 : decode cX1_late 0 = .ok (.aload_n 0, 1) := by decide +kernel
theorem dX1_late_1 : decode cX1_late 1 = .ok (.getfield 10, 3) := by decide +kernel
theorem dX1_late_4 : decode cX1_late 4 = .ok (.invokevirtual 137, 3) := by decide +kernel
theorem dX1_late_7 : decode cX1_late 7 = .ok (.ireturn, 1) := by decide +kernel
set_option maxRecDepth 20000 in
theorem ggX1_lateWith_X1_requireRule : GoodIn wsX1_lateWith wsX1_requireRule := goodIn_ca (goodIn_r _ [6, 7, 8] (by decide +kernel) (by decide +kernel)) (goodIn_sub (fun _ h => List.mem_cons_of_mem _ (List.mem_append_right _ h)) (by decide +kernel))
set_option maxRecDepth 20000 in
theorem gX1_lateWith_X1_requireRule : GoodIn wsX1_lateWith (va_wsS RX1 50 yX1_requireRule wsX1_requireRule) := goodIn_app (goodIn_of _ (by decide +kernel)) ggX1_lateWith_X1_requireRule
set_option maxRecDepth 20000 in
theorem ggX1_lateWith_X0_become : GoodIn wsX1_lateWith wsX0_become := goodIn_r _ [13, 14, 15, 16, 17, 18, 19, 20, 21, 22, 23, 24, 25, 26, 27, 28, 29, 30, 12, 31, 94, 95, 96, 97, 98, 99, 100, 101, 102, 103, 104, 105, 106, 107, 108, 109] (by decide +kernel) (by decide +kernel)
set_option maxRecDepth 20000 in
theorem gX1_lateWith_X0_become : GoodIn wsX1_lateWith (wsV RX1 143 RX0 yX0_become wsX0_become) := goodIn_app (goodIn_of _ (by decide +kernel)) ggX1_lateWith_X0_become
set_option maxRecDepth 20000 in
theorem ggX1_lateWith_X0_run : GoodIn wsX1_lateWith wsX0_run := goodIn_r _ [35, 22, 25, 24, 28, 36, 37, 38, 12, 39, 23, 16, 40, 41, 42, 43, 44, 45, 46, 47, 18, 48, 49, 50, 51, 27, 19, 52, 53, 54, 55, 20, 56, 57, 58, 59, 60, 26, 61, 62, 63, 64, 65, 66, 67, 68, 15, 69, 70, 71, 72, 73, 74, 75, 76, 14, 77, 78, 79, 80, 81, 82, 83, 84, 21, 94, 95, 96, 97, 98, 99, 100, 101, 102, 103, 104, 105, 106, 107, 108, 109] (by decide +kernel) (by decide +kernel)
set_option maxRecDepth 20000 in
theorem gX1_lateWith_X0_run : GoodIn wsX1_lateWith (wsV RX1 96 RX0 yX0_run wsX0_run) := goodIn_app (goodIn_of _ (by decide +kernel)) ggX1_lateWith_X0_run
set_option maxRecDepth 20000 in
theorem ggX1_lateWith_X0_hoursLate : GoodIn wsX1_lateWith wsX0_hoursLate := goodIn_r _ [88, 24, 21, 19, 89, 90, 71, 91, 44, 45, 46, 12, 47, 18, 94, 95, 96, 97, 98, 99, 100, 101, 102, 103, 104, 105, 106, 107, 108, 109] (by decide +kernel) (by decide +kernel)
set_option maxRecDepth 20000 in
theorem gX1_lateWith_X0_hoursLate : GoodIn wsX1_lateWith (wsV RX1 137 RX0 yX0_hoursLate wsX0_hoursLate) := goodIn_app (goodIn_of _ (by decide +kernel)) ggX1_lateWith_X0_hoursLate
theorem dX1_lateWith_0 : decode cX1_lateWith 0 = .ok (.iload_n 1, 1) := by decide +kernel
theorem dX1_lateWith_1 : decode cX1_lateWith 1 = .ok (.invokestatic 50, 3) := by decide +kernel
theorem dX1_lateWith_4 : decode cX1_lateWith 4 = .ok (.aload_n 0, 1) := by decide +kernel
theorem dX1_lateWith_5 : decode cX1_lateWith 5 = .ok (.getfield 16, 3) := by decide +kernel
theorem dX1_lateWith_8 : decode cX1_lateWith 8 = .ok (.aload_n 0, 1) := by decide +kernel
theorem dX1_lateWith_9 : decode cX1_lateWith 9 = .ok (.getfield 10, 3) := by decide +kernel
theorem dX1_lateWith_12 : decode cX1_lateWith 12 = .ok (.invokevirtual 143, 3) := by decide +kernel
theorem dX1_lateWith_15 : decode cX1_lateWith 15 = .ok (.aload_n 0, 1) := by decide +kernel
theorem dX1_lateWith_16 : decode cX1_lateWith 16 = .ok (.getfield 16, 3) := by decide +kernel
theorem dX1_lateWith_19 : decode cX1_lateWith 19 = .ok (.iload_n 1, 1) := by decide +kernel
theorem dX1_lateWith_20 : decode cX1_lateWith 20 = .ok (.putfield 54, 3) := by decide +kernel
theorem dX1_lateWith_23 : decode cX1_lateWith 23 = .ok (.aload_n 0, 1) := by decide +kernel
theorem dX1_lateWith_24 : decode cX1_lateWith 24 = .ok (.getfield 16, 3) := by decide +kernel
theorem dX1_lateWith_27 : decode cX1_lateWith 27 = .ok (.iload_n 2, 1) := by decide +kernel
theorem dX1_lateWith_28 : decode cX1_lateWith 28 = .ok (.putfield 57, 3) := by decide +kernel
theorem dX1_lateWith_31 : decode cX1_lateWith 31 = .ok (.aload_n 0, 1) := by decide +kernel
theorem dX1_lateWith_32 : decode cX1_lateWith 32 = .ok (.getfield 16, 3) := by decide +kernel
theorem dX1_lateWith_35 : decode cX1_lateWith 35 = .ok (.sipush 200, 3) := by decide +kernel
theorem dX1_lateWith_38 : decode cX1_lateWith 38 = .ok (.invokevirtual 96, 3) := by decide +kernel
theorem dX1_lateWith_41 : decode cX1_lateWith 41 = .ok (.pop, 1) := by decide +kernel
theorem dX1_lateWith_42 : decode cX1_lateWith 42 = .ok (.aload_n 0, 1) := by decide +kernel
theorem dX1_lateWith_43 : decode cX1_lateWith 43 = .ok (.getfield 16, 3) := by decide +kernel
theorem dX1_lateWith_46 : decode cX1_lateWith 46 = .ok (.invokevirtual 137, 3) := by decide +kernel
theorem dX1_lateWith_49 : decode cX1_lateWith 49 = .ok (.sipush 200, 3) := by decide +kernel
theorem dX1_lateWith_52 : decode cX1_lateWith 52 = .ok (.aload_n 0, 1) := by decide +kernel
theorem dX1_lateWith_53 : decode cX1_lateWith 53 = .ok (.getfield 16, 3) := by decide +kernel
theorem dX1_lateWith_56 : decode cX1_lateWith 56 = .ok (.getfield 70, 3) := by decide +kernel
theorem dX1_lateWith_59 : decode cX1_lateWith 59 = .ok (.aload_n 0, 1) := by decide +kernel
theorem dX1_lateWith_60 : decode cX1_lateWith 60 = .ok (.getfield 16, 3) := by decide +kernel
theorem dX1_lateWith_63 : decode cX1_lateWith 63 = .ok (.getfield 117, 3) := by decide +kernel
theorem dX1_lateWith_66 : decode cX1_lateWith 66 = .ok (.isub, 1) := by decide +kernel
theorem dX1_lateWith_67 : decode cX1_lateWith 67 = .ok (.imul, 1) := by decide +kernel
theorem dX1_lateWith_68 : decode cX1_lateWith 68 = .ok (.iadd, 1) := by decide +kernel
theorem dX1_lateWith_69 : decode cX1_lateWith 69 = .ok (.ireturn, 1) := by decide +kernel
theorem dX1_meanLeft_0 : decode cX1_meanLeft 0 = .ok (.aload_n 0, 1) := by decide +kernel
theorem dX1_meanLeft_1 : decode cX1_meanLeft 1 = .ok (.getfield 10, 3) := by decide +kernel
theorem dX1_meanLeft_4 : decode cX1_meanLeft 4 = .ok (.getfield 70, 3) := by decide +kernel
theorem dX1_meanLeft_7 : decode cX1_meanLeft 7 = .ok (.aload_n 0, 1) := by decide +kernel
theorem dX1_meanLeft_8 : decode cX1_meanLeft 8 = .ok (.getfield 10, 3) := by decide +kernel
theorem dX1_meanLeft_11 : decode cX1_meanLeft 11 = .ok (.getfield 117, 3) := by decide +kernel
theorem dX1_meanLeft_14 : decode cX1_meanLeft 14 = .ok (.isub, 1) := by decide +kernel
theorem dX1_meanLeft_15 : decode cX1_meanLeft 15 = .ok (.istore_n 1, 1) := by decide +kernel
theorem dX1_meanLeft_16 : decode cX1_meanLeft 16 = .ok (.iload_n 1, 1) := by decide +kernel
theorem dX1_meanLeft_17 : decode cX1_meanLeft 17 = .ok (.ifCond .gt 5, 3) := by decide +kernel
theorem dX1_meanLeft_20 : decode cX1_meanLeft 20 = .ok (.dconst 0, 1) := by decide +kernel
theorem dX1_meanLeft_21 : decode cX1_meanLeft 21 = .ok (.dreturn, 1) := by decide +kernel
theorem dX1_meanLeft_22 : decode cX1_meanLeft 22 = .ok (.iconst 0, 1) := by decide +kernel
theorem dX1_meanLeft_23 : decode cX1_meanLeft 23 = .ok (.istore_n 2, 1) := by decide +kernel
theorem dX1_meanLeft_24 : decode cX1_meanLeft 24 = .ok (.iconst 0, 1) := by decide +kernel
theorem dX1_meanLeft_25 : decode cX1_meanLeft 25 = .ok (.istore_n 3, 1) := by decide +kernel
theorem dX1_meanLeft_26 : decode cX1_meanLeft 26 = .ok (.iload_n 3, 1) := by decide +kernel
theorem dX1_meanLeft_27 : decode cX1_meanLeft 27 = .ok (.aload_n 0, 1) := by decide +kernel
theorem dX1_meanLeft_28 : decode cX1_meanLeft 28 = .ok (.getfield 10, 3) := by decide +kernel
theorem dX1_meanLeft_31 : decode cX1_meanLeft 31 = .ok (.getfield 70, 3) := by decide +kernel
theorem dX1_meanLeft_34 : decode cX1_meanLeft 34 = .ok (.if_icmp .ge 21, 3) := by decide +kernel
theorem dX1_meanLeft_37 : decode cX1_meanLeft 37 = .ok (.iload_n 2, 1) := by decide +kernel
theorem dX1_meanLeft_38 : decode cX1_meanLeft 38 = .ok (.aload_n 0, 1) := by decide +kernel
theorem dX1_meanLeft_39 : decode cX1_meanLeft 39 = .ok (.getfield 10, 3) := by decide +kernel
theorem dX1_meanLeft_42 : decode cX1_meanLeft 42 = .ok (.getfield 111, 3) := by decide +kernel
theorem dX1_meanLeft_45 : decode cX1_meanLeft 45 = .ok (.iload_n 3, 1) := by decide +kernel
theorem dX1_meanLeft_46 : decode cX1_meanLeft 46 = .ok (.iaload, 1) := by decide +kernel
theorem dX1_meanLeft_47 : decode cX1_meanLeft 47 = .ok (.iadd, 1) := by decide +kernel
theorem dX1_meanLeft_48 : decode cX1_meanLeft 48 = .ok (.istore_n 2, 1) := by decide +kernel
theorem dX1_meanLeft_49 : decode cX1_meanLeft 49 = .ok (.iinc 3 1, 3) := by decide +kernel
theorem dX1_meanLeft_52 : decode cX1_meanLeft 52 = .ok (.goto (-26), 3) := by decide +kernel
theorem dX1_meanLeft_55 : decode cX1_meanLeft 55 = .ok (.iload_n 2, 1) := by decide +kernel
theorem dX1_meanLeft_56 : decode cX1_meanLeft 56 = .ok (.i2d, 1) := by decide +kernel
theorem dX1_meanLeft_57 : decode cX1_meanLeft 57 = .ok (.iload_n 1, 1) := by decide +kernel
theorem dX1_meanLeft_58 : decode cX1_meanLeft 58 = .ok (.i2d, 1) := by decide +kernel
theorem dX1_meanLeft_59 : decode cX1_meanLeft 59 = .ok (.ddiv, 1) := by decide +kernel
theorem dX1_meanLeft_60 : decode cX1_meanLeft 60 = .ok (.dreturn, 1) := by decide +kernel
theorem dX1_requireSack_0 : decode cX1_requireSack 0 = .ok (.iload_n 1, 1) := by decide +kernel
theorem dX1_requireSack_1 : decode cX1_requireSack 1 = .ok (.ifCond .lt 14, 3) := by decide +kernel
theorem dX1_requireSack_4 : decode cX1_requireSack 4 = .ok (.iload_n 1, 1) := by decide +kernel
theorem dX1_requireSack_5 : decode cX1_requireSack 5 = .ok (.aload_n 0, 1) := by decide +kernel
theorem dX1_requireSack_6 : decode cX1_requireSack 6 = .ok (.getfield 10, 3) := by decide +kernel
theorem dX1_requireSack_9 : decode cX1_requireSack 9 = .ok (.getfield 70, 3) := by decide +kernel
theorem dX1_requireSack_12 : decode cX1_requireSack 12 = .ok (.if_icmp .lt 13, 3) := by decide +kernel
theorem dX1_requireSack_15 : decode cX1_requireSack 15 = .ok (.new 39, 3) := by decide +kernel
theorem dX1_requireSack_18 : decode cX1_requireSack 18 = .ok (.dup, 1) := by decide +kernel
theorem dX1_requireSack_19 : decode cX1_requireSack 19 = .ok (.ldc 215, 2) := by decide +kernel
theorem dX1_requireSack_21 : decode cX1_requireSack 21 = .ok (.invokespecial 43, 3) := by decide +kernel
theorem dX1_requireSack_24 : decode cX1_requireSack 24 = .ok (.athrow, 1) := by decide +kernel
theorem dX1_requireSack_25 : decode cX1_requireSack 25 = .ok (.return_, 1) := by decide +kernel
theorem dX1_requireRule_0 : decode cX1_requireRule 0 = .ok (.iload_n 0, 1) := by decide +kernel
theorem dX1_requireRule_1 : decode cX1_requireRule 1 = .ok (.ifCond .lt 8, 3) := by decide +kernel
theorem dX1_requireRule_4 : decode cX1_requireRule 4 = .ok (.iload_n 0, 1) := by decide +kernel
theorem dX1_requireRule_5 : decode cX1_requireRule 5 = .ok (.iconst 3, 1) := by decide +kernel
theorem dX1_requireRule_6 : decode cX1_requireRule 6 = .ok (.if_icmp .lt 13, 3) := by decide +kernel
theorem dX1_requireRule_9 : decode cX1_requireRule 9 = .ok (.new 19, 3) := by decide +kernel
theorem dX1_requireRule_12 : decode cX1_requireRule 12 = .ok (.dup, 1) := by decide +kernel
theorem dX1_requireRule_13 : decode cX1_requireRule 13 = .ok (.ldc 217, 2) := by decide +kernel
theorem dX1_requireRule_15 : decode cX1_requireRule 15 = .ok (.invokespecial 23, 3) := by decide +kernel
theorem dX1_requireRule_18 : decode cX1_requireRule 18 = .ok (.athrow, 1) := by decide +kernel
theorem dX1_requireRule_19 : decode cX1_requireRule 19 = .ok (.return_, 1) := by decide +kernel
theorem dX1_requireBaker_0 : decode cX1_requireBaker 0 = .ok (.iload_n 0, 1) := by decide +kernel
theorem dX1_requireBaker_1 : decode cX1_requireBaker 1 = .ok (.ifCond .lt 9, 3) := by decide +kernel
theorem dX1_requireBaker_4 : decode cX1_requireBaker 4 = .ok (.iload_n 0, 1) := by decide +kernel
theorem dX1_requireBaker_5 : decode cX1_requireBaker 5 = .ok (.bipush 8, 2) := by decide +kernel
theorem dX1_requireBaker_7 : decode cX1_requireBaker 7 = .ok (.if_icmp .lt 13, 3) := by decide +kernel
theorem dX1_requireBaker_10 : decode cX1_requireBaker 10 = .ok (.new 19, 3) := by decide +kernel
theorem dX1_requireBaker_13 : decode cX1_requireBaker 13 = .ok (.dup, 1) := by decide +kernel
theorem dX1_requireBaker_14 : decode cX1_requireBaker 14 = .ok (.ldc 219, 2) := by decide +kernel
theorem dX1_requireBaker_16 : decode cX1_requireBaker 16 = .ok (.invokespecial 23, 3) := by decide +kernel
theorem dX1_requireBaker_19 : decode cX1_requireBaker 19 = .ok (.athrow, 1) := by decide +kernel
theorem dX1_requireBaker_20 : decode cX1_requireBaker 20 = .ok (.return_, 1) := by decide +kernel
theorem dX1_requireGrain_0 : decode cX1_requireGrain 0 = .ok (.iload_n 0, 1) := by decide +kernel
theorem dX1_requireGrain_1 : decode cX1_requireGrain 1 = .ok (.iconst 1, 1) := by decide +kernel
theorem dX1_requireGrain_2 : decode cX1_requireGrain 2 = .ok (.if_icmp .lt 9, 3) := by decide +kernel
theorem dX1_requireGrain_5 : decode cX1_requireGrain 5 = .ok (.iload_n 0, 1) := by decide +kernel
theorem dX1_requireGrain_6 : decode cX1_requireGrain 6 = .ok (.bipush 60, 2) := by decide +kernel
theorem dX1_requireGrain_8 : decode cX1_requireGrain 8 = .ok (.if_icmp .le 13, 3) := by decide +kernel
theorem dX1_requireGrain_11 : decode cX1_requireGrain 11 = .ok (.new 19, 3) := by decide +kernel
theorem dX1_requireGrain_14 : decode cX1_requireGrain 14 = .ok (.dup, 1) := by decide +kernel
theorem dX1_requireGrain_15 : decode cX1_requireGrain 15 = .ok (.ldc 221, 2) := by decide +kernel
theorem dX1_requireGrain_17 : decode cX1_requireGrain 17 = .ok (.invokespecial 23, 3) := by decide +kernel
theorem dX1_requireGrain_20 : decode cX1_requireGrain 20 = .ok (.athrow, 1) := by decide +kernel
theorem dX1_requireGrain_21 : decode cX1_requireGrain 21 = .ok (.return_, 1) := by decide +kernel
theorem dX1_requireUntil_0 : decode cX1_requireUntil 0 = .ok (.iload_n 0, 1) := by decide +kernel
theorem dX1_requireUntil_1 : decode cX1_requireUntil 1 = .ok (.iconst 1, 1) := by decide +kernel
theorem dX1_requireUntil_2 : decode cX1_requireUntil 2 = .ok (.if_icmp .lt 10, 3) := by decide +kernel
theorem dX1_requireUntil_5 : decode cX1_requireUntil 5 = .ok (.iload_n 0, 1) := by decide +kernel
theorem dX1_requireUntil_6 : decode cX1_requireUntil 6 = .ok (.sipush 200, 3) := by decide +kernel
theorem dX1_requireUntil_9 : decode cX1_requireUntil 9 = .ok (.if_icmp .le 13, 3) := by decide +kernel
theorem dX1_requireUntil_12 : decode cX1_requireUntil 12 = .ok (.new 19, 3) := by decide +kernel
theorem dX1_requireUntil_15 : decode cX1_requireUntil 15 = .ok (.dup, 1) := by decide +kernel
theorem dX1_requireUntil_16 : decode cX1_requireUntil 16 = .ok (.ldc 223, 2) := by decide +kernel
theorem dX1_requireUntil_18 : decode cX1_requireUntil 18 = .ok (.invokespecial 23, 3) := by decide +kernel
theorem dX1_requireUntil_21 : decode cX1_requireUntil 21 = .ok (.athrow, 1) := by decide +kernel
theorem dX1_requireUntil_22 : decode cX1_requireUntil 22 = .ok (.return_, 1) := by decide +kernel
theorem dX1_requireHours_0 : decode cX1_requireHours 0 = .ok (.iload_n 0, 1) := by decide +kernel
theorem dX1_requireHours_1 : decode cX1_requireHours 1 = .ok (.iconst 1, 1) := by decide +kernel
theorem dX1_requireHours_2 : decode cX1_requireHours 2 = .ok (.if_icmp .lt 9, 3) := by decide +kernel
theorem dX1_requireHours_5 : decode cX1_requireHours 5 = .ok (.iload_n 0, 1) := by decide +kernel
theorem dX1_requireHours_6 : decode cX1_requireHours 6 = .ok (.bipush 60, 2) := by decide +kernel
theorem dX1_requireHours_8 : decode cX1_requireHours 8 = .ok (.if_icmp .le 13, 3) := by decide +kernel
theorem dX1_requireHours_11 : decode cX1_requireHours 11 = .ok (.new 19, 3) := by decide +kernel
theorem dX1_requireHours_14 : decode cX1_requireHours 14 = .ok (.dup, 1) := by decide +kernel
theorem dX1_requireHours_15 : decode cX1_requireHours 15 = .ok (.ldc 225, 2) := by decide +kernel
theorem dX1_requireHours_17 : decode cX1_requireHours 17 = .ok (.invokespecial 23, 3) := by decide +kernel
theorem dX1_requireHours_20 : decode cX1_requireHours 20 = .ok (.athrow, 1) := by decide +kernel
theorem dX1_requireHours_21 : decode cX1_requireHours 21 = .ok (.return_, 1) := by decide +kernel
end
section
theorem dX2_init_0 : decode cX2_init 0 = .ok (.aload_n 0, 1) := by decide +kernel
theorem dX2_init_1 : decode cX2_init 1 = .ok (.invokespecial 1, 3) := by decide +kernel
theorem dX2_init_4 : decode cX2_init 4 = .ok (.aload_n 0, 1) := by decide +kernel
theorem dX2_init_5 : decode cX2_init 5 = .ok (.bipush 12, 2) := by decide +kernel
theorem dX2_init_7 : decode cX2_init 7 = .ok (.newarray .int, 2) := by decide +kernel
theorem dX2_init_9 : decode cX2_init 9 = .ok (.dup, 1) := by decide +kernel
theorem dX2_init_10 : decode cX2_init 10 = .ok (.iconst 0, 1) := by decide +kernel
theorem dX2_init_11 : decode cX2_init 11 = .ok (.iconst 5, 1) := by decide +kernel
theorem dX2_init_12 : decode cX2_init 12 = .ok (.iastore, 1) := by decide +kernel
theorem dX2_init_13 : decode cX2_init 13 = .ok (.dup, 1) := by decide +kernel
theorem dX2_init_14 : decode cX2_init 14 = .ok (.iconst 1, 1) := by decide +kernel
theorem dX2_init_15 : decode cX2_init 15 = .ok (.iconst 5, 1) := by decide +kernel
theorem dX2_init_16 : decode cX2_init 16 = .ok (.iastore, 1) := by decide +kernel
theorem dX2_init_17 : decode cX2_init 17 = .ok (.dup, 1) := by decide +kernel
theorem dX2_init_18 : decode cX2_init 18 = .ok (.iconst 2, 1) := by decide +kernel
theorem dX2_init_19 : decode cX2_init 19 = .ok (.iconst 5, 1) := by decide +kernel
theorem dX2_init_20 : decode cX2_init 20 = .ok (.iastore, 1) := by decide +kernel
theorem dX2_init_21 : decode cX2_init 21 = .ok (.dup, 1) := by decide +kernel
theorem dX2_init_22 : decode cX2_init 22 = .ok (.iconst 3, 1) := by decide +kernel
theorem dX2_init_23 : decode cX2_init 23 = .ok (.iconst 5, 1) := by decide +kernel
theorem dX2_init_24 : decode cX2_init 24 = .ok (.iastore, 1) := by decide +kernel
theorem dX2_init_25 : decode cX2_init 25 = .ok (.dup, 1) := by decide +kernel
theorem dX2_init_26 : decode cX2_init 26 = .ok (.iconst 4, 1) := by decide +kernel
theorem dX2_init_27 : decode cX2_init 27 = .ok (.iconst 5, 1) := by decide +kernel
theorem dX2_init_28 : decode cX2_init 28 = .ok (.iastore, 1) := by decide +kernel
theorem dX2_init_29 : decode cX2_init 29 = .ok (.dup, 1) := by decide +kernel
theorem dX2_init_30 : decode cX2_init 30 = .ok (.iconst 5, 1) := by decide +kernel
theorem dX2_init_31 : decode cX2_init 31 = .ok (.iconst 5, 1) := by decide +kernel
theorem dX2_init_32 : decode cX2_init 32 = .ok (.iastore, 1) := by decide +kernel
theorem dX2_init_33 : decode cX2_init 33 = .ok (.dup, 1) := by decide +kernel
theorem dX2_init_34 : decode cX2_init 34 = .ok (.bipush 6, 2) := by decide +kernel
theorem dX2_init_36 : decode cX2_init 36 = .ok (.iconst 5, 1) := by decide +kernel
theorem dX2_init_37 : decode cX2_init 37 = .ok (.iastore, 1) := by decide +kernel
theorem dX2_init_38 : decode cX2_init 38 = .ok (.dup, 1) := by decide +kernel
theorem dX2_init_39 : decode cX2_init 39 = .ok (.bipush 7, 2) := by decide +kernel
theorem dX2_init_41 : decode cX2_init 41 = .ok (.iconst 5, 1) := by decide +kernel
theorem dX2_init_42 : decode cX2_init 42 = .ok (.iastore, 1) := by decide +kernel
theorem dX2_init_43 : decode cX2_init 43 = .ok (.dup, 1) := by decide +kernel
theorem dX2_init_44 : decode cX2_init 44 = .ok (.bipush 8, 2) := by decide +kernel
theorem dX2_init_46 : decode cX2_init 46 = .ok (.iconst 5, 1) := by decide +kernel
theorem dX2_init_47 : decode cX2_init 47 = .ok (.iastore, 1) := by decide +kernel
theorem dX2_init_48 : decode cX2_init 48 = .ok (.dup, 1) := by decide +kernel
theorem dX2_init_49 : decode cX2_init 49 = .ok (.bipush 9, 2) := by decide +kernel
theorem dX2_init_51 : decode cX2_init 51 = .ok (.iconst 5, 1) := by decide +kernel
theorem dX2_init_52 : decode cX2_init 52 = .ok (.iastore, 1) := by decide +kernel
theorem dX2_init_53 : decode cX2_init 53 = .ok (.dup, 1) := by decide +kernel
theorem dX2_init_54 : decode cX2_init 54 = .ok (.bipush 10, 2) := by decide +kernel
theorem dX2_init_56 : decode cX2_init 56 = .ok (.iconst 5, 1) := by decide +kernel
theorem dX2_init_57 : decode cX2_init 57 = .ok (.iastore, 1) := by decide +kernel
theorem dX2_init_58 : decode cX2_init 58 = .ok (.dup, 1) := by decide +kernel
theorem dX2_init_59 : decode cX2_init 59 = .ok (.bipush 11, 2) := by decide +kernel
theorem dX2_init_61 : decode cX2_init 61 = .ok (.iconst 5, 1) := by decide +kernel
theorem dX2_init_62 : decode cX2_init 62 = .ok (.iastore, 1) := by decide +kernel
theorem dX2_init_63 : decode cX2_init 63 = .ok (.putfield 7, 3) := by decide +kernel
theorem dX2_init_66 : decode cX2_init 66 = .ok (.aload_n 0, 1) := by decide +kernel
theorem dX2_init_67 : decode cX2_init 67 = .ok (.iconst 0, 1) := by decide +kernel
theorem dX2_init_68 : decode cX2_init 68 = .ok (.anewarray 13, 3) := by decide +kernel
theorem dX2_init_71 : decode cX2_init 71 = .ok (.putfield 14, 3) := by decide +kernel
theorem dX2_init_74 : decode cX2_init 74 = .ok (.aload_n 0, 1) := by decide +kernel
theorem dX2_init_75 : decode cX2_init 75 = .ok (.iconst 0, 1) := by decide +kernel
theorem dX2_init_76 : decode cX2_init 76 = .ok (.anewarray 13, 3) := by decide +kernel
theorem dX2_init_79 : decode cX2_init 79 = .ok (.putfield 18, 3) := by decide +kernel
theorem dX2_init_82 : decode cX2_init 82 = .ok (.return_, 1) := by decide +kernel
theorem dX2_with_0 : decode cX2_with 0 = .ok (.aload_n 0, 1) := by decide +kernel
theorem dX2_with_1 : decode cX2_with 1 = .ok (.arraylength, 1) := by decide +kernel
theorem dX2_with_2 : decode cX2_with 2 = .ok (.iconst 1, 1) := by decide +kernel
theorem dX2_with_3 : decode cX2_with 3 = .ok (.iadd, 1) := by decide +kernel
theorem dX2_with_4 : decode cX2_with 4 = .ok (.anewarray 13, 3) := by decide +kernel
theorem dX2_with_7 : decode cX2_with 7 = .ok (.astore_n 2, 1) := by decide +kernel
theorem dX2_with_8 : decode cX2_with 8 = .ok (.iconst 0, 1) := by decide +kernel
theorem dX2_with_9 : decode cX2_with 9 = .ok (.istore_n 3, 1) := by decide +kernel
theorem dX2_with_10 : decode cX2_with 10 = .ok (.iload_n 3, 1) := by decide +kernel
theorem dX2_with_11 : decode cX2_with 11 = .ok (.aload_n 0, 1) := by decide +kernel
theorem dX2_with_12 : decode cX2_with 12 = .ok (.arraylength, 1) := by decide +kernel
theorem dX2_with_13 : decode cX2_with 13 = .ok (.if_icmp .ge 15, 3) := by decide +kernel
theorem dX2_with_16 : decode cX2_with 16 = .ok (.aload_n 2, 1) := by decide +kernel
theorem dX2_with_17 : decode cX2_with 17 = .ok (.iload_n 3, 1) := by decide +kernel
theorem dX2_with_18 : decode cX2_with 18 = .ok (.aload_n 0, 1) := by decide +kernel
theorem dX2_with_19 : decode cX2_with 19 = .ok (.iload_n 3, 1) := by decide +kernel
theorem dX2_with_20 : decode cX2_with 20 = .ok (.aaload, 1) := by decide +kernel
theorem dX2_with_21 : decode cX2_with 21 = .ok (.aastore, 1) := by decide +kernel
theorem dX2_with_22 : decode cX2_with 22 = .ok (.iinc 3 1, 3) := by decide +kernel
theorem dX2_with_25 : decode cX2_with 25 = .ok (.goto (-15), 3) := by decide +kernel
theorem dX2_with_28 : decode cX2_with 28 = .ok (.aload_n 2, 1) := by decide +kernel
theorem dX2_with_29 : decode cX2_with 29 = .ok (.aload_n 0, 1) := by decide +kernel
theorem dX2_with_30 : decode cX2_with 30 = .ok (.arraylength, 1) := by decide +kernel
theorem dX2_with_31 : decode cX2_with 31 = .ok (.aload_n 1, 1) := by decide +kernel
theorem dX2_with_32 : decode cX2_with 32 = .ok (.aastore, 1) := by decide +kernel
theorem dX2_with_33 : decode cX2_with 33 = .ok (.aload_n 2, 1) := by decide +kernel
theorem dX2_with_34 : decode cX2_with 34 = .ok (.areturn, 1) := by decide +kernel
theorem dX2_order_0 : decode cX2_order 0 = .ok (.iconst 0, 1) := by decide +kernel
theorem dX2_order_1 : decode cX2_order 1 = .ok (.istore_n 1, 1) := by decide +kernel
theorem dX2_order_2 : decode cX2_order 2 = .ok (.aload_n 0, 1) := by decide +kernel
theorem dX2_order_3 : decode cX2_order 3 = .ok (.getfield 18, 3) := by decide +kernel
theorem dX2_order_6 : decode cX2_order 6 = .ok (.astore_n 2, 1) := by decide +kernel
theorem dX2_order_7 : decode cX2_order 7 = .ok (.aload_n 2, 1) := by decide +kernel
theorem dX2_order_8 : decode cX2_order 8 = .ok (.arraylength, 1) := by decide +kernel
theorem dX2_order_9 : decode cX2_order 9 = .ok (.istore_n 3, 1) := by decide +kernel
theorem dX2_order_10 : decode cX2_order 10 = .ok (.iconst 0, 1) := by decide +kernel
theorem dX2_order_11 : decode cX2_order 11 = .ok (.istore 4, 2) := by decide +kernel
theorem dX2_order_13 : decode cX2_order 13 = .ok (.iload 4, 2) := by decide +kernel
theorem dX2_order_15 : decode cX2_order 15 = .ok (.iload_n 3, 1) := by decide +kernel
theorem dX2_order_16 : decode cX2_order 16 = .ok (.if_icmp .ge 25, 3) := by decide +kernel
theorem dX2_order_19 : decode cX2_order 19 = .ok (.aload_n 2, 1) := by decide +kernel
theorem dX2_order_20 : decode cX2_order 20 = .ok (.iload 4, 2) := by decide +kernel
theorem dX2_order_22 : decode cX2_order 22 = .ok (.aaload, 1) := by decide +kernel
theorem dX2_order_23 : decode cX2_order 23 = .ok (.astore 5, 2) := by decide +kernel
theorem dX2_order_25 : decode cX2_order 25 = .ok (.aload 5, 2) := by decide +kernel
theorem dX2_order_27 : decode cX2_order 27 = .ok (.iconst 3, 1) := by decide +kernel
theorem dX2_order_28 : decode cX2_order 28 = .ok (.iaload, 1) := by decide +kernel
theorem dX2_order_29 : decode cX2_order 29 = .ok (.ifCond .ge 6, 3) := by decide +kernel
theorem dX2_order_32 : decode cX2_order 32 = .ok (.iinc 1 1, 3) := by decide +kernel
theorem dX2_order_35 : decode cX2_order 35 = .ok (.iinc 4 1, 3) := by decide +kernel
theorem dX2_order_38 : decode cX2_order 38 = .ok (.goto (-25), 3) := by decide +kernel
theorem dX2_order_41 : decode cX2_order 41 = .ok (.iload_n 1, 1) := by decide +kernel
theorem dX2_order_42 : decode cX2_order 42 = .ok (.newarray .int, 2) := by decide +kernel
theorem dX2_order_44 : decode cX2_order 44 = .ok (.astore_n 2, 1) := by decide +kernel
theorem dX2_order_45 : decode cX2_order 45 = .ok (.iconst 0, 1) := by decide +kernel
theorem dX2_order_46 : decode cX2_order 46 = .ok (.istore_n 3, 1) := by decide +kernel
theorem dX2_order_47 : decode cX2_order 47 = .ok (.iconst 0, 1) := by decide +kernel
theorem dX2_order_48 : decode cX2_order 48 = .ok (.istore 4, 2) := by decide +kernel
theorem dX2_order_50 : decode cX2_order 50 = .ok (.iload 4, 2) := by decide +kernel
theorem dX2_order_52 : decode cX2_order 52 = .ok (.aload_n 0, 1) := by decide +kernel
theorem dX2_order_53 : decode cX2_order 53 = .ok (.getfield 18, 3) := by decide +kernel
theorem dX2_order_56 : decode cX2_order 56 = .ok (.arraylength, 1) := by decide +kernel
theorem dX2_order_57 : decode cX2_order 57 = .ok (.if_icmp .ge 99, 3) := by decide +kernel
theorem dX2_order_60 : decode cX2_order 60 = .ok (.aload_n 0, 1) := by decide +kernel
theorem dX2_order_61 : decode cX2_order 61 = .ok (.getfield 18, 3) := by decide +kernel
theorem dX2_order_64 : decode cX2_order 64 = .ok (.iload 4, 2) := by decide +kernel
theorem dX2_order_66 : decode cX2_order 66 = .ok (.aaload, 1) := by decide +kernel
theorem dX2_order_67 : decode cX2_order 67 = .ok (.iconst 3, 1) := by decide +kernel
theorem dX2_order_68 : decode cX2_order 68 = .ok (.iaload, 1) := by decide +kernel
theorem dX2_order_69 : decode cX2_order 69 = .ok (.ifCond .lt 6, 3) := by decide +kernel
theorem dX2_order_72 : decode cX2_order 72 = .ok (.goto 78, 3) := by decide +kernel
theorem dX2_order_75 : decode cX2_order 75 = .ok (.iload_n 3, 1) := by decide +kernel
theorem dX2_order_76 : decode cX2_order 76 = .ok (.istore 5, 2) := by decide +kernel
theorem dX2_order_78 : decode cX2_order 78 = .ok (.iload 5, 2) := by decide +kernel
theorem dX2_order_80 : decode cX2_order 80 = .ok (.ifCond .le 61, 3) := by decide +kernel
theorem dX2_order_83 : decode cX2_order 83 = .ok (.aload_n 0, 1) := by decide +kernel
theorem dX2_order_84 : decode cX2_order 84 = .ok (.getfield 21, 3) := by decide +kernel
theorem dX2_order_87 : decode cX2_order 87 = .ok (.ifCond .le 54, 3) := by decide +kernel
theorem dX2_order_90 : decode cX2_order 90 = .ok (.aload_n 0, 1) := by decide +kernel
theorem dX2_order_91 : decode cX2_order 91 = .ok (.getfield 18, 3) := by decide +kernel
theorem dX2_order_94 : decode cX2_order 94 = .ok (.aload_n 2, 1) := by decide +kernel
theorem dX2_order_95 : decode cX2_order 95 = .ok (.iload 5, 2) := by decide +kernel
theorem dX2_order_97 : decode cX2_order 97 = .ok (.iconst 1, 1) := by decide +kernel
theorem dX2_order_98 : decode cX2_order 98 = .ok (.isub, 1) := by decide +kernel
theorem dX2_order_99 : decode cX2_order 99 = .ok (.iaload, 1) := by decide +kernel
theorem dX2_order_100 : decode cX2_order 100 = .ok (.aaload, 1) := by decide +kernel
theorem dX2_order_101 : decode cX2_order 101 = .ok (.iconst 3, 1) := by decide +kernel
theorem dX2_order_102 : decode cX2_order 102 = .ok (.aload_n 0, 1) := by decide +kernel
theorem dX2_order_103 : decode cX2_order 103 = .ok (.getfield 21, 3) := by decide +kernel
theorem dX2_order_106 : decode cX2_order 106 = .ok (.isub, 1) := by decide +kernel
theorem dX2_order_107 : decode cX2_order 107 = .ok (.iaload, 1) := by decide +kernel
theorem dX2_order_108 : decode cX2_order 108 = .ok (.aload_n 0, 1) := by decide +kernel
theorem dX2_order_109 : decode cX2_order 109 = .ok (.getfield 18, 3) := by decide +kernel
theorem dX2_order_112 : decode cX2_order 112 = .ok (.iload 4, 2) := by decide +kernel
theorem dX2_order_114 : decode cX2_order 114 = .ok (.aaload, 1) := by decide +kernel
theorem dX2_order_115 : decode cX2_order 115 = .ok (.iconst 3, 1) := by decide +kernel
theorem dX2_order_116 : decode cX2_order 116 = .ok (.aload_n 0, 1) := by decide +kernel
theorem dX2_order_117 : decode cX2_order 117 = .ok (.getfield 21, 3) := by decide +kernel
theorem dX2_order_120 : decode cX2_order 120 = .ok (.isub, 1) := by decide +kernel
theorem dX2_order_121 : decode cX2_order 121 = .ok (.iaload, 1) := by decide +kernel
theorem dX2_order_122 : decode cX2_order 122 = .ok (.if_icmp .le 19, 3) := by decide +kernel
theorem dX2_order_125 : decode cX2_order 125 = .ok (.aload_n 2, 1) := by decide +kernel
theorem dX2_order_126 : decode cX2_order 126 = .ok (.iload 5, 2) := by decide +kernel
theorem dX2_order_128 : decode cX2_order 128 = .ok (.aload_n 2, 1) := by decide +kernel
theorem dX2_order_129 : decode cX2_order 129 = .ok (.iload 5, 2) := by decide +kernel
theorem dX2_order_131 : decode cX2_order 131 = .ok (.iconst 1, 1) := by decide +kernel
theorem dX2_order_132 : decode cX2_order 132 = .ok (.isub, 1) := by decide +kernel
theorem dX2_order_133 : decode cX2_order 133 = .ok (.iaload, 1) := by decide +kernel
theorem dX2_order_134 : decode cX2_order 134 = .ok (.iastore, 1) := by decide +kernel
theorem dX2_order_135 : decode cX2_order 135 = .ok (.iinc 5 (-1), 3) := by decide +kernel
theorem dX2_order_138 : decode cX2_order 138 = .ok (.goto (-60), 3) := by decide +kernel
theorem dX2_order_141 : decode cX2_order 141 = .ok (.aload_n 2, 1) := by decide +kernel
theorem dX2_order_142 : decode cX2_order 142 = .ok (.iload 5, 2) := by decide +kernel
theorem dX2_order_144 : decode cX2_order 144 = .ok (.iload 4, 2) := by decide +kernel
theorem dX2_order_146 : decode cX2_order 146 = .ok (.iastore, 1) := by decide +kernel
theorem dX2_order_147 : decode cX2_order 147 = .ok (.iinc 3 1, 3) := by decide +kernel
theorem dX2_order_150 : decode cX2_order 150 = .ok (.iinc 4 1, 3) := by decide +kernel
theorem dX2_order_153 : decode cX2_order 153 = .ok (.goto (-103), 3) := by decide +kernel
theorem dX2_order_156 : decode cX2_order 156 = .ok (.aload_n 2, 1) := by decide +kernel
theorem dX2_order_157 : decode cX2_order 157 = .ok (.areturn, 1) := by decide +kernel
theorem dX2_stoneOf_0 : decode cX2_stoneOf 0 = .ok (.iconst 0, 1) := by decide +kernel
theorem dX2_stoneOf_1 : decode cX2_stoneOf 1 = .ok (.istore_n 2, 1) := by decide +kernel
theorem dX2_stoneOf_2 : decode cX2_stoneOf 2 = .ok (.iload_n 2, 1) := by decide +kernel
theorem dX2_stoneOf_3 : decode cX2_stoneOf 3 = .ok (.aload_n 0, 1) := by decide +kernel
theorem dX2_stoneOf_4 : decode cX2_stoneOf 4 = .ok (.getfield 14, 3) := by decide +kernel
theorem dX2_stoneOf_7 : decode cX2_stoneOf 7 = .ok (.arraylength, 1) := by decide +kernel
theorem dX2_stoneOf_8 : decode cX2_stoneOf 8 = .ok (.if_icmp .ge 23, 3) := by decide +kernel
theorem dX2_stoneOf_11 : decode cX2_stoneOf 11 = .ok (.aload_n 0, 1) := by decide +kernel
theorem dX2_stoneOf_12 : decode cX2_stoneOf 12 = .ok (.getfield 14, 3) := by decide +kernel
theorem dX2_stoneOf_15 : decode cX2_stoneOf 15 = .ok (.iload_n 2, 1) := by decide +kernel
theorem dX2_stoneOf_16 : decode cX2_stoneOf 16 = .ok (.aaload, 1) := by decide +kernel
theorem dX2_stoneOf_17 : decode cX2_stoneOf 17 = .ok (.iconst 1, 1) := by decide +kernel
theorem dX2_stoneOf_18 : decode cX2_stoneOf 18 = .ok (.iaload, 1) := by decide +kernel
theorem dX2_stoneOf_19 : decode cX2_stoneOf 19 = .ok (.iload_n 1, 1) := by decide +kernel
theorem dX2_stoneOf_20 : decode cX2_stoneOf 20 = .ok (.if_icmp .ne 5, 3) := by decide +kernel
theorem dX2_stoneOf_23 : decode cX2_stoneOf 23 = .ok (.iload_n 2, 1) := by decide +kernel
theorem dX2_stoneOf_24 : decode cX2_stoneOf 24 = .ok (.ireturn, 1) := by decide +kernel
theorem dX2_stoneOf_25 : decode cX2_stoneOf 25 = .ok (.iinc 2 1, 3) := by decide +kernel
theorem dX2_stoneOf_28 : decode cX2_stoneOf 28 = .ok (.goto (-26), 3) := by decide +kernel
theorem dX2_stoneOf_31 : decode cX2_stoneOf 31 = .ok (.iconst (-1), 1) := by decide +kernel
theorem dX2_stoneOf_32 : decode cX2_stoneOf 32 = .ok (.ireturn, 1) := by decide +kernel
set_option maxRecDepth 20000 in
theorem ggX2_pass_X2_order : GoodIn wsX2_pass wsX2_order := goodIn_r _ [13, 7, 5, 14, 19, 20, 21, 22, 23, 24, 25, 26] (by decide +kernel) (by decide +kernel)
set_option maxRecDepth 20000 in
theorem gX2_pass_X2_order : GoodIn wsX2_pass (wsV RX2 25 RX2 yX2_order wsX2_order) := goodIn_app (goodIn_of _ (by decide +kernel)) ggX2_pass_X2_order
set_option maxRecDepth 20000 in
theorem ggX2_pass_X2_stoneOf : GoodIn wsX2_pass wsX2_stoneOf := goodIn_r _ [18, 1, 19, 20, 21, 22, 23, 24, 25, 26] (by decide +kernel) (by decide +kernel)
set_option maxRecDepth 20000 in
theorem gX2_pass_X2_stoneOf : GoodIn wsX2_pass (wsV RX2 36 RX2 yX2_stoneOf wsX2_stoneOf) := goodIn_app (goodIn_of _ (by decide +kernel)) ggX2_pass_X2_stoneOf
theorem dX2_pass_0 : decode cX2_pass 0 = .ok (.aload_n 0, 1) := by decide +kernel
theorem dX2_pass_1 : decode cX2_pass 1 = .ok (.invokevirtual 25, 3) := by decide +kernel
theorem dX2_pass_4 : decode cX2_pass 4 = .ok (.astore_n 1, 1) := by decide +kernel
theorem dX2_pass_5 : decode cX2_pass 5 = .ok (.aload_n 0, 1) := by decide +kernel
theorem dX2_pass_6 : decode cX2_pass 6 = .ok (.getfield 14, 3) := by decide +kernel
theorem dX2_pass_9 : decode cX2_pass 9 = .ok (.astore_n 2, 1) := by decide +kernel
theorem dX2_pass_10 : decode cX2_pass 10 = .ok (.aload_n 2, 1) := by decide +kernel
theorem dX2_pass_11 : decode cX2_pass 11 = .ok (.arraylength, 1) := by decide +kernel
theorem dX2_pass_12 : decode cX2_pass 12 = .ok (.istore_n 3, 1) := by decide +kernel
theorem dX2_pass_13 : decode cX2_pass 13 = .ok (.iconst 0, 1) := by decide +kernel
theorem dX2_pass_14 : decode cX2_pass 14 = .ok (.istore 4, 2) := by decide +kernel
theorem dX2_pass_16 : decode cX2_pass 16 = .ok (.iload 4, 2) := by decide +kernel
theorem dX2_pass_18 : decode cX2_pass 18 = .ok (.iload_n 3, 1) := by decide +kernel
theorem dX2_pass_19 : decode cX2_pass 19 = .ok (.if_icmp .ge 84, 3) := by decide +kernel
theorem dX2_pass_22 : decode cX2_pass 22 = .ok (.aload_n 2, 1) := by decide +kernel
theorem dX2_pass_23 : decode cX2_pass 23 = .ok (.iload 4, 2) := by decide +kernel
theorem dX2_pass_25 : decode cX2_pass 25 = .ok (.aaload, 1) := by decide +kernel
theorem dX2_pass_26 : decode cX2_pass 26 = .ok (.astore 5, 2) := by decide +kernel
theorem dX2_pass_28 : decode cX2_pass 28 = .ok (.iconst 0, 1) := by decide +kernel
theorem dX2_pass_29 : decode cX2_pass 29 = .ok (.istore 6, 2) := by decide +kernel
theorem dX2_pass_31 : decode cX2_pass 31 = .ok (.iconst 0, 1) := by decide +kernel
theorem dX2_pass_32 : decode cX2_pass 32 = .ok (.istore 7, 2) := by decide +kernel
theorem dX2_pass_34 : decode cX2_pass 34 = .ok (.iload 7, 2) := by decide +kernel
theorem dX2_pass_36 : decode cX2_pass 36 = .ok (.aload_n 1, 1) := by decide +kernel
theorem dX2_pass_37 : decode cX2_pass 37 = .ok (.arraylength, 1) := by decide +kernel
theorem dX2_pass_38 : decode cX2_pass 38 = .ok (.if_icmp .ge 42, 3) := by decide +kernel
theorem dX2_pass_41 : decode cX2_pass 41 = .ok (.iload 7, 2) := by decide +kernel
theorem dX2_pass_43 : decode cX2_pass 43 = .ok (.aload_n 0, 1) := by decide +kernel
theorem dX2_pass_44 : decode cX2_pass 44 = .ok (.getfield 14, 3) := by decide +kernel
theorem dX2_pass_47 : decode cX2_pass 47 = .ok (.arraylength, 1) := by decide +kernel
theorem dX2_pass_48 : decode cX2_pass 48 = .ok (.if_icmp .ge 32, 3) := by decide +kernel
theorem dX2_pass_51 : decode cX2_pass 51 = .ok (.iload 6, 2) := by decide +kernel
theorem dX2_pass_53 : decode cX2_pass 53 = .ok (.ifCond .ne 14, 3) := by decide +kernel
theorem dX2_pass_56 : decode cX2_pass 56 = .ok (.aload_n 1, 1) := by decide +kernel
theorem dX2_pass_57 : decode cX2_pass 57 = .ok (.iload 7, 2) := by decide +kernel
theorem dX2_pass_59 : decode cX2_pass 59 = .ok (.iaload, 1) := by decide +kernel
theorem dX2_pass_60 : decode cX2_pass 60 = .ok (.aload 5, 2) := by decide +kernel
theorem dX2_pass_62 : decode cX2_pass 62 = .ok (.iconst 1, 1) := by decide +kernel
theorem dX2_pass_63 : decode cX2_pass 63 = .ok (.iaload, 1) := by decide +kernel
theorem dX2_pass_64 : decode cX2_pass 64 = .ok (.if_icmp .ne 7, 3) := by decide +kernel
theorem dX2_pass_67 : decode cX2_pass 67 = .ok (.iconst 1, 1) := by decide +kernel
theorem dX2_pass_68 : decode cX2_pass 68 = .ok (.goto 4, 3) := by decide +kernel
theorem dX2_pass_71 : decode cX2_pass 71 = .ok (.iconst 0, 1) := by decide +kernel
theorem dX2_pass_72 : decode cX2_pass 72 = .ok (.istore 6, 2) := by decide +kernel
theorem dX2_pass_74 : decode cX2_pass 74 = .ok (.iinc 7 1, 3) := by decide +kernel
theorem dX2_pass_77 : decode cX2_pass 77 = .ok (.goto (-43), 3) := by decide +kernel
theorem dX2_pass_80 : decode cX2_pass 80 = .ok (.aload_n 0, 1) := by decide +kernel
theorem dX2_pass_81 : decode cX2_pass 81 = .ok (.getfield 29, 3) := by decide +kernel
theorem dX2_pass_84 : decode cX2_pass 84 = .ok (.ifCond .eq 13, 3) := by decide +kernel
theorem dX2_pass_87 : decode cX2_pass 87 = .ok (.iload 6, 2) := by decide +kernel
theorem dX2_pass_89 : decode cX2_pass 89 = .ok (.ifCond .ne 8, 3) := by decide +kernel
theorem dX2_pass_92 : decode cX2_pass 92 = .ok (.aload 5, 2) := by decide +kernel
theorem dX2_pass_94 : decode cX2_pass 94 = .ok (.iconst 1, 1) := by decide +kernel
theorem dX2_pass_95 : decode cX2_pass 95 = .ok (.iconst (-1), 1) := by decide +kernel
theorem dX2_pass_96 : decode cX2_pass 96 = .ok (.iastore, 1) := by decide +kernel
theorem dX2_pass_97 : decode cX2_pass 97 = .ok (.iinc 4 1, 3) := by decide +kernel
theorem dX2_pass_100 : decode cX2_pass 100 = .ok (.goto (-84), 3) := by decide +kernel
theorem dX2_pass_103 : decode cX2_pass 103 = .ok (.aload_n 0, 1) := by decide +kernel
theorem dX2_pass_104 : decode cX2_pass 104 = .ok (.getfield 7, 3) := by decide +kernel
theorem dX2_pass_107 : decode cX2_pass 107 = .ok (.aload_n 0, 1) := by decide +kernel
theorem dX2_pass_108 : decode cX2_pass 108 = .ok (.getfield 33, 3) := by decide +kernel
theorem dX2_pass_111 : decode cX2_pass 111 = .ok (.bipush 12, 2) := by decide +kernel
theorem dX2_pass_113 : decode cX2_pass 113 = .ok (.irem, 1) := by decide +kernel
theorem dX2_pass_114 : decode cX2_pass 114 = .ok (.iaload, 1) := by decide +kernel
theorem dX2_pass_115 : decode cX2_pass 115 = .ok (.istore_n 2, 1) := by decide +kernel
theorem dX2_pass_116 : decode cX2_pass 116 = .ok (.aload_n 0, 1) := by decide +kernel
theorem dX2_pass_117 : decode cX2_pass 117 = .ok (.getfield 14, 3) := by decide +kernel
theorem dX2_pass_120 : decode cX2_pass 120 = .ok (.arraylength, 1) := by decide +kernel
theorem dX2_pass_121 : decode cX2_pass 121 = .ok (.newarray .int, 2) := by decide +kernel
theorem dX2_pass_123 : decode cX2_pass 123 = .ok (.astore_n 3, 1) := by decide +kernel
theorem dX2_pass_124 : decode cX2_pass 124 = .ok (.iconst 0, 1) := by decide +kernel
theorem dX2_pass_125 : decode cX2_pass 125 = .ok (.istore 4, 2) := by decide +kernel
theorem dX2_pass_127 : decode cX2_pass 127 = .ok (.iconst 0, 1) := by decide +kernel
theorem dX2_pass_128 : decode cX2_pass 128 = .ok (.istore 5, 2) := by decide +kernel
theorem dX2_pass_130 : decode cX2_pass 130 = .ok (.iload 5, 2) := by decide +kernel
theorem dX2_pass_132 : decode cX2_pass 132 = .ok (.aload_n 0, 1) := by decide +kernel
theorem dX2_pass_133 : decode cX2_pass 133 = .ok (.getfield 14, 3) := by decide +kernel
theorem dX2_pass_136 : decode cX2_pass 136 = .ok (.arraylength, 1) := by decide +kernel
theorem dX2_pass_137 : decode cX2_pass 137 = .ok (.if_icmp .ge 86, 3) := by decide +kernel
theorem dX2_pass_140 : decode cX2_pass 140 = .ok (.aload_n 0, 1) := by decide +kernel
theorem dX2_pass_141 : decode cX2_pass 141 = .ok (.getfield 14, 3) := by decide +kernel
theorem dX2_pass_144 : decode cX2_pass 144 = .ok (.iload 5, 2) := by decide +kernel
theorem dX2_pass_146 : decode cX2_pass 146 = .ok (.aaload, 1) := by decide +kernel
theorem dX2_pass_147 : decode cX2_pass 147 = .ok (.iconst 1, 1) := by decide +kernel
theorem dX2_pass_148 : decode cX2_pass 148 = .ok (.iaload, 1) := by decide +kernel
theorem dX2_pass_149 : decode cX2_pass 149 = .ok (.ifCond .lt 6, 3) := by decide +kernel
theorem dX2_pass_152 : decode cX2_pass 152 = .ok (.goto 65, 3) := by decide +kernel
theorem dX2_pass_155 : decode cX2_pass 155 = .ok (.iload 4, 2) := by decide +kernel
theorem dX2_pass_157 : decode cX2_pass 157 = .ok (.aload_n 1, 1) := by decide +kernel
theorem dX2_pass_158 : decode cX2_pass 158 = .ok (.arraylength, 1) := by decide +kernel
theorem dX2_pass_159 : decode cX2_pass 159 = .ok (.if_icmp .ge 20, 3) := by decide +kernel
theorem dX2_pass_162 : decode cX2_pass 162 = .ok (.aload_n 0, 1) := by decide +kernel
theorem dX2_pass_163 : decode cX2_pass 163 = .ok (.aload_n 1, 1) := by decide +kernel
theorem dX2_pass_164 : decode cX2_pass 164 = .ok (.iload 4, 2) := by decide +kernel
theorem dX2_pass_166 : decode cX2_pass 166 = .ok (.iaload, 1) := by decide +kernel
theorem dX2_pass_167 : decode cX2_pass 167 = .ok (.invokevirtual 36, 3) := by decide +kernel
theorem dX2_pass_170 : decode cX2_pass 170 = .ok (.ifCond .lt 9, 3) := by decide +kernel
theorem dX2_pass_173 : decode cX2_pass 173 = .ok (.iinc 4 1, 3) := by decide +kernel
theorem dX2_pass_176 : decode cX2_pass 176 = .ok (.goto (-21), 3) := by decide +kernel
theorem dX2_pass_179 : decode cX2_pass 179 = .ok (.iload 4, 2) := by decide +kernel
theorem dX2_pass_181 : decode cX2_pass 181 = .ok (.aload_n 1, 1) := by decide +kernel
theorem dX2_pass_182 : decode cX2_pass 182 = .ok (.arraylength, 1) := by decide +kernel
theorem dX2_pass_183 : decode cX2_pass 183 = .ok (.if_icmp .ne 6, 3) := by decide +kernel
theorem dX2_pass_186 : decode cX2_pass 186 = .ok (.goto 31, 3) := by decide +kernel
theorem dX2_pass_189 : decode cX2_pass 189 = .ok (.aload_n 0, 1) := by decide +kernel
theorem dX2_pass_190 : decode cX2_pass 190 = .ok (.getfield 14, 3) := by decide +kernel
theorem dX2_pass_193 : decode cX2_pass 193 = .ok (.iload 5, 2) := by decide +kernel
theorem dX2_pass_195 : decode cX2_pass 195 = .ok (.aaload, 1) := by decide +kernel
theorem dX2_pass_196 : decode cX2_pass 196 = .ok (.iconst 1, 1) := by decide +kernel
theorem dX2_pass_197 : decode cX2_pass 197 = .ok (.aload_n 1, 1) := by decide +kernel
theorem dX2_pass_198 : decode cX2_pass 198 = .ok (.iload 4, 2) := by decide +kernel
theorem dX2_pass_200 : decode cX2_pass 200 = .ok (.iaload, 1) := by decide +kernel
theorem dX2_pass_201 : decode cX2_pass 201 = .ok (.iastore, 1) := by decide +kernel
theorem dX2_pass_202 : decode cX2_pass 202 = .ok (.aload_n 3, 1) := by decide +kernel
theorem dX2_pass_203 : decode cX2_pass 203 = .ok (.iload 5, 2) := by decide +kernel
theorem dX2_pass_205 : decode cX2_pass 205 = .ok (.iconst 1, 1) := by decide +kernel
theorem dX2_pass_206 : decode cX2_pass 206 = .ok (.iastore, 1) := by decide +kernel
theorem dX2_pass_207 : decode cX2_pass 207 = .ok (.aload_n 0, 1) := by decide +kernel
theorem dX2_pass_208 : decode cX2_pass 208 = .ok (.dup, 1) := by decide +kernel
theorem dX2_pass_209 : decode cX2_pass 209 = .ok (.getfield 40, 3) := by decide +kernel
theorem dX2_pass_212 : decode cX2_pass 212 = .ok (.iconst 1, 1) := by decide +kernel
theorem dX2_pass_213 : decode cX2_pass 213 = .ok (.iadd, 1) := by decide +kernel
theorem dX2_pass_214 : decode cX2_pass 214 = .ok (.putfield 40, 3) := by decide +kernel
theorem dX2_pass_217 : decode cX2_pass 217 = .ok (.iinc 5 1, 3) := by decide +kernel
theorem dX2_pass_220 : decode cX2_pass 220 = .ok (.goto (-90), 3) := by decide +kernel
theorem dX2_pass_223 : decode cX2_pass 223 = .ok (.aload_n 0, 1) := by decide +kernel
theorem dX2_pass_224 : decode cX2_pass 224 = .ok (.dup, 1) := by decide +kernel
theorem dX2_pass_225 : decode cX2_pass 225 = .ok (.getfield 33, 3) := by decide +kernel
theorem dX2_pass_228 : decode cX2_pass 228 = .ok (.iconst 1, 1) := by decide +kernel
theorem dX2_pass_229 : decode cX2_pass 229 = .ok (.iadd, 1) := by decide +kernel
theorem dX2_pass_230 : decode cX2_pass 230 = .ok (.putfield 33, 3) := by decide +kernel
theorem dX2_pass_233 : decode cX2_pass 233 = .ok (.iconst 0, 1) := by decide +kernel
theorem dX2_pass_234 : decode cX2_pass 234 = .ok (.istore 5, 2) := by decide +kernel
theorem dX2_pass_236 : decode cX2_pass 236 = .ok (.iload 5, 2) := by decide +kernel
theorem dX2_pass_238 : decode cX2_pass 238 = .ok (.aload_n 0, 1) := by decide +kernel
theorem dX2_pass_239 : decode cX2_pass 239 = .ok (.getfield 14, 3) := by decide +kernel
theorem dX2_pass_242 : decode cX2_pass 242 = .ok (.arraylength, 1) := by decide +kernel
theorem dX2_pass_243 : decode cX2_pass 243 = .ok (.if_icmp .ge 105, 3) := by decide +kernel
theorem dX2_pass_246 : decode cX2_pass 246 = .ok (.aload_n 0, 1) := by decide +kernel
theorem dX2_pass_247 : decode cX2_pass 247 = .ok (.getfield 14, 3) := by decide +kernel
theorem dX2_pass_250 : decode cX2_pass 250 = .ok (.iload 5, 2) := by decide +kernel
theorem dX2_pass_252 : decode cX2_pass 252 = .ok (.aaload, 1) := by decide +kernel
theorem dX2_pass_253 : decode cX2_pass 253 = .ok (.iconst 1, 1) := by decide +kernel
theorem dX2_pass_254 : decode cX2_pass 254 = .ok (.iaload, 1) := by decide +kernel
theorem dX2_pass_255 : decode cX2_pass 255 = .ok (.ifCond .ge 6, 3) := by decide +kernel
theorem dX2_pass_258 : decode cX2_pass 258 = .ok (.goto 84, 3) := by decide +kernel
theorem dX2_pass_261 : decode cX2_pass 261 = .ok (.aload_n 0, 1) := by decide +kernel
theorem dX2_pass_262 : decode cX2_pass 262 = .ok (.getfield 18, 3) := by decide +kernel
theorem dX2_pass_265 : decode cX2_pass 265 = .ok (.aload_n 0, 1) := by decide +kernel
theorem dX2_pass_266 : decode cX2_pass 266 = .ok (.getfield 14, 3) := by decide +kernel
theorem dX2_pass_269 : decode cX2_pass 269 = .ok (.iload 5, 2) := by decide +kernel
theorem dX2_pass_271 : decode cX2_pass 271 = .ok (.aaload, 1) := by decide +kernel
theorem dX2_pass_272 : decode cX2_pass 272 = .ok (.iconst 1, 1) := by decide +kernel
theorem dX2_pass_273 : decode cX2_pass 273 = .ok (.iaload, 1) := by decide +kernel
theorem dX2_pass_274 : decode cX2_pass 274 = .ok (.aaload, 1) := by decide +kernel
theorem dX2_pass_275 : decode cX2_pass 275 = .ok (.astore 6, 2) := by decide +kernel
theorem dX2_pass_277 : decode cX2_pass 277 = .ok (.aload_n 0, 1) := by decide +kernel
theorem dX2_pass_278 : decode cX2_pass 278 = .ok (.getfield 14, 3) := by decide +kernel
theorem dX2_pass_281 : decode cX2_pass 281 = .ok (.iload 5, 2) := by decide +kernel
theorem dX2_pass_283 : decode cX2_pass 283 = .ok (.aaload, 1) := by decide +kernel
theorem dX2_pass_284 : decode cX2_pass 284 = .ok (.iconst 0, 1) := by decide +kernel
theorem dX2_pass_285 : decode cX2_pass 285 = .ok (.iaload, 1) := by decide +kernel
theorem dX2_pass_286 : decode cX2_pass 286 = .ok (.aload_n 3, 1) := by decide +kernel
theorem dX2_pass_287 : decode cX2_pass 287 = .ok (.iload 5, 2) := by decide +kernel
theorem dX2_pass_289 : decode cX2_pass 289 = .ok (.iaload, 1) := by decide +kernel
theorem dX2_pass_290 : decode cX2_pass 290 = .ok (.isub, 1) := by decide +kernel
theorem dX2_pass_291 : decode cX2_pass 291 = .ok (.istore 7, 2) := by decide +kernel
theorem dX2_pass_293 : decode cX2_pass 293 = .ok (.iload 7, 2) := by decide +kernel
theorem dX2_pass_295 : decode cX2_pass 295 = .ok (.aload 6, 2) := by decide +kernel
theorem dX2_pass_297 : decode cX2_pass 297 = .ok (.iconst 1, 1) := by decide +kernel
theorem dX2_pass_298 : decode cX2_pass 298 = .ok (.iaload, 1) := by decide +kernel
theorem dX2_pass_299 : decode cX2_pass 299 = .ok (.if_icmp .le 9, 3) := by decide +kernel
theorem dX2_pass_302 : decode cX2_pass 302 = .ok (.aload 6, 2) := by decide +kernel
theorem dX2_pass_304 : decode cX2_pass 304 = .ok (.iconst 1, 1) := by decide +kernel
theorem dX2_pass_305 : decode cX2_pass 305 = .ok (.iaload, 1) := by decide +kernel
theorem dX2_pass_306 : decode cX2_pass 306 = .ok (.istore 7, 2) := by decide +kernel
theorem dX2_pass_308 : decode cX2_pass 308 = .ok (.iload 7, 2) := by decide +kernel
theorem dX2_pass_310 : decode cX2_pass 310 = .ok (.iload_n 2, 1) := by decide +kernel
theorem dX2_pass_311 : decode cX2_pass 311 = .ok (.if_icmp .le 6, 3) := by decide +kernel
theorem dX2_pass_314 : decode cX2_pass 314 = .ok (.iload_n 2, 1) := by decide +kernel
theorem dX2_pass_315 : decode cX2_pass 315 = .ok (.istore 7, 2) := by decide +kernel
theorem dX2_pass_317 : decode cX2_pass 317 = .ok (.aload 6, 2) := by decide +kernel
theorem dX2_pass_319 : decode cX2_pass 319 = .ok (.iconst 1, 1) := by decide +kernel
theorem dX2_pass_320 : decode cX2_pass 320 = .ok (.dup2, 1) := by decide +kernel
theorem dX2_pass_321 : decode cX2_pass 321 = .ok (.iaload, 1) := by decide +kernel
theorem dX2_pass_322 : decode cX2_pass 322 = .ok (.iload 7, 2) := by decide +kernel
theorem dX2_pass_324 : decode cX2_pass 324 = .ok (.isub, 1) := by decide +kernel
theorem dX2_pass_325 : decode cX2_pass 325 = .ok (.iastore, 1) := by decide +kernel
theorem dX2_pass_326 : decode cX2_pass 326 = .ok (.iload_n 2, 1) := by decide +kernel
theorem dX2_pass_327 : decode cX2_pass 327 = .ok (.iload 7, 2) := by decide +kernel
theorem dX2_pass_329 : decode cX2_pass 329 = .ok (.isub, 1) := by decide +kernel
theorem dX2_pass_330 : decode cX2_pass 330 = .ok (.istore_n 2, 1) := by decide +kernel
theorem dX2_pass_331 : decode cX2_pass 331 = .ok (.aload_n 0, 1) := by decide +kernel
theorem dX2_pass_332 : decode cX2_pass 332 = .ok (.dup, 1) := by decide +kernel
theorem dX2_pass_333 : decode cX2_pass 333 = .ok (.getfield 43, 3) := by decide +kernel
theorem dX2_pass_336 : decode cX2_pass 336 = .ok (.iload 7, 2) := by decide +kernel
theorem dX2_pass_338 : decode cX2_pass 338 = .ok (.iadd, 1) := by decide +kernel
theorem dX2_pass_339 : decode cX2_pass 339 = .ok (.putfield 43, 3) := by decide +kernel
theorem dX2_pass_342 : decode cX2_pass 342 = .ok (.iinc 5 1, 3) := by decide +kernel
theorem dX2_pass_345 : decode cX2_pass 345 = .ok (.goto (-109), 3) := by decide +kernel
theorem dX2_pass_348 : decode cX2_pass 348 = .ok (.aload_n 0, 1) := by decide +kernel
theorem dX2_pass_349 : decode cX2_pass 349 = .ok (.getfield 14, 3) := by decide +kernel
theorem dX2_pass_352 : decode cX2_pass 352 = .ok (.astore 5, 2) := by decide +kernel
theorem dX2_pass_354 : decode cX2_pass 354 = .ok (.aload 5, 2) := by decide +kernel
theorem dX2_pass_356 : decode cX2_pass 356 = .ok (.arraylength, 1) := by decide +kernel
theorem dX2_pass_357 : decode cX2_pass 357 = .ok (.istore 6, 2) := by decide +kernel
theorem dX2_pass_359 : decode cX2_pass 359 = .ok (.iconst 0, 1) := by decide +kernel
theorem dX2_pass_360 : decode cX2_pass 360 = .ok (.istore 7, 2) := by decide +kernel
theorem dX2_pass_362 : decode cX2_pass 362 = .ok (.iload 7, 2) := by decide +kernel
theorem dX2_pass_364 : decode cX2_pass 364 = .ok (.iload 6, 2) := by decide +kernel
theorem dX2_pass_366 : decode cX2_pass 366 = .ok (.if_icmp .ge 60, 3) := by decide +kernel
theorem dX2_pass_369 : decode cX2_pass 369 = .ok (.aload 5, 2) := by decide +kernel
theorem dX2_pass_371 : decode cX2_pass 371 = .ok (.iload 7, 2) := by decide +kernel
theorem dX2_pass_373 : decode cX2_pass 373 = .ok (.aaload, 1) := by decide +kernel
theorem dX2_pass_374 : decode cX2_pass 374 = .ok (.astore 8, 2) := by decide +kernel
theorem dX2_pass_376 : decode cX2_pass 376 = .ok (.aload 8, 2) := by decide +kernel
theorem dX2_pass_378 : decode cX2_pass 378 = .ok (.iconst 1, 1) := by decide +kernel
theorem dX2_pass_379 : decode cX2_pass 379 = .ok (.iaload, 1) := by decide +kernel
theorem dX2_pass_380 : decode cX2_pass 380 = .ok (.ifCond .lt 40, 3) := by decide +kernel
theorem dX2_pass_383 : decode cX2_pass 383 = .ok (.aload_n 0, 1) := by decide +kernel
theorem dX2_pass_384 : decode cX2_pass 384 = .ok (.getfield 18, 3) := by decide +kernel
theorem dX2_pass_387 : decode cX2_pass 387 = .ok (.aload 8, 2) := by decide +kernel
theorem dX2_pass_389 : decode cX2_pass 389 = .ok (.iconst 1, 1) := by decide +kernel
theorem dX2_pass_390 : decode cX2_pass 390 = .ok (.iaload, 1) := by decide +kernel
theorem dX2_pass_391 : decode cX2_pass 391 = .ok (.aaload, 1) := by decide +kernel
theorem dX2_pass_392 : decode cX2_pass 392 = .ok (.iconst 1, 1) := by decide +kernel
theorem dX2_pass_393 : decode cX2_pass 393 = .ok (.iaload, 1) := by decide +kernel
theorem dX2_pass_394 : decode cX2_pass 394 = .ok (.ifCond .le 6, 3) := by decide +kernel
theorem dX2_pass_397 : decode cX2_pass 397 = .ok (.goto 23, 3) := by decide +kernel
theorem dX2_pass_400 : decode cX2_pass 400 = .ok (.aload_n 0, 1) := by decide +kernel
theorem dX2_pass_401 : decode cX2_pass 401 = .ok (.getfield 18, 3) := by decide +kernel
theorem dX2_pass_404 : decode cX2_pass 404 = .ok (.aload 8, 2) := by decide +kernel
theorem dX2_pass_406 : decode cX2_pass 406 = .ok (.iconst 1, 1) := by decide +kernel
theorem dX2_pass_407 : decode cX2_pass 407 = .ok (.iaload, 1) := by decide +kernel
theorem dX2_pass_408 : decode cX2_pass 408 = .ok (.aaload, 1) := by decide +kernel
theorem dX2_pass_409 : decode cX2_pass 409 = .ok (.iconst 3, 1) := by decide +kernel
theorem dX2_pass_410 : decode cX2_pass 410 = .ok (.aload_n 0, 1) := by decide +kernel
theorem dX2_pass_411 : decode cX2_pass 411 = .ok (.getfield 33, 3) := by decide +kernel
theorem dX2_pass_414 : decode cX2_pass 414 = .ok (.iastore, 1) := by decide +kernel
theorem dX2_pass_415 : decode cX2_pass 415 = .ok (.aload 8, 2) := by decide +kernel
theorem dX2_pass_417 : decode cX2_pass 417 = .ok (.iconst 1, 1) := by decide +kernel
theorem dX2_pass_418 : decode cX2_pass 418 = .ok (.iconst (-1), 1) := by decide +kernel
theorem dX2_pass_419 : decode cX2_pass 419 = .ok (.iastore, 1) := by decide +kernel
theorem dX2_pass_420 : decode cX2_pass 420 = .ok (.iinc 7 1, 3) := by decide +kernel
theorem dX2_pass_423 : decode cX2_pass 423 = .ok (.goto (-61), 3) := by decide +kernel
theorem dX2_pass_426 : decode cX2_pass 426 = .ok (.return_, 1) := by decide +kernel
set_option maxRecDepth 20000 in
theorem ggX2_behind_X2_pass : GoodIn wsX2_behind wsX2_pass := goodIn_r _ [6, 7, 8, 9, 10, 11, 12, 13, 1, 14, 15, 16, 5, 17, 18, 19, 20, 21, 22, 23, 24, 25, 26, 27, 28, 29, 30] (by decide +kernel) (by decide +kernel)
set_option maxRecDepth 20000 in
theorem gX2_behind_X2_pass : GoodIn wsX2_behind (wsV RX2 46 RX2 yX2_pass wsX2_pass) := goodIn_app (goodIn_of _ (by decide +kernel)) ggX2_behind_X2_pass
theorem dX2_behind_0 : decode cX2_behind 0 = .ok (.aload_n 0, 1) := by decide +kernel
theorem dX2_behind_1 : decode cX2_behind 1 = .ok (.getfield 43, 3) := by decide +kernel
theorem dX2_behind_4 : decode cX2_behind 4 = .ok (.istore_n 2, 1) := by decide +kernel
theorem dX2_behind_5 : decode cX2_behind 5 = .ok (.iconst 0, 1) := by decide +kernel
theorem dX2_behind_6 : decode cX2_behind 6 = .ok (.istore_n 3, 1) := by decide +kernel
theorem dX2_behind_7 : decode cX2_behind 7 = .ok (.iload_n 3, 1) := by decide +kernel
theorem dX2_behind_8 : decode cX2_behind 8 = .ok (.iload_n 1, 1) := by decide +kernel
theorem dX2_behind_9 : decode cX2_behind 9 = .ok (.if_icmp .ge 13, 3) := by decide +kernel
theorem dX2_behind_12 : decode cX2_behind 12 = .ok (.aload_n 0, 1) := by decide +kernel
theorem dX2_behind_13 : decode cX2_behind 13 = .ok (.invokevirtual 46, 3) := by decide +kernel
theorem dX2_behind_16 : decode cX2_behind 16 = .ok (.iinc 3 1, 3) := by decide +kernel
theorem dX2_behind_19 : decode cX2_behind 19 = .ok (.goto (-12), 3) := by decide +kernel
theorem dX2_behind_22 : decode cX2_behind 22 = .ok (.aload_n 0, 1) := by decide +kernel
theorem dX2_behind_23 : decode cX2_behind 23 = .ok (.getfield 43, 3) := by decide +kernel
theorem dX2_behind_26 : decode cX2_behind 26 = .ok (.iload_n 2, 1) := by decide +kernel
theorem dX2_behind_27 : decode cX2_behind 27 = .ok (.isub, 1) := by decide +kernel
theorem dX2_behind_28 : decode cX2_behind 28 = .ok (.ireturn, 1) := by decide +kernel
theorem dX2_late_0 : decode cX2_late 0 = .ok (.iconst 0, 1) := by decide +kernel
theorem dX2_late_1 : decode cX2_late 1 = .ok (.istore_n 2, 1) := by decide +kernel
theorem dX2_late_2 : decode cX2_late 2 = .ok (.aload_n 0, 1) := by decide +kernel
theorem dX2_late_3 : decode cX2_late 3 = .ok (.getfield 18, 3) := by decide +kernel
theorem dX2_late_6 : decode cX2_late 6 = .ok (.astore_n 3, 1) := by decide +kernel
theorem dX2_late_7 : decode cX2_late 7 = .ok (.aload_n 3, 1) := by decide +kernel
theorem dX2_late_8 : decode cX2_late 8 = .ok (.arraylength, 1) := by decide +kernel
theorem dX2_late_9 : decode cX2_late 9 = .ok (.istore 4, 2) := by decide +kernel
theorem dX2_late_11 : decode cX2_late 11 = .ok (.iconst 0, 1) := by decide +kernel
theorem dX2_late_12 : decode cX2_late 12 = .ok (.istore 5, 2) := by decide +kernel
theorem dX2_late_14 : decode cX2_late 14 = .ok (.iload 5, 2) := by decide +kernel
theorem dX2_late_16 : decode cX2_late 16 = .ok (.iload 4, 2) := by decide +kernel
theorem dX2_late_18 : decode cX2_late 18 = .ok (.if_icmp .ge 53, 3) := by decide +kernel
theorem dX2_late_21 : decode cX2_late 21 = .ok (.aload_n 3, 1) := by decide +kernel
theorem dX2_late_22 : decode cX2_late 22 = .ok (.iload 5, 2) := by decide +kernel
theorem dX2_late_24 : decode cX2_late 24 = .ok (.aaload, 1) := by decide +kernel
theorem dX2_late_25 : decode cX2_late 25 = .ok (.astore 6, 2) := by decide +kernel
theorem dX2_late_27 : decode cX2_late 27 = .ok (.iload_n 2, 1) := by decide +kernel
theorem dX2_late_28 : decode cX2_late 28 = .ok (.aload 6, 2) := by decide +kernel
theorem dX2_late_30 : decode cX2_late 30 = .ok (.iconst 3, 1) := by decide +kernel
theorem dX2_late_31 : decode cX2_late 31 = .ok (.iaload, 1) := by decide +kernel
theorem dX2_late_32 : decode cX2_late 32 = .ok (.ifCond .ge 7, 3) := by decide +kernel
theorem dX2_late_35 : decode cX2_late 35 = .ok (.iload_n 1, 1) := by decide +kernel
theorem dX2_late_36 : decode cX2_late 36 = .ok (.goto 27, 3) := by decide +kernel
theorem dX2_late_39 : decode cX2_late 39 = .ok (.aload 6, 2) := by decide +kernel
theorem dX2_late_41 : decode cX2_late 41 = .ok (.iconst 3, 1) := by decide +kernel
theorem dX2_late_42 : decode cX2_late 42 = .ok (.iaload, 1) := by decide +kernel
theorem dX2_late_43 : decode cX2_late 43 = .ok (.aload 6, 2) := by decide +kernel
theorem dX2_late_45 : decode cX2_late 45 = .ok (.iconst 2, 1) := by decide +kernel
theorem dX2_late_46 : decode cX2_late 46 = .ok (.iaload, 1) := by decide +kernel
theorem dX2_late_47 : decode cX2_late 47 = .ok (.if_icmp .le 15, 3) := by decide +kernel
theorem dX2_late_50 : decode cX2_late 50 = .ok (.aload 6, 2) := by decide +kernel
theorem dX2_late_52 : decode cX2_late 52 = .ok (.iconst 3, 1) := by decide +kernel
theorem dX2_late_53 : decode cX2_late 53 = .ok (.iaload, 1) := by decide +kernel
theorem dX2_late_54 : decode cX2_late 54 = .ok (.aload 6, 2) := by decide +kernel
theorem dX2_late_56 : decode cX2_late 56 = .ok (.iconst 2, 1) := by decide +kernel
theorem dX2_late_57 : decode cX2_late 57 = .ok (.iaload, 1) := by decide +kernel
theorem dX2_late_58 : decode cX2_late 58 = .ok (.isub, 1) := by decide +kernel
theorem dX2_late_59 : decode cX2_late 59 = .ok (.goto 4, 3) := by decide +kernel
theorem dX2_late_62 : decode cX2_late 62 = .ok (.iconst 0, 1) := by decide +kernel
theorem dX2_late_63 : decode cX2_late 63 = .ok (.iadd, 1) := by decide +kernel
theorem dX2_late_64 : decode cX2_late 64 = .ok (.istore_n 2, 1) := by decide +kernel
theorem dX2_late_65 : decode cX2_late 65 = .ok (.iinc 5 1, 3) := by decide +kernel
theorem dX2_late_68 : decode cX2_late 68 = .ok (.goto (-54), 3) := by decide +kernel
theorem dX2_late_71 : decode cX2_late 71 = .ok (.iload_n 2, 1) := by decide +kernel
theorem dX2_late_72 : decode cX2_late 72 = .ok (.ireturn, 1) := by decide +kernel
set_option maxRecDepth 20000 in
theorem ggX2_isSame_X2_order : GoodIn wsX2_isSame wsX2_order := goodIn_r _ [12, 1, 7, 4, 144, 145, 146, 147, 148, 149, 150, 151] (by decide +kernel) (by decide +kernel)
set_option maxRecDepth 20000 in
theorem gX2_isSame_X2_order : GoodIn wsX2_isSame (wsV RX2 25 RX2 yX2_order wsX2_order) := goodIn_app (goodIn_of _ (by decide +kernel)) ggX2_isSame_X2_order
set_option maxRecDepth 20000 in
theorem ggX2_isSame_X1_hour : GoodIn wsX2_isSame wsX1_hour := goodIn_r _ [17, 18, 152, 153, 154, 155, 156, 157, 158, 159, 160, 161, 162, 163, 164, 165, 166, 167, 168, 169] (by decide +kernel) (by decide +kernel)
set_option maxRecDepth 20000 in
theorem gX2_isSame_X1_hour : GoodIn wsX2_isSame (wsV RX2 54 RX1 yX1_hour wsX1_hour) := goodIn_app (goodIn_of _ (by decide +kernel)) ggX2_isSame_X1_hour
set_option maxRecDepth 20000 in
theorem ggX2_isSame_X1_stones : GoodIn wsX2_isSame wsX1_stones := goodIn_r _ [22, 18, 152, 153, 154, 155, 156, 157, 158, 159, 160, 161, 162, 163, 164, 165, 166, 167, 168, 169] (by decide +kernel) (by decide +kernel)
set_option maxRecDepth 20000 in
theorem gX2_isSame_X1_stones : GoodIn wsX2_isSame (wsV RX2 59 RX1 yX1_stones wsX1_stones) := goodIn_app (goodIn_of _ (by decide +kernel)) ggX2_isSame_X1_stones
set_option maxRecDepth 20000 in
theorem ggX2_isSame_X1_sacks : GoodIn wsX2_isSame wsX1_sacks := goodIn_r _ [26, 18, 152, 153, 154, 155, 156, 157, 158, 159, 160, 161, 162, 163, 164, 165, 166, 167, 168, 169] (by decide +kernel) (by decide +kernel)
set_option maxRecDepth 20000 in
theorem gX2_isSame_X1_sacks : GoodIn wsX2_isSame (wsV RX2 61 RX1 yX1_sacks wsX1_sacks) := goodIn_app (goodIn_of _ (by decide +kernel)) ggX2_isSame_X1_sacks
set_option maxRecDepth 20000 in
theorem ggX2_isSame_X1_rule : GoodIn wsX2_isSame wsX1_rule := goodIn_r _ [30, 18, 152, 153, 154, 155, 156, 157, 158, 159, 160, 161, 162, 163, 164, 165, 166, 167, 168, 169] (by decide +kernel) (by decide +kernel)
set_option maxRecDepth 20000 in
theorem gX2_isSame_X1_rule : GoodIn wsX2_isSame (wsV RX2 63 RX1 yX1_rule wsX1_rule) := goodIn_app (goodIn_of _ (by decide +kernel)) ggX2_isSame_X1_rule
set_option maxRecDepth 20000 in
theorem ggX2_isSame_X1_wind : GoodIn wsX2_isSame wsX1_wind := goodIn_r _ [34, 18, 35, 36, 37, 38, 39, 40, 41, 42, 43, 44, 45, 152, 153, 154, 155, 156, 157, 158, 159, 160, 161, 162, 163, 164, 165, 166, 167, 168, 169] (by decide +kernel) (by decide +kernel)
set_option maxRecDepth 20000 in
theorem gX2_isSame_X1_wind : GoodIn wsX2_isSame (wsV RX2 65 RX1 yX1_wind wsX1_wind) := goodIn_app (goodIn_of _ (by decide +kernel)) ggX2_isSame_X1_wind
set_option maxRecDepth 20000 in
theorem ggX2_isSame_X1_changes : GoodIn wsX2_isSame wsX1_changes := goodIn_r _ [49, 18, 152, 153, 154, 155, 156, 157, 158, 159, 160, 161, 162, 163, 164, 165, 166, 167, 168, 169] (by decide +kernel) (by decide +kernel)
set_option maxRecDepth 20000 in
theorem gX2_isSame_X1_changes : GoodIn wsX2_isSame (wsV RX2 67 RX1 yX1_changes wsX1_changes) := goodIn_app (goodIn_of _ (by decide +kernel)) ggX2_isSame_X1_changes
set_option maxRecDepth 20000 in
theorem ggX2_isSame_X1_ground : GoodIn wsX2_isSame wsX1_ground := goodIn_r _ [53, 18, 152, 153, 154, 155, 156, 157, 158, 159, 160, 161, 162, 163, 164, 165, 166, 167, 168, 169] (by decide +kernel) (by decide +kernel)
set_option maxRecDepth 20000 in
theorem gX2_isSame_X1_ground : GoodIn wsX2_isSame (wsV RX2 69 RX1 yX1_ground wsX1_ground) := goodIn_app (goodIn_of _ (by decide +kernel)) ggX2_isSame_X1_ground
set_option maxRecDepth 20000 in
theorem ggX2_isSame_X1_first : GoodIn wsX2_isSame wsX1_first := goodIn_r _ [57, 18, 58, 59, 60, 38, 61, 62, 63, 64, 65, 66, 67, 68, 69, 70, 71, 72, 73, 74, 152, 153, 154, 155, 156, 157, 158, 159, 160, 161, 162, 163, 164, 165, 166, 167, 168, 169] (by decide +kernel) (by decide +kernel)
set_option maxRecDepth 20000 in
theorem gX2_isSame_X1_first : GoodIn wsX2_isSame (wsV RX2 72 RX1 yX1_first wsX1_first) := goodIn_app (goodIn_of _ (by decide +kernel)) ggX2_isSame_X1_first
set_option maxRecDepth 20000 in
theorem ggX2_isSame_X1_late : GoodIn wsX2_isSame wsX1_late := goodIn_r _ [78, 18, 79, 80, 81, 38, 82, 62, 83, 74, 84, 85, 86, 87, 64, 65, 66, 67, 68, 152, 153, 154, 155, 156, 157, 158, 159, 160, 161, 162, 163, 164, 165, 166, 167, 168, 169] (by decide +kernel) (by decide +kernel)
set_option maxRecDepth 20000 in
theorem gX2_isSame_X1_late : GoodIn wsX2_isSame (wsV RX2 75 RX1 yX1_late wsX1_late) := goodIn_app (goodIn_of _ (by decide +kernel)) ggX2_isSame_X1_late
set_option maxRecDepth 20000 in
theorem ggX2_isSame_X2_late : GoodIn wsX2_isSame wsX2_late := goodIn_r _ [91, 1, 144, 145, 146, 147, 148, 149, 150, 151] (by decide +kernel) (by decide +kernel)
set_option maxRecDepth 20000 in
theorem gX2_isSame_X2_late : GoodIn wsX2_isSame (wsV RX2 78 RX2 yX2_late wsX2_late) := goodIn_app (goodIn_of _ (by decide +kernel)) ggX2_isSame_X2_late
set_option maxRecDepth 20000 in
theorem ggX2_isSame_X1_stoneOf : GoodIn wsX2_isSame wsX1_stoneOf := goodIn_ca (goodIn_r _ [95, 18, 96, 97, 98, 16, 99, 100, 101, 152, 153, 154, 155, 156, 157, 158, 159, 160, 161, 162, 163, 164, 165, 166, 167, 168, 169] (by decide +kernel) (by decide +kernel)) (goodIn_sub (fun _ h => List.mem_cons_of_mem _ (List.mem_append_left _ (List.mem_append_right _ h))) (by decide +kernel))
set_option maxRecDepth 20000 in
theorem gX2_isSame_X1_stoneOf : GoodIn wsX2_isSame (wsV RX2 80 RX1 yX1_stoneOf wsX1_stoneOf) := goodIn_app (goodIn_of _ (by decide +kernel)) ggX2_isSame_X1_stoneOf
set_option maxRecDepth 20000 in
theorem ggX2_isSame_X2_stoneOf : GoodIn wsX2_isSame wsX2_stoneOf := goodIn_r _ [105, 3, 144, 145, 146, 147, 148, 149, 150, 151] (by decide +kernel) (by decide +kernel)
set_option maxRecDepth 20000 in
theorem gX2_isSame_X2_stoneOf : GoodIn wsX2_isSame (wsV RX2 36 RX2 yX2_stoneOf wsX2_stoneOf) := goodIn_app (goodIn_of _ (by decide +kernel)) ggX2_isSame_X2_stoneOf
set_option maxRecDepth 20000 in
theorem ggX2_isSame_X1_leftOf : GoodIn wsX2_isSame wsX1_leftOf := goodIn_ca (goodIn_r _ [109, 18, 96, 97, 98, 16, 99, 100, 101, 152, 153, 154, 155, 156, 157, 158, 159, 160, 161, 162, 163, 164, 165, 166, 167, 168, 169] (by decide +kernel) (by decide +kernel)) (goodIn_sub (fun _ h => List.mem_cons_of_mem _ (List.mem_append_left _ (List.mem_append_right _ h))) (by decide +kernel))
set_option maxRecDepth 20000 in
theorem gX2_isSame_X1_leftOf : GoodIn wsX2_isSame (wsV RX2 81 RX1 yX1_leftOf wsX1_leftOf) := goodIn_app (goodIn_of _ (by decide +kernel)) ggX2_isSame_X1_leftOf
set_option maxRecDepth 20000 in
theorem ggX2_isSame_X1_untilOf : GoodIn wsX2_isSame wsX1_untilOf := goodIn_ca (goodIn_r _ [113, 18, 96, 97, 98, 16, 99, 100, 101, 152, 153, 154, 155, 156, 157, 158, 159, 160, 161, 162, 163, 164, 165, 166, 167, 168, 169] (by decide +kernel) (by decide +kernel)) (goodIn_sub (fun _ h => List.mem_cons_of_mem _ (List.mem_append_left _ (List.mem_append_right _ h))) (by decide +kernel))
set_option maxRecDepth 20000 in
theorem gX2_isSame_X1_untilOf : GoodIn wsX2_isSame (wsV RX2 84 RX1 yX1_untilOf wsX1_untilOf) := goodIn_app (goodIn_of _ (by decide +kernel)) ggX2_isSame_X1_untilOf
set_option maxRecDepth 20000 in
theorem ggX2_isSame_X1_groundAt : GoodIn wsX2_isSame wsX1_groundAt := goodIn_ca (goodIn_r _ [117, 18, 96, 97, 98, 16, 99, 100, 101, 152, 153, 154, 155, 156, 157, 158, 159, 160, 161, 162, 163, 164, 165, 166, 167, 168, 169] (by decide +kernel) (by decide +kernel)) (goodIn_sub (fun _ h => List.mem_cons_of_mem _ (List.mem_append_left _ (List.mem_append_right _ h))) (by decide +kernel))
set_option maxRecDepth 20000 in
theorem gX2_isSame_X1_groundAt : GoodIn wsX2_isSame (wsV RX2 87 RX1 yX1_groundAt wsX1_groundAt) := goodIn_app (goodIn_of _ (by decide +kernel)) ggX2_isSame_X1_groundAt
set_option maxRecDepth 20000 in
theorem ggX2_isSame_X1_placeOf : GoodIn wsX2_isSame wsX1_placeOf := goodIn_ca (goodIn_r _ [121, 18, 96, 97, 98, 16, 99, 100, 101, 122, 65, 66, 38, 67, 68, 123, 124, 125, 126, 62, 64, 69, 70, 71, 72, 73, 74, 152, 153, 154, 155, 156, 157, 158, 159, 160, 161, 162, 163, 164, 165, 166, 167, 168, 169] (by decide +kernel) (by decide +kernel)) (goodIn_sub (fun _ h => List.mem_cons_of_mem _ (List.mem_append_left _ (List.mem_append_right _ h))) (by decide +kernel))
set_option maxRecDepth 20000 in
theorem gX2_isSame_X1_placeOf : GoodIn wsX2_isSame (wsV RX2 90 RX1 yX1_placeOf wsX1_placeOf) := goodIn_app (goodIn_of _ (by decide +kernel)) ggX2_isSame_X1_placeOf
set_option maxRecDepth 20000 in
theorem ggX2_isSame_X1_sackOn : GoodIn wsX2_isSame wsX1_sackOn := goodIn_ca (goodIn_r _ [130, 100, 101, 18, 152, 153, 154, 155, 156, 157, 158, 159, 160, 161, 162, 163, 164, 165, 166, 167, 168, 169] (by decide +kernel) (by decide +kernel)) (goodIn_sub (fun _ h => List.mem_cons_of_mem _ (List.mem_append_left _ (List.mem_append_right _ h))) (by decide +kernel))
set_option maxRecDepth 20000 in
theorem gX2_isSame_X1_sackOn : GoodIn wsX2_isSame (wsV RX2 93 RX1 yX1_sackOn wsX1_sackOn) := goodIn_app (goodIn_of _ (by decide +kernel)) ggX2_isSame_X1_sackOn
set_option maxRecDepth 20000 in
theorem ggX2_isSame_X1_leftFor : GoodIn wsX2_isSame wsX1_leftFor := goodIn_ca (goodIn_r _ [134, 18, 135, 136, 16, 137, 138, 139, 152, 153, 154, 155, 156, 157, 158, 159, 160, 161, 162, 163, 164, 165, 166, 167, 168, 169] (by decide +kernel) (by decide +kernel)) (goodIn_sub (fun _ h => List.mem_cons_of_mem _ (List.mem_append_right _ h)) (by decide +kernel))
set_option maxRecDepth 20000 in
theorem gX2_isSame_X1_leftFor : GoodIn wsX2_isSame (wsV RX2 96 RX1 yX1_leftFor wsX1_leftFor) := goodIn_app (goodIn_of _ (by decide +kernel)) ggX2_isSame_X1_leftFor
set_option maxRecDepth 20000 in
theorem ggX2_isSame_X1_meanLeft : GoodIn wsX2_isSame wsX1_meanLeft := goodIn_r _ [143, 18, 152, 153, 154, 155, 156, 157, 158, 159, 160, 161, 162, 163, 164, 165, 166, 167, 168, 169] (by decide +kernel) (by decide +kernel)
set_option maxRecDepth 20000 in
theorem gX2_isSame_X1_meanLeft : GoodIn wsX2_isSame (wsV RX2 99 RX1 yX1_meanLeft wsX1_meanLeft) := goodIn_app (goodIn_of _ (by decide +kernel)) ggX2_isSame_X1_meanLeft
theorem dX2_isSame_0 : decode cX2_isSame 0 = .ok (.aload_n 0, 1) := by decide +kernel
theorem dX2_isSame_1 : decode cX2_isSame 1 = .ok (.invokevirtual 25, 3) := by decide +kernel
theorem dX2_isSame_4 : decode cX2_isSame 4 = .ok (.astore_n 2, 1) := by decide +kernel
theorem dX2_isSame_5 : decode cX2_isSame 5 = .ok (.aload_n 0, 1) := by decide +kernel
theorem dX2_isSame_6 : decode cX2_isSame 6 = .ok (.getfield 18, 3) := by decide +kernel
theorem dX2_isSame_9 : decode cX2_isSame 9 = .ok (.arraylength, 1) := by decide +kernel
theorem dX2_isSame_10 : decode cX2_isSame 10 = .ok (.istore_n 3, 1) := by decide +kernel
theorem dX2_isSame_11 : decode cX2_isSame 11 = .ok (.aload_n 1, 1) := by decide +kernel
theorem dX2_isSame_12 : decode cX2_isSame 12 = .ok (.invokevirtual 54, 3) := by decide +kernel
theorem dX2_isSame_15 : decode cX2_isSame 15 = .ok (.aload_n 0, 1) := by decide +kernel
theorem dX2_isSame_16 : decode cX2_isSame 16 = .ok (.getfield 33, 3) := by decide +kernel
theorem dX2_isSame_19 : decode cX2_isSame 19 = .ok (.if_icmp .ne 106, 3) := by decide +kernel
theorem dX2_isSame_22 : decode cX2_isSame 22 = .ok (.aload_n 1, 1) := by decide +kernel
theorem dX2_isSame_23 : decode cX2_isSame 23 = .ok (.invokevirtual 59, 3) := by decide +kernel
theorem dX2_isSame_26 : decode cX2_isSame 26 = .ok (.aload_n 0, 1) := by decide +kernel
theorem dX2_isSame_27 : decode cX2_isSame 27 = .ok (.getfield 14, 3) := by decide +kernel
theorem dX2_isSame_30 : decode cX2_isSame 30 = .ok (.arraylength, 1) := by decide +kernel
theorem dX2_isSame_31 : decode cX2_isSame 31 = .ok (.if_icmp .ne 94, 3) := by decide +kernel
theorem dX2_isSame_34 : decode cX2_isSame 34 = .ok (.aload_n 1, 1) := by decide +kernel
theorem dX2_isSame_35 : decode cX2_isSame 35 = .ok (.invokevirtual 61, 3) := by decide +kernel
theorem dX2_isSame_38 : decode cX2_isSame 38 = .ok (.iload_n 3, 1) := by decide +kernel
theorem dX2_isSame_39 : decode cX2_isSame 39 = .ok (.if_icmp .ne 86, 3) := by decide +kernel
theorem dX2_isSame_42 : decode cX2_isSame 42 = .ok (.aload_n 1, 1) := by decide +kernel
theorem dX2_isSame_43 : decode cX2_isSame 43 = .ok (.invokevirtual 63, 3) := by decide +kernel
theorem dX2_isSame_46 : decode cX2_isSame 46 = .ok (.aload_n 0, 1) := by decide +kernel
theorem dX2_isSame_47 : decode cX2_isSame 47 = .ok (.getfield 21, 3) := by decide +kernel
theorem dX2_isSame_50 : decode cX2_isSame 50 = .ok (.if_icmp .ne 75, 3) := by decide +kernel
theorem dX2_isSame_53 : decode cX2_isSame 53 = .ok (.aload_n 1, 1) := by decide +kernel
theorem dX2_isSame_54 : decode cX2_isSame 54 = .ok (.invokevirtual 65, 3) := by decide +kernel
theorem dX2_isSame_57 : decode cX2_isSame 57 = .ok (.aload_n 0, 1) := by decide +kernel
theorem dX2_isSame_58 : decode cX2_isSame 58 = .ok (.getfield 7, 3) := by decide +kernel
theorem dX2_isSame_61 : decode cX2_isSame 61 = .ok (.aload_n 0, 1) := by decide +kernel
theorem dX2_isSame_62 : decode cX2_isSame 62 = .ok (.getfield 33, 3) := by decide +kernel
theorem dX2_isSame_65 : decode cX2_isSame 65 = .ok (.bipush 12, 2) := by decide +kernel
theorem dX2_isSame_67 : decode cX2_isSame 67 = .ok (.irem, 1) := by decide +kernel
theorem dX2_isSame_68 : decode cX2_isSame 68 = .ok (.iaload, 1) := by decide +kernel
theorem dX2_isSame_69 : decode cX2_isSame 69 = .ok (.if_icmp .ne 56, 3) := by decide +kernel
theorem dX2_isSame_72 : decode cX2_isSame 72 = .ok (.aload_n 1, 1) := by decide +kernel
theorem dX2_isSame_73 : decode cX2_isSame 73 = .ok (.invokevirtual 67, 3) := by decide +kernel
theorem dX2_isSame_76 : decode cX2_isSame 76 = .ok (.aload_n 0, 1) := by decide +kernel
theorem dX2_isSame_77 : decode cX2_isSame 77 = .ok (.getfield 40, 3) := by decide +kernel
theorem dX2_isSame_80 : decode cX2_isSame 80 = .ok (.if_icmp .ne 45, 3) := by decide +kernel
theorem dX2_isSame_83 : decode cX2_isSame 83 = .ok (.aload_n 1, 1) := by decide +kernel
theorem dX2_isSame_84 : decode cX2_isSame 84 = .ok (.invokevirtual 69, 3) := by decide +kernel
theorem dX2_isSame_87 : decode cX2_isSame 87 = .ok (.iload_n 3, 1) := by decide +kernel
theorem dX2_isSame_88 : decode cX2_isSame 88 = .ok (.aload_n 2, 1) := by decide +kernel
theorem dX2_isSame_89 : decode cX2_isSame 89 = .ok (.arraylength, 1) := by decide +kernel
theorem dX2_isSame_90 : decode cX2_isSame 90 = .ok (.isub, 1) := by decide +kernel
theorem dX2_isSame_91 : decode cX2_isSame 91 = .ok (.if_icmp .ne 34, 3) := by decide +kernel
theorem dX2_isSame_94 : decode cX2_isSame 94 = .ok (.aload_n 1, 1) := by decide +kernel
theorem dX2_isSame_95 : decode cX2_isSame 95 = .ok (.invokevirtual 72, 3) := by decide +kernel
theorem dX2_isSame_98 : decode cX2_isSame 98 = .ok (.aload_n 2, 1) := by decide +kernel
theorem dX2_isSame_99 : decode cX2_isSame 99 = .ok (.arraylength, 1) := by decide +kernel
theorem dX2_isSame_100 : decode cX2_isSame 100 = .ok (.ifCond .ne 7, 3) := by decide +kernel
theorem dX2_isSame_103 : decode cX2_isSame 103 = .ok (.iconst (-1), 1) := by decide +kernel
theorem dX2_isSame_104 : decode cX2_isSame 104 = .ok (.goto 6, 3) := by decide +kernel
theorem dX2_isSame_107 : decode cX2_isSame 107 = .ok (.aload_n 2, 1) := by decide +kernel
theorem dX2_isSame_108 : decode cX2_isSame 108 = .ok (.iconst 0, 1) := by decide +kernel
theorem dX2_isSame_109 : decode cX2_isSame 109 = .ok (.iaload, 1) := by decide +kernel
theorem dX2_isSame_110 : decode cX2_isSame 110 = .ok (.if_icmp .ne 15, 3) := by decide +kernel
theorem dX2_isSame_113 : decode cX2_isSame 113 = .ok (.aload_n 1, 1) := by decide +kernel
theorem dX2_isSame_114 : decode cX2_isSame 114 = .ok (.invokevirtual 75, 3) := by decide +kernel
theorem dX2_isSame_117 : decode cX2_isSame 117 = .ok (.aload_n 0, 1) := by decide +kernel
theorem dX2_isSame_118 : decode cX2_isSame 118 = .ok (.iconst 0, 1) := by decide +kernel
theorem dX2_isSame_119 : decode cX2_isSame 119 = .ok (.invokevirtual 78, 3) := by decide +kernel
theorem dX2_isSame_122 : decode cX2_isSame 122 = .ok (.if_icmp .eq 5, 3) := by decide +kernel
theorem dX2_isSame_125 : decode cX2_isSame 125 = .ok (.iconst 0, 1) := by decide +kernel
theorem dX2_isSame_126 : decode cX2_isSame 126 = .ok (.ireturn, 1) := by decide +kernel
theorem dX2_isSame_127 : decode cX2_isSame 127 = .ok (.iconst 0, 1) := by decide +kernel
theorem dX2_isSame_128 : decode cX2_isSame 128 = .ok (.istore 4, 2) := by decide +kernel
theorem dX2_isSame_130 : decode cX2_isSame 130 = .ok (.iload_n 3, 1) := by decide +kernel
theorem dX2_isSame_131 : decode cX2_isSame 131 = .ok (.newarray .int, 2) := by decide +kernel
theorem dX2_isSame_133 : decode cX2_isSame 133 = .ok (.astore 5, 2) := by decide +kernel
theorem dX2_isSame_135 : decode cX2_isSame 135 = .ok (.iconst 0, 1) := by decide +kernel
theorem dX2_isSame_136 : decode cX2_isSame 136 = .ok (.istore 6, 2) := by decide +kernel
theorem dX2_isSame_138 : decode cX2_isSame 138 = .ok (.iload 6, 2) := by decide +kernel
theorem dX2_isSame_140 : decode cX2_isSame 140 = .ok (.iload_n 3, 1) := by decide +kernel
theorem dX2_isSame_141 : decode cX2_isSame 141 = .ok (.if_icmp .ge 15, 3) := by decide +kernel
theorem dX2_isSame_144 : decode cX2_isSame 144 = .ok (.aload 5, 2) := by decide +kernel
theorem dX2_isSame_146 : decode cX2_isSame 146 = .ok (.iload 6, 2) := by decide +kernel
theorem dX2_isSame_148 : decode cX2_isSame 148 = .ok (.iconst (-1), 1) := by decide +kernel
theorem dX2_isSame_149 : decode cX2_isSame 149 = .ok (.iastore, 1) := by decide +kernel
theorem dX2_isSame_150 : decode cX2_isSame 150 = .ok (.iinc 6 1, 3) := by decide +kernel
theorem dX2_isSame_153 : decode cX2_isSame 153 = .ok (.goto (-15), 3) := by decide +kernel
theorem dX2_isSame_156 : decode cX2_isSame 156 = .ok (.iconst 0, 1) := by decide +kernel
theorem dX2_isSame_157 : decode cX2_isSame 157 = .ok (.istore 6, 2) := by decide +kernel
theorem dX2_isSame_159 : decode cX2_isSame 159 = .ok (.iload 6, 2) := by decide +kernel
theorem dX2_isSame_161 : decode cX2_isSame 161 = .ok (.aload_n 2, 1) := by decide +kernel
theorem dX2_isSame_162 : decode cX2_isSame 162 = .ok (.arraylength, 1) := by decide +kernel
theorem dX2_isSame_163 : decode cX2_isSame 163 = .ok (.if_icmp .ge 18, 3) := by decide +kernel
theorem dX2_isSame_166 : decode cX2_isSame 166 = .ok (.aload 5, 2) := by decide +kernel
theorem dX2_isSame_168 : decode cX2_isSame 168 = .ok (.aload_n 2, 1) := by decide +kernel
theorem dX2_isSame_169 : decode cX2_isSame 169 = .ok (.iload 6, 2) := by decide +kernel
theorem dX2_isSame_171 : decode cX2_isSame 171 = .ok (.iaload, 1) := by decide +kernel
theorem dX2_isSame_172 : decode cX2_isSame 172 = .ok (.iload 6, 2) := by decide +kernel
theorem dX2_isSame_174 : decode cX2_isSame 174 = .ok (.iastore, 1) := by decide +kernel
theorem dX2_isSame_175 : decode cX2_isSame 175 = .ok (.iinc 6 1, 3) := by decide +kernel
theorem dX2_isSame_178 : decode cX2_isSame 178 = .ok (.goto (-19), 3) := by decide +kernel
theorem dX2_isSame_181 : decode cX2_isSame 181 = .ok (.bipush 8, 2) := by decide +kernel
theorem dX2_isSame_183 : decode cX2_isSame 183 = .ok (.newarray .int, 2) := by decide +kernel
theorem dX2_isSame_185 : decode cX2_isSame 185 = .ok (.astore 6, 2) := by decide +kernel
theorem dX2_isSame_187 : decode cX2_isSame 187 = .ok (.iconst 0, 1) := by decide +kernel
theorem dX2_isSame_188 : decode cX2_isSame 188 = .ok (.istore 7, 2) := by decide +kernel
theorem dX2_isSame_190 : decode cX2_isSame 190 = .ok (.iload 7, 2) := by decide +kernel
theorem dX2_isSame_192 : decode cX2_isSame 192 = .ok (.iload_n 3, 1) := by decide +kernel
theorem dX2_isSame_193 : decode cX2_isSame 193 = .ok (.if_icmp .ge 111, 3) := by decide +kernel
theorem dX2_isSame_196 : decode cX2_isSame 196 = .ok (.aload_n 0, 1) := by decide +kernel
theorem dX2_isSame_197 : decode cX2_isSame 197 = .ok (.getfield 18, 3) := by decide +kernel
theorem dX2_isSame_200 : decode cX2_isSame 200 = .ok (.iload 7, 2) := by decide +kernel
theorem dX2_isSame_202 : decode cX2_isSame 202 = .ok (.aaload, 1) := by decide +kernel
theorem dX2_isSame_203 : decode cX2_isSame 203 = .ok (.astore 8, 2) := by decide +kernel
theorem dX2_isSame_205 : decode cX2_isSame 205 = .ok (.iload 4, 2) := by decide +kernel
theorem dX2_isSame_207 : decode cX2_isSame 207 = .ok (.aload 8, 2) := by decide +kernel
theorem dX2_isSame_209 : decode cX2_isSame 209 = .ok (.iconst 1, 1) := by decide +kernel
theorem dX2_isSame_210 : decode cX2_isSame 210 = .ok (.iaload, 1) := by decide +kernel
theorem dX2_isSame_211 : decode cX2_isSame 211 = .ok (.iadd, 1) := by decide +kernel
theorem dX2_isSame_212 : decode cX2_isSame 212 = .ok (.istore 4, 2) := by decide +kernel
theorem dX2_isSame_214 : decode cX2_isSame 214 = .ok (.aload 6, 2) := by decide +kernel
theorem dX2_isSame_216 : decode cX2_isSame 216 = .ok (.aload 8, 2) := by decide +kernel
theorem dX2_isSame_218 : decode cX2_isSame 218 = .ok (.iconst 0, 1) := by decide +kernel
theorem dX2_isSame_219 : decode cX2_isSame 219 = .ok (.iaload, 1) := by decide +kernel
theorem dX2_isSame_220 : decode cX2_isSame 220 = .ok (.dup2, 1) := by decide +kernel
theorem dX2_isSame_221 : decode cX2_isSame 221 = .ok (.iaload, 1) := by decide +kernel
theorem dX2_isSame_222 : decode cX2_isSame 222 = .ok (.aload 8, 2) := by decide +kernel
theorem dX2_isSame_224 : decode cX2_isSame 224 = .ok (.iconst 1, 1) := by decide +kernel
theorem dX2_isSame_225 : decode cX2_isSame 225 = .ok (.iaload, 1) := by decide +kernel
theorem dX2_isSame_226 : decode cX2_isSame 226 = .ok (.iadd, 1) := by decide +kernel
theorem dX2_isSame_227 : decode cX2_isSame 227 = .ok (.iastore, 1) := by decide +kernel
theorem dX2_isSame_228 : decode cX2_isSame 228 = .ok (.aload_n 1, 1) := by decide +kernel
theorem dX2_isSame_229 : decode cX2_isSame 229 = .ok (.iload 7, 2) := by decide +kernel
theorem dX2_isSame_231 : decode cX2_isSame 231 = .ok (.invokevirtual 80, 3) := by decide +kernel
theorem dX2_isSame_234 : decode cX2_isSame 234 = .ok (.aload_n 0, 1) := by decide +kernel
theorem dX2_isSame_235 : decode cX2_isSame 235 = .ok (.iload 7, 2) := by decide +kernel
theorem dX2_isSame_237 : decode cX2_isSame 237 = .ok (.invokevirtual 36, 3) := by decide +kernel
theorem dX2_isSame_240 : decode cX2_isSame 240 = .ok (.if_icmp .ne 56, 3) := by decide +kernel
theorem dX2_isSame_243 : decode cX2_isSame 243 = .ok (.aload_n 1, 1) := by decide +kernel
theorem dX2_isSame_244 : decode cX2_isSame 244 = .ok (.iload 7, 2) := by decide +kernel
theorem dX2_isSame_246 : decode cX2_isSame 246 = .ok (.invokevirtual 81, 3) := by decide +kernel
theorem dX2_isSame_249 : decode cX2_isSame 249 = .ok (.aload 8, 2) := by decide +kernel
theorem dX2_isSame_251 : decode cX2_isSame 251 = .ok (.iconst 1, 1) := by decide +kernel
theorem dX2_isSame_252 : decode cX2_isSame 252 = .ok (.iaload, 1) := by decide +kernel
theorem dX2_isSame_253 : decode cX2_isSame 253 = .ok (.if_icmp .ne 43, 3) := by decide +kernel
theorem dX2_isSame_256 : decode cX2_isSame 256 = .ok (.aload_n 1, 1) := by decide +kernel
theorem dX2_isSame_257 : decode cX2_isSame 257 = .ok (.iload 7, 2) := by decide +kernel
theorem dX2_isSame_259 : decode cX2_isSame 259 = .ok (.invokevirtual 84, 3) := by decide +kernel
theorem dX2_isSame_262 : decode cX2_isSame 262 = .ok (.aload 8, 2) := by decide +kernel
theorem dX2_isSame_264 : decode cX2_isSame 264 = .ok (.iconst 2, 1) := by decide +kernel
theorem dX2_isSame_265 : decode cX2_isSame 265 = .ok (.iaload, 1) := by decide +kernel
theorem dX2_isSame_266 : decode cX2_isSame 266 = .ok (.if_icmp .ne 30, 3) := by decide +kernel
theorem dX2_isSame_269 : decode cX2_isSame 269 = .ok (.aload_n 1, 1) := by decide +kernel
theorem dX2_isSame_270 : decode cX2_isSame 270 = .ok (.iload 7, 2) := by decide +kernel
theorem dX2_isSame_272 : decode cX2_isSame 272 = .ok (.invokevirtual 87, 3) := by decide +kernel
theorem dX2_isSame_275 : decode cX2_isSame 275 = .ok (.aload 8, 2) := by decide +kernel
theorem dX2_isSame_277 : decode cX2_isSame 277 = .ok (.iconst 3, 1) := by decide +kernel
theorem dX2_isSame_278 : decode cX2_isSame 278 = .ok (.iaload, 1) := by decide +kernel
theorem dX2_isSame_279 : decode cX2_isSame 279 = .ok (.if_icmp .ne 17, 3) := by decide +kernel
theorem dX2_isSame_282 : decode cX2_isSame 282 = .ok (.aload_n 1, 1) := by decide +kernel
theorem dX2_isSame_283 : decode cX2_isSame 283 = .ok (.iload 7, 2) := by decide +kernel
theorem dX2_isSame_285 : decode cX2_isSame 285 = .ok (.invokevirtual 90, 3) := by decide +kernel
theorem dX2_isSame_288 : decode cX2_isSame 288 = .ok (.aload 5, 2) := by decide +kernel
theorem dX2_isSame_290 : decode cX2_isSame 290 = .ok (.iload 7, 2) := by decide +kernel
theorem dX2_isSame_292 : decode cX2_isSame 292 = .ok (.iaload, 1) := by decide +kernel
theorem dX2_isSame_293 : decode cX2_isSame 293 = .ok (.if_icmp .eq 5, 3) := by decide +kernel
theorem dX2_isSame_296 : decode cX2_isSame 296 = .ok (.iconst 0, 1) := by decide +kernel
theorem dX2_isSame_297 : decode cX2_isSame 297 = .ok (.ireturn, 1) := by decide +kernel
theorem dX2_isSame_298 : decode cX2_isSame 298 = .ok (.iinc 7 1, 3) := by decide +kernel
theorem dX2_isSame_301 : decode cX2_isSame 301 = .ok (.goto (-111), 3) := by decide +kernel
theorem dX2_isSame_304 : decode cX2_isSame 304 = .ok (.iconst 0, 1) := by decide +kernel
theorem dX2_isSame_305 : decode cX2_isSame 305 = .ok (.istore 7, 2) := by decide +kernel
theorem dX2_isSame_307 : decode cX2_isSame 307 = .ok (.iload 7, 2) := by decide +kernel
theorem dX2_isSame_309 : decode cX2_isSame 309 = .ok (.aload_n 0, 1) := by decide +kernel
theorem dX2_isSame_310 : decode cX2_isSame 310 = .ok (.getfield 14, 3) := by decide +kernel
theorem dX2_isSame_313 : decode cX2_isSame 313 = .ok (.arraylength, 1) := by decide +kernel
theorem dX2_isSame_314 : decode cX2_isSame 314 = .ok (.if_icmp .ge 29, 3) := by decide +kernel
theorem dX2_isSame_317 : decode cX2_isSame 317 = .ok (.aload_n 1, 1) := by decide +kernel
theorem dX2_isSame_318 : decode cX2_isSame 318 = .ok (.iload 7, 2) := by decide +kernel
theorem dX2_isSame_320 : decode cX2_isSame 320 = .ok (.invokevirtual 93, 3) := by decide +kernel
theorem dX2_isSame_323 : decode cX2_isSame 323 = .ok (.aload_n 0, 1) := by decide +kernel
theorem dX2_isSame_324 : decode cX2_isSame 324 = .ok (.getfield 14, 3) := by decide +kernel
theorem dX2_isSame_327 : decode cX2_isSame 327 = .ok (.iload 7, 2) := by decide +kernel
theorem dX2_isSame_329 : decode cX2_isSame 329 = .ok (.aaload, 1) := by decide +kernel
theorem dX2_isSame_330 : decode cX2_isSame 330 = .ok (.iconst 1, 1) := by decide +kernel
theorem dX2_isSame_331 : decode cX2_isSame 331 = .ok (.iaload, 1) := by decide +kernel
theorem dX2_isSame_332 : decode cX2_isSame 332 = .ok (.if_icmp .eq 5, 3) := by decide +kernel
theorem dX2_isSame_335 : decode cX2_isSame 335 = .ok (.iconst 0, 1) := by decide +kernel
theorem dX2_isSame_336 : decode cX2_isSame 336 = .ok (.ireturn, 1) := by decide +kernel
theorem dX2_isSame_337 : decode cX2_isSame 337 = .ok (.iinc 7 1, 3) := by decide +kernel
theorem dX2_isSame_340 : decode cX2_isSame 340 = .ok (.goto (-33), 3) := by decide +kernel
theorem dX2_isSame_343 : decode cX2_isSame 343 = .ok (.iconst 0, 1) := by decide +kernel
theorem dX2_isSame_344 : decode cX2_isSame 344 = .ok (.istore 7, 2) := by decide +kernel
theorem dX2_isSame_346 : decode cX2_isSame 346 = .ok (.iload 7, 2) := by decide +kernel
theorem dX2_isSame_348 : decode cX2_isSame 348 = .ok (.bipush 8, 2) := by decide +kernel
theorem dX2_isSame_350 : decode cX2_isSame 350 = .ok (.if_icmp .ge 25, 3) := by decide +kernel
theorem dX2_isSame_353 : decode cX2_isSame 353 = .ok (.aload_n 1, 1) := by decide +kernel
theorem dX2_isSame_354 : decode cX2_isSame 354 = .ok (.iload 7, 2) := by decide +kernel
theorem dX2_isSame_356 : decode cX2_isSame 356 = .ok (.invokevirtual 96, 3) := by decide +kernel
theorem dX2_isSame_359 : decode cX2_isSame 359 = .ok (.aload 6, 2) := by decide +kernel
theorem dX2_isSame_361 : decode cX2_isSame 361 = .ok (.iload 7, 2) := by decide +kernel
theorem dX2_isSame_363 : decode cX2_isSame 363 = .ok (.iaload, 1) := by decide +kernel
theorem dX2_isSame_364 : decode cX2_isSame 364 = .ok (.if_icmp .eq 5, 3) := by decide +kernel
theorem dX2_isSame_367 : decode cX2_isSame 367 = .ok (.iconst 0, 1) := by decide +kernel
theorem dX2_isSame_368 : decode cX2_isSame 368 = .ok (.ireturn, 1) := by decide +kernel
theorem dX2_isSame_369 : decode cX2_isSame 369 = .ok (.iinc 7 1, 3) := by decide +kernel
theorem dX2_isSame_372 : decode cX2_isSame 372 = .ok (.goto (-26), 3) := by decide +kernel
theorem dX2_isSame_375 : decode cX2_isSame 375 = .ok (.aload_n 1, 1) := by decide +kernel
theorem dX2_isSame_376 : decode cX2_isSame 376 = .ok (.invokevirtual 99, 3) := by decide +kernel
theorem dX2_isSame_379 : decode cX2_isSame 379 = .ok (.aload_n 2, 1) := by decide +kernel
theorem dX2_isSame_380 : decode cX2_isSame 380 = .ok (.arraylength, 1) := by decide +kernel
theorem dX2_isSame_381 : decode cX2_isSame 381 = .ok (.ifCond .ne 7, 3) := by decide +kernel
theorem dX2_isSame_384 : decode cX2_isSame 384 = .ok (.dconst 0, 1) := by decide +kernel
theorem dX2_isSame_385 : decode cX2_isSame 385 = .ok (.goto 10, 3) := by decide +kernel
theorem dX2_isSame_388 : decode cX2_isSame 388 = .ok (.iload 4, 2) := by decide +kernel
theorem dX2_isSame_390 : decode cX2_isSame 390 = .ok (.i2d, 1) := by decide +kernel
theorem dX2_isSame_391 : decode cX2_isSame 391 = .ok (.aload_n 2, 1) := by decide +kernel
theorem dX2_isSame_392 : decode cX2_isSame 392 = .ok (.arraylength, 1) := by decide +kernel
theorem dX2_isSame_393 : decode cX2_isSame 393 = .ok (.i2d, 1) := by decide +kernel
theorem dX2_isSame_394 : decode cX2_isSame 394 = .ok (.ddiv, 1) := by decide +kernel
theorem dX2_isSame_395 : decode cX2_isSame 395 = .ok (.dcmp .l, 1) := by decide +kernel
theorem dX2_isSame_396 : decode cX2_isSame 396 = .ok (.ifCond .ne 7, 3) := by decide +kernel
theorem dX2_isSame_399 : decode cX2_isSame 399 = .ok (.iconst 1, 1) := by decide +kernel
theorem dX2_isSame_400 : decode cX2_isSame 400 = .ok (.goto 4, 3) := by decide +kernel
theorem dX2_isSame_403 : decode cX2_isSame 403 = .ok (.iconst 0, 1) := by decide +kernel
theorem dX2_isSame_404 : decode cX2_isSame 404 = .ok (.ireturn, 1) := by decide +kernel
end
section
/-! THE MILL AS A MATHEMATICAL VALUE: a store M of numbers, M k i; what class and reference compute, said once.
0 wind, 1 size, 3 fresh, 4 baker, 5 left, 6 until, 7 on (stone + 1, or 0), 8 done (hour + 1, or 0), 9 hour, 10 stones, 11 sacks, 13 changes, 14 rule, 15 taking off, 16 ground in all -/
abbrev gm_M : Type := Nat → Nat → Nat
def gm_set (M : gm_M) (k i v : Nat) : gm_M := fun k' i' => if k' = k ∧ i' = i then v else M k' i'
def gm_e (n : Nat) : Int32 := nI n + (-1)
def gm_b (P : Prop) [Decidable P] : Int32 := if P then 1 else 0
def gm_key (M : gm_M) (s : Nat) : Nat := if M 14 0 = 0 then 0 else if M 14 0 = 1 then M 6 s else M 5 s
def gm_trn (M : gm_M) (s : Nat) : Nat := 16 * gm_key M s + s
def gm_cnt (M : gm_M) (s : Nat) : Nat → Nat
  | 0 => 0
  | k + 1 => gm_cnt M s k + (if M 8 k = 0 ∧ gm_trn M k < gm_trn M s then 1 else 0)
def gm_nxt (M : gm_M) (f : Nat) : Nat → Nat
  | 0 => 0
  | k + 1 => if M 8 k = 0 ∧ (f = 0 ∨ M 7 k = 0) ∧ (gm_nxt M f k = 0 ∨ gm_trn M k < gm_trn M (gm_nxt M f k - 1)) then k + 1 else gm_nxt M f k
def gm_who (M : gm_M) (m : Nat) : Nat → Nat
  | 0 => 0
  | k + 1 => if gm_who M m k ≠ 0 then gm_who M m k else if M 7 k = m + 1 then k + 1 else 0
/-- taking off, of the first n sacks; of the first m stones -/
def gm_tkp (M : gm_M) (n : Nat) : gm_M := fun k i => if k = 7 ∧ i < n ∧ M 10 0 ≤ gm_cnt M i (M 11 0) then 0 else M k i
def gm_tkc (M : gm_M) (m : Nat) : gm_M := fun k i => if k = 7 ∧ M 7 i ≤ m ∧ M 10 0 ≤ gm_cnt M i (M 11 0) then 0 else M k i
def gm_clr (M : gm_M) (m : Nat) : gm_M := fun k i => if k = 7 ∧ M 7 i = m + 1 then 0 else M k i
def gm_fs (X : gm_M) (m : Nat) : gm_M :=
  if gm_who X m (X 11 0) = 0 then
    (if gm_nxt X 1 (X 11 0) = 0 then gm_set X 3 m 0 else gm_set (gm_set (gm_set X 7 (gm_nxt X 1 (X 11 0) - 1) (m + 1)) 13 0 (X 13 0 + 1)) 3 m 1)
  else gm_set X 3 m 0
def gm_fil (M : gm_M) : Nat → gm_M
  | 0 => M
  | m + 1 => gm_fs (gm_fil M m) m
def gm_amt (b : Nat) (X : gm_M) (m s : Nat) : Nat := min (min (X 1 m - X 3 m) (X 5 s)) (b - X 16 0)
def gm_gs (b : Nat) (X : gm_M) (m : Nat) : gm_M :=
  if gm_who X m (X 11 0) = 0 then X
  else gm_set (gm_set X 5 (gm_who X m (X 11 0) - 1) (X 5 (gm_who X m (X 11 0) - 1) - gm_amt b X m (gm_who X m (X 11 0) - 1))) 16 0 (X 16 0 + gm_amt b X m (gm_who X m (X 11 0) - 1))
def gm_grd (b : Nat) (M : gm_M) : Nat → gm_M
  | 0 => M
  | m + 1 => gm_gs b (gm_grd b M m) m
/-- the sacks of which nothing is left leave their stones, of the first n sacks; of the first m stones -/
def gm_fnp (X : gm_M) (n : Nat) : gm_M := fun k i => if (k = 8 ∨ k = 7) ∧ i < n ∧ X 7 i ≠ 0 ∧ X 5 i = 0 then (if k = 8 then X 9 0 + 1 else 0) else X k i
def gm_fnc (X : gm_M) (m : Nat) : gm_M := fun k i => if (k = 8 ∨ k = 7) ∧ X 7 i ≠ 0 ∧ X 7 i ≤ m ∧ X 5 i = 0 then (if k = 8 then X 9 0 + 1 else 0) else X k i
def gm_tk (M : gm_M) : gm_M := if M 15 0 = 0 then M else gm_tkp M (M 11 0)
def gm_wnd (M : gm_M) : Nat := M 0 (M 9 0 % 12)
def gm_inc (M : gm_M) : gm_M := gm_set M 9 0 (M 9 0 + 1)
def gm_h1 (M : gm_M) : gm_M := gm_fil (gm_tk M) (M 10 0)
def gm_h2 (M : gm_M) : gm_M := gm_grd (M 16 0 + gm_wnd M) (gm_h1 M) (M 10 0)
def gm_hour (M : gm_M) : gm_M := gm_fnp (gm_inc (gm_h2 M)) (M 11 0)
def gm_hrs (M : gm_M) : Nat → gm_M
  | 0 => M
  | n + 1 => gm_hour (gm_hrs M n)
/-- how many are ground -/
def gm_gct (M : gm_M) : Nat → Nat
  | 0 => 0
  | k + 1 => gm_gct M k + (if M 8 k = 0 then 0 else 1)
def gm_late (M : gm_M) (o : Nat) : Nat → Nat
  | 0 => 0
  | k + 1 => gm_late M o k + (if M 8 k = 0 then o else M 8 k - 1 - M 6 k)
def gm_rst (M : gm_M) (b : Nat) : Nat → Nat
  | 0 => 0
  | k + 1 => gm_rst M b k + (if M 4 k = b then M 5 k else 0)
def gm_sum (M : gm_M) : Nat → Nat
  | 0 => 0
  | k + 1 => gm_sum M k + M 5 k
def gm_wf (M : gm_M) : Prop := M 10 0 ≤ 4 ∧ M 11 0 ≤ 16 ∧ M 14 0 ≤ 2 ∧ M 15 0 ≤ 1 ∧ (∀ i, i < 12 → M 0 i ≤ 20) ∧ (∀ i, i < M 10 0 → 1 ≤ M 1 i ∧ M 1 i ≤ 9) ∧
  (∀ i, i < M 11 0 → M 4 i ≤ 7 ∧ M 5 i ≤ 60 ∧ 1 ≤ M 6 i ∧ M 6 i ≤ 200 ∧ M 7 i ≤ M 10 0 ∧ (M 8 i ≠ 0 → M 7 i = 0 ∧ M 5 i = 0) ∧ M 8 i ≤ M 9 0 + 1) ∧
  (∀ i j, i < M 11 0 → j < M 11 0 → M 7 i = M 7 j → M 7 i ≠ 0 → i = j)
/-- between hours: of every sack that is not ground something is left; within one: or it lies on a stone -/
def gm_rest (M : gm_M) : Prop := ∀ i, i < M 11 0 → M 5 i = 0 → M 8 i ≠ 0
def gm_mid (M : gm_M) : Prop := ∀ i, i < M 11 0 → M 5 i = 0 → M 8 i ≠ 0 ∨ M 7 i ≠ 0
/-! small numbers as ints -/
theorem gm_e0 : gm_e 0 = -1 := rfl
theorem gm_eS (n : Nat) : gm_e (n + 1) = nI n := pk_m1 n
theorem gm_e_toInt {n : Nat} (h : n < 2 ^ 31) : (gm_e n).toInt = (n : Int) - 1 := by
  cases n with
  | zero => rfl
  | succ n => rw [gm_eS, nI_toInt (by omega)]; omega
theorem gm_e_inj {a b : Nat} (ha : a < 2 ^ 31) (hb : b < 2 ^ 31) : gm_e a = gm_e b ↔ a = b := by
  constructor
  · intro h
    have := congrArg Int32.toInt h
    rw [gm_e_toInt ha, gm_e_toInt hb] at this
    omega
  · intro h; rw [h]
theorem gm_e_none {a : Nat} (ha : a < 2 ^ 31) : gm_e a = -1 ↔ a = 0 := gm_e_inj ha (by decide) (b := 0)
theorem gm_e_pred {a : Nat} (h : a ≠ 0) : gm_e a = nI (a - 1) := by
  obtain ⟨b, rfl⟩ : ∃ b, a = b + 1 := ⟨a - 1, by omega⟩
  rw [gm_eS]; rfl
theorem gm_b1 {P : Prop} [Decidable P] (h : P) : gm_b P = 1 := if_pos h
theorem gm_b0 {P : Prop} [Decidable P] (h : ¬ P) : gm_b P = 0 := if_neg h
theorem gm_b01 (P : Prop) [Decidable P] : gm_b P = 0 ∨ gm_b P = 1 := by
  by_cases h : P
  · exact Or.inr (if_pos h)
  · exact Or.inl (if_neg h)
theorem gm_b_ne {P : Prop} [Decidable P] : (¬ gm_b P = 0) ↔ P := by
  by_cases h : P
  · rw [gm_b1 h]; exact ⟨fun _ => h, fun _ => by decide⟩
  · rw [gm_b0 h]; exact ⟨fun q => absurd rfl q, fun q => absurd q h⟩
theorem gm_b_eq {P : Prop} [Decidable P] : gm_b P = 0 ↔ ¬ P := by
  by_cases h : P
  · rw [gm_b1 h]; exact ⟨fun q => absurd q (by decide), fun q => absurd h q⟩
  · rw [gm_b0 h]; exact ⟨fun _ => h, fun _ => rfl⟩
theorem gm_0 {n : Nat} (h : n < 2 ^ 31) : nI n = 0 ↔ n = 0 := nI_eq h (by decide) (b := 0)
/-! stores -/
theorem gm_set_at (M : gm_M) (k i v : Nat) : gm_set M k i v k i = v := if_pos ⟨rfl, rfl⟩
theorem gm_set_ne (M : gm_M) {k i v k' i' : Nat} (h : ¬ (k' = k ∧ i' = i)) : gm_set M k i v k' i' = M k' i' := if_neg h
theorem gm_set_k (M : gm_M) {k i v k' : Nat} (i' : Nat) (h : k' ≠ k) : gm_set M k i v k' i' = M k' i' := if_neg (fun q => h q.1)
theorem gm_set_i (M : gm_M) (k : Nat) {i v i' : Nat} (h : i' ≠ i) : gm_set M k i v k i' = M k i' := if_neg (fun q => h q.2)
/-! what depends on what -/
theorem gm_key_congr {M X : gm_M} {s : Nat} (h14 : X 14 0 = M 14 0) (h5 : X 5 s = M 5 s) (h6 : X 6 s = M 6 s) : gm_key X s = gm_key M s := by
  unfold gm_key; rw [h14, h5, h6]
theorem gm_trn_congr {M X : gm_M} {s : Nat} (h14 : X 14 0 = M 14 0) (h5 : X 5 s = M 5 s) (h6 : X 6 s = M 6 s) : gm_trn X s = gm_trn M s := by
  unfold gm_trn; rw [gm_key_congr h14 h5 h6]
theorem gm_cnt_congr {M X : gm_M} {s : Nat} (h14 : X 14 0 = M 14 0) (hs : X 5 s = M 5 s ∧ X 6 s = M 6 s) : ∀ n : Nat, (∀ k, k < n → X 5 k = M 5 k ∧ X 6 k = M 6 k ∧ X 8 k = M 8 k) → gm_cnt X s n = gm_cnt M s n
  | 0, _ => rfl
  | n + 1, h => by
    have hn := h n (Nat.lt_succ_self n)
    show gm_cnt X s n + _ = gm_cnt M s n + _
    rw [gm_cnt_congr h14 hs n (fun k hk => h k (Nat.lt_succ_of_lt hk)), hn.2.2, gm_trn_congr h14 hn.1 hn.2.1, gm_trn_congr h14 hs.1 hs.2]
theorem gm_who_congr {M X : gm_M} {m : Nat} : ∀ n : Nat, (∀ k, k < n → X 7 k = M 7 k) → gm_who X m n = gm_who M m n
  | 0, _ => rfl
  | n + 1, h => by
    show (if gm_who X m n ≠ 0 then gm_who X m n else if X 7 n = m + 1 then n + 1 else 0) = (if gm_who M m n ≠ 0 then gm_who M m n else if M 7 n = m + 1 then n + 1 else 0)
    rw [gm_who_congr n (fun k hk => h k (Nat.lt_succ_of_lt hk)), h n (Nat.lt_succ_self n)]
theorem gm_gct_congr {M X : gm_M} : ∀ n : Nat, (∀ k, k < n → X 8 k = M 8 k) → gm_gct X n = gm_gct M n
  | 0, _ => rfl
  | n + 1, h => by
    show gm_gct X n + _ = gm_gct M n + _
    rw [gm_gct_congr n (fun k hk => h k (Nat.lt_succ_of_lt hk)), h n (Nat.lt_succ_self n)]
/-! who lies on a stone -/
theorem gm_who_le (M : gm_M) (m : Nat) : ∀ n : Nat, gm_who M m n ≤ n
  | 0 => Nat.le_refl 0
  | n + 1 => by
    have ih := gm_who_le M m n
    show (if gm_who M m n ≠ 0 then gm_who M m n else if M 7 n = m + 1 then n + 1 else 0) ≤ n + 1
    split
    · omega
    · split <;> omega
theorem gm_who_on {M : gm_M} {m : Nat} : ∀ n : Nat, gm_who M m n ≠ 0 → M 7 (gm_who M m n - 1) = m + 1
  | 0, h => absurd rfl h
  | n + 1, h => by
    have hu : gm_who M m (n + 1) = (if gm_who M m n ≠ 0 then gm_who M m n else if M 7 n = m + 1 then n + 1 else 0) := rfl
    by_cases h1 : gm_who M m n ≠ 0
    · rw [hu, if_pos h1]; exact gm_who_on n h1
    · by_cases h2 : M 7 n = m + 1
      · rw [hu, if_neg h1, if_pos h2]; exact h2
      · rw [hu, if_neg h1, if_neg h2] at h; exact absurd rfl h
theorem gm_who_no {M : gm_M} {m : Nat} : ∀ n : Nat, gm_who M m n = 0 → ∀ k, k < n → M 7 k ≠ m + 1
  | 0, _, k, hk => absurd hk (Nat.not_lt_zero k)
  | n + 1, h, k, hk => by
    have hu : gm_who M m (n + 1) = (if gm_who M m n ≠ 0 then gm_who M m n else if M 7 n = m + 1 then n + 1 else 0) := rfl
    by_cases h1 : gm_who M m n ≠ 0
    · rw [hu, if_pos h1] at h; exact absurd h h1
    · by_cases h2 : M 7 n = m + 1
      · rw [hu, if_neg h1, if_pos h2] at h; omega
      · rcases Nat.lt_succ_iff_lt_or_eq.mp hk with q | q
        · exact gm_who_no n (by omega) k q
        · rw [q]; exact h2
theorem gm_who_zero {M : gm_M} {m : Nat} : ∀ n : Nat, (∀ k, k < n → M 7 k ≠ m + 1) → gm_who M m n = 0
  | 0, _ => rfl
  | n + 1, h => by
    show (if gm_who M m n ≠ 0 then gm_who M m n else if M 7 n = m + 1 then n + 1 else 0) = 0
    rw [gm_who_zero n (fun k hk => h k (Nat.lt_succ_of_lt hk)), if_neg (fun q => q rfl), if_neg (h n (Nat.lt_succ_self n))]
/-- with the sacks apart: just the one that lies there -/
theorem gm_who_is {M : gm_M} {m n s : Nat} (hs : s < n) (h : M 7 s = m + 1) (hap : ∀ i, i < n → M 7 i = m + 1 → i = s) : gm_who M m n = s + 1 := by
  by_cases h0 : gm_who M m n = 0
  · exact absurd h (gm_who_no n h0 s hs)
  · have h1 := gm_who_on n h0
    have h2 := gm_who_le M m n
    have := hap (gm_who M m n - 1) (by omega) h1
    omega
/-! the next one -/
theorem gm_nxt_le (M : gm_M) (f : Nat) : ∀ n : Nat, gm_nxt M f n ≤ n
  | 0 => Nat.le_refl 0
  | n + 1 => by
    have ih := gm_nxt_le M f n
    show (if M 8 n = 0 ∧ (f = 0 ∨ M 7 n = 0) ∧ (gm_nxt M f n = 0 ∨ gm_trn M n < gm_trn M (gm_nxt M f n - 1)) then n + 1 else gm_nxt M f n) ≤ n + 1
    split <;> omega
theorem gm_nxt_ok {M : gm_M} {f : Nat} : ∀ n : Nat, gm_nxt M f n ≠ 0 → M 8 (gm_nxt M f n - 1) = 0 ∧ (f = 0 ∨ M 7 (gm_nxt M f n - 1) = 0)
  | 0, h => absurd rfl h
  | n + 1, h => by
    have hu : gm_nxt M f (n + 1) = (if M 8 n = 0 ∧ (f = 0 ∨ M 7 n = 0) ∧ (gm_nxt M f n = 0 ∨ gm_trn M n < gm_trn M (gm_nxt M f n - 1)) then n + 1 else gm_nxt M f n) := rfl
    by_cases h1 : M 8 n = 0 ∧ (f = 0 ∨ M 7 n = 0) ∧ (gm_nxt M f n = 0 ∨ gm_trn M n < gm_trn M (gm_nxt M f n - 1))
    · rw [hu, if_pos h1]; exact ⟨h1.1, h1.2.1⟩
    · rw [hu, if_neg h1] at h ⊢; exact gm_nxt_ok n h
/-! the class's cells, read as a mill -/
def gc_up (B : Nat → Nat → Int32) (k : Nat) (f : Nat → Int32) : Nat → Nat → Int32 := fun k' => if k' = k then f else B k'
theorem gc_up_at (B : Nat → Nat → Int32) (k : Nat) (f : Nat → Int32) : gc_up B k f k = f := if_pos rfl
theorem gc_up_ne (B : Nat → Nat → Int32) {k k' : Nat} (f : Nat → Int32) (h : k' ≠ k) : gc_up B k f k' = B k' := if_neg h
def gc_rep (F : Nat → Int32) (B : Nat → Nat → Int32) (M : gm_M) : Prop :=
  (F 9 = nI (M 9 0) ∧ F 10 = nI (M 10 0) ∧ F 11 = nI (M 11 0) ∧ F 12 = nI (gm_gct M (M 11 0)) ∧ F 13 = nI (M 13 0) ∧ F 14 = nI (M 14 0) ∧ F 15 = nI (M 15 0)) ∧
  (∀ i, i < 12 → B 0 i = nI (M 0 i)) ∧ (∀ i, i < M 10 0 → B 1 i = nI (M 1 i)) ∧ (∀ i, i < M 10 0 → B 2 i = gm_e (gm_who M i (M 11 0))) ∧
  (∀ i, i < M 11 0 → B 4 i = nI (M 4 i)) ∧ (∀ i, i < M 11 0 → B 5 i = nI (M 5 i)) ∧ (∀ i, i < M 11 0 → B 6 i = nI (M 6 i)) ∧ (∀ i, i < M 11 0 → B 7 i = gm_e (M 7 i)) ∧ (∀ i, i < M 11 0 → B 8 i = gm_e (M 8 i))
/-- alike in all that can be asked -/
def gm_same (M X : gm_M) : Prop := ∀ k i, (k < 3 ∨ 8 < k ∨ (3 < k ∧ i < M 11 0)) → X k i = M k i
theorem gc_rep_same {F : Nat → Int32} {B : Nat → Nat → Int32} {M X : gm_M} (h : gc_rep F B M) (hs : gm_same M X) : gc_rep F B X := by
  obtain ⟨⟨h9, h10, h11, h12, h13, h14, h15⟩, r0, r1, r2, r4, r5, r6, r7, r8⟩ := h
  have e11 : X 11 0 = M 11 0 := hs 11 0 (by omega)
  have e10 : X 10 0 = M 10 0 := hs 10 0 (by omega)
  refine ⟨⟨?_, ?_, ?_, ?_, ?_, ?_, ?_⟩, ?_, ?_, ?_, ?_, ?_, ?_, ?_, ?_⟩
  · rw [hs 9 0 (by omega)]; exact h9
  · rw [e10]; exact h10
  · rw [e11]; exact h11
  · rw [e11, gm_gct_congr (M := M) _ (fun k hk => hs 8 k (by omega))]; exact h12
  · rw [hs 13 0 (by omega)]; exact h13
  · rw [hs 14 0 (by omega)]; exact h14
  · rw [hs 15 0 (by omega)]; exact h15
  · intro i hi; rw [hs 0 i (by omega)]; exact r0 i hi
  · intro i hi; rw [e10] at hi; rw [hs 1 i (by omega)]; exact r1 i hi
  · intro i hi; rw [e10] at hi; rw [e11, gm_who_congr (M := M) _ (fun k hk => hs 7 k (by omega))]; exact r2 i hi
  · intro i hi; rw [e11] at hi; rw [hs 4 i (by omega)]; exact r4 i hi
  · intro i hi; rw [e11] at hi; rw [hs 5 i (by omega)]; exact r5 i hi
  · intro i hi; rw [e11] at hi; rw [hs 6 i (by omega)]; exact r6 i hi
  · intro i hi; rw [e11] at hi; rw [hs 7 i (by omega)]; exact r7 i hi
  · intro i hi; rw [e11] at hi; rw [hs 8 i (by omega)]; exact r8 i hi
theorem gm_wf_same {M X : gm_M} (h : gm_wf M) (hs : gm_same M X) : gm_wf X := by
  obtain ⟨w1, w2, w3, w4, w5, w6, w7, w8⟩ := h
  have e11 : X 11 0 = M 11 0 := hs 11 0 (by omega)
  have e10 : X 10 0 = M 10 0 := hs 10 0 (by omega)
  refine ⟨by rw [e10]; exact w1, by rw [e11]; exact w2, by rw [hs 14 0 (by omega)]; exact w3, by rw [hs 15 0 (by omega)]; exact w4, fun i hi => ?_, fun i hi => ?_, fun i hi => ?_, fun i j hi hj => ?_⟩
  · rw [hs 0 i (by omega)]; exact w5 i hi
  · rw [e10] at hi; rw [hs 1 i (by omega)]; exact w6 i hi
  · rw [e11] at hi; rw [hs 4 i (by omega), hs 5 i (by omega), hs 6 i (by omega), hs 7 i (by omega), hs 8 i (by omega), e10, hs 9 0 (by omega)]; exact w7 i hi
  · rw [e11] at hi hj; rw [hs 7 i (by omega), hs 7 j (by omega)]; exact w8 i j hi hj
theorem gm_rest_same {M X : gm_M} (h : gm_rest M) (hs : gm_same M X) : gm_rest X := by
  intro i hi
  rw [hs 11 0 (by omega)] at hi
  rw [hs 5 i (by omega), hs 8 i (by omega)]; exact h i hi
theorem gm_mid_same {M X : gm_M} (h : gm_mid M) (hs : gm_same M X) : gm_mid X := by
  intro i hi
  rw [hs 11 0 (by omega)] at hi
  rw [hs 5 i (by omega), hs 8 i (by omega), hs 7 i (by omega)]; exact h i hi
/-! one stone's sack is taken off -/
theorem gm_clr_ne (M : gm_M) (m i : Nat) {k : Nat} (h : k ≠ 7) : gm_clr M m k i = M k i := if_neg (fun q => h q.1)
theorem gm_clr_7 (M : gm_M) (m i : Nat) : gm_clr M m 7 i = if M 7 i = m + 1 then 0 else M 7 i := by
  show (if (7 : Nat) = 7 ∧ M 7 i = m + 1 then 0 else M 7 i) = _
  by_cases h : M 7 i = m + 1
  · rw [if_pos ⟨rfl, h⟩, if_pos h]
  · rw [if_neg (fun q => h q.2), if_neg h]
/-- who, when sacks are taken off stones: the stones that none is taken off -/
theorem gm_who_keep {M X : gm_M} {j : Nat} : ∀ n : Nat, (∀ k, k < n → (X 7 k = j + 1 ↔ M 7 k = j + 1)) → gm_who X j n = gm_who M j n
  | 0, _ => rfl
  | n + 1, h => by
    show (if gm_who X j n ≠ 0 then gm_who X j n else if X 7 n = j + 1 then n + 1 else 0) = (if gm_who M j n ≠ 0 then gm_who M j n else if M 7 n = j + 1 then n + 1 else 0)
    rw [gm_who_keep n (fun k hk => h k (Nat.lt_succ_of_lt hk))]
    have := h n (Nat.lt_succ_self n)
    by_cases h1 : M 7 n = j + 1
    · rw [if_pos h1, if_pos (this.mpr h1)]
    · rw [if_neg h1, if_neg (fun q => h1 (this.mp q))]
theorem gc_rep_clr0 {F : Nat → Int32} {B : Nat → Nat → Int32} {M : gm_M} {m : Nat} (h : gc_rep F B M) (hw : gm_who M m (M 11 0) = 0) : gc_rep F B (gm_clr M m) := by
  refine gc_rep_same h (fun k i hk => ?_)
  by_cases h7 : k = 7
  · subst h7
    have := gm_who_no _ hw i (by omega)
    rw [gm_clr_7, if_neg this]
  · exact gm_clr_ne M m i h7
def gm_ap (M : gm_M) : Prop := ∀ i j, i < M 11 0 → j < M 11 0 → M 7 i = M 7 j → M 7 i ≠ 0 → i = j
theorem gc_rep_clr {F : Nat → Int32} {B : Nat → Nat → Int32} {M : gm_M} {m : Nat} (w8 : gm_ap M) (h : gc_rep F B M) (hm : m < M 10 0) (hw : gm_who M m (M 11 0) ≠ 0) :
    gc_rep F (gc_up (gc_up B 7 (upd (B 7) (gm_who M m (M 11 0) - 1) (-1))) 2 (upd (B 2) m (-1))) (gm_clr M m) := by
  obtain ⟨⟨h9, h10, h11, h12, h13, h14, h15⟩, r0, r1, r2, r4, r5, r6, r7, r8⟩ := h
  have hon := gm_who_on _ hw
  have hle := gm_who_le M m (M 11 0)
  have e : ∀ k i, k ≠ 7 → gm_clr M m k i = M k i := fun k i hk => gm_clr_ne M m i hk
  have e11 : gm_clr M m 11 0 = M 11 0 := e 11 0 (by decide)
  have e10 : gm_clr M m 10 0 = M 10 0 := e 10 0 (by decide)
  refine ⟨⟨?_, ?_, ?_, ?_, ?_, ?_, ?_⟩, ?_, ?_, ?_, ?_, ?_, ?_, ?_, ?_⟩
  · rw [e 9 0 (by decide)]; exact h9
  · rw [e10]; exact h10
  · rw [e11]; exact h11
  · rw [e11, gm_gct_congr (M := M) _ (fun k hk => e 8 k (by decide))]; exact h12
  · rw [e 13 0 (by decide)]; exact h13
  · rw [e 14 0 (by decide)]; exact h14
  · rw [e 15 0 (by decide)]; exact h15
  · intro i hi; rw [e 0 i (by decide)]; exact r0 i hi
  · intro i hi; rw [e10] at hi; rw [e 1 i (by decide)]; exact r1 i hi
  · intro i hi
    rw [e10] at hi
    rw [e11]
    show upd (B 2) m (-1) i = _
    by_cases hi2 : i = m
    · subst hi2
      rw [pk_us, gm_who_zero _ (fun k hk => ?_)]
      · rfl
      · rw [gm_clr_7]
        split
        · omega
        · assumption
    · rw [pk_un hi2, r2 i hi]
      refine congrArg gm_e (gm_who_keep _ (fun k hk => ?_)).symm
      rw [gm_clr_7]
      split
      · omega
      · exact Iff.rfl
  · intro i hi; rw [e11] at hi; rw [e 4 i (by decide)]; exact r4 i hi
  · intro i hi; rw [e11] at hi; rw [e 5 i (by decide)]; exact r5 i hi
  · intro i hi; rw [e11] at hi; rw [e 6 i (by decide)]; exact r6 i hi
  · intro i hi
    rw [e11] at hi
    show upd (B 7) (gm_who M m (M 11 0) - 1) (-1) i = _
    rw [gm_clr_7]
    by_cases hi2 : i = gm_who M m (M 11 0) - 1
    · rw [hi2, pk_us, if_pos hon]; rfl
    · rw [pk_un hi2, if_neg, r7 i hi]
      intro q
      exact hi2 (w8 i _ hi (by omega) (by rw [q, hon]) (by omega))
  · intro i hi; rw [e11] at hi; rw [e 8 i (by decide)]; exact r8 i hi
/-! taking off -/
theorem gm_wf_off {M X : gm_M} (wf : gm_wf M) (h : ∀ k i, k ≠ 7 → X k i = M k i) (h7 : ∀ i, X 7 i = 0 ∨ X 7 i = M 7 i) : gm_wf X := by
  obtain ⟨w1, w2, w3, w4, w5, w6, w7, w8⟩ := wf
  have e11 : X 11 0 = M 11 0 := h 11 0 (by decide)
  have e10 : X 10 0 = M 10 0 := h 10 0 (by decide)
  refine ⟨by rw [e10]; exact w1, by rw [e11]; exact w2, by rw [h 14 0 (by decide)]; exact w3, by rw [h 15 0 (by decide)]; exact w4, fun i hi => ?_, fun i hi => ?_, fun i hi => ?_, fun i j hi hj hij hn => ?_⟩
  · rw [h 0 i (by decide)]; exact w5 i hi
  · rw [e10] at hi; rw [h 1 i (by decide)]; exact w6 i hi
  · rw [e11] at hi
    rw [h 4 i (by decide), h 5 i (by decide), h 6 i (by decide), h 8 i (by decide), e10, h 9 0 (by decide)]
    obtain ⟨a1, a2, a3, a4, a5, a6, a7⟩ := w7 i hi
    have := h7 i
    exact ⟨a1, a2, a3, a4, by omega, fun q => ⟨by have := (a6 q).1; omega, (a6 q).2⟩, a7⟩
  · rw [e11] at hi hj
    have p1 := h7 i
    have p2 := h7 j
    exact w8 i j hi hj (by omega) (by omega)
theorem gm_rest_off {M X : gm_M} (h : gm_rest M) (e : ∀ k i, k ≠ 7 → X k i = M k i) : gm_rest X := by
  intro i hi
  rw [e 11 0 (by decide)] at hi
  rw [e 5 i (by decide), e 8 i (by decide)]
  exact h i hi
theorem gm_tkc_ne (M : gm_M) (m i : Nat) {k : Nat} (h : k ≠ 7) : gm_tkc M m k i = M k i := if_neg (fun q => h q.1)
theorem gm_tkp_ne (M : gm_M) (m i : Nat) {k : Nat} (h : k ≠ 7) : gm_tkp M m k i = M k i := if_neg (fun q => h q.1)
theorem gm_tkc_7 (M : gm_M) (m i : Nat) : gm_tkc M m 7 i = if M 7 i ≤ m ∧ M 10 0 ≤ gm_cnt M i (M 11 0) then 0 else M 7 i := by
  show (if (7 : Nat) = 7 ∧ M 7 i ≤ m ∧ M 10 0 ≤ gm_cnt M i (M 11 0) then 0 else M 7 i) = _
  by_cases h : M 7 i ≤ m ∧ M 10 0 ≤ gm_cnt M i (M 11 0)
  · rw [if_pos ⟨rfl, h⟩, if_pos h]
  · rw [if_neg (fun q => h q.2), if_neg h]
theorem gm_tkp_7 (M : gm_M) (n i : Nat) : gm_tkp M n 7 i = if i < n ∧ M 10 0 ≤ gm_cnt M i (M 11 0) then 0 else M 7 i := by
  show (if (7 : Nat) = 7 ∧ i < n ∧ M 10 0 ≤ gm_cnt M i (M 11 0) then 0 else M 7 i) = _
  by_cases h : i < n ∧ M 10 0 ≤ gm_cnt M i (M 11 0)
  · rw [if_pos ⟨rfl, h⟩, if_pos h]
  · rw [if_neg (fun q => h q.2), if_neg h]
theorem gm_tkc_wf {M : gm_M} (m : Nat) (wf : gm_wf M) : gm_wf (gm_tkc M m) := gm_wf_off wf (fun k i h => gm_tkc_ne M m i h) (fun i => by rw [gm_tkc_7]; split <;> simp)
theorem gm_tkp_wf {M : gm_M} (m : Nat) (wf : gm_wf M) : gm_wf (gm_tkp M m) := gm_wf_off wf (fun k i h => gm_tkp_ne M m i h) (fun i => by rw [gm_tkp_7]; split <;> simp)
theorem gm_tkc_rest {M : gm_M} (m : Nat) (h : gm_rest M) : gm_rest (gm_tkc M m) := gm_rest_off h (fun k i h => gm_tkc_ne M m i h)
theorem gm_tkp_rest {M : gm_M} (m : Nat) (h : gm_rest M) : gm_rest (gm_tkp M m) := gm_rest_off h (fun k i h => gm_tkp_ne M m i h)
theorem gm_tkc_cnt (M : gm_M) (m i n : Nat) : gm_cnt (gm_tkc M m) i n = gm_cnt M i n :=
  gm_cnt_congr (gm_tkc_ne M m 0 (by decide)) ⟨gm_tkc_ne M m i (by decide), gm_tkc_ne M m i (by decide)⟩ n (fun k _ => ⟨gm_tkc_ne M m k (by decide), gm_tkc_ne M m k (by decide), gm_tkc_ne M m k (by decide)⟩)
theorem gm_tkp_cnt (M : gm_M) (m i n : Nat) : gm_cnt (gm_tkp M m) i n = gm_cnt M i n :=
  gm_cnt_congr (gm_tkp_ne M m 0 (by decide)) ⟨gm_tkp_ne M m i (by decide), gm_tkp_ne M m i (by decide)⟩ n (fun k _ => ⟨gm_tkp_ne M m k (by decide), gm_tkp_ne M m k (by decide), gm_tkp_ne M m k (by decide)⟩)
theorem gm_tkc_0 (M : gm_M) : gm_same M (gm_tkc M 0) := by
  intro k i _
  by_cases h7 : k = 7
  · subst h7
    rw [gm_tkc_7]
    split <;> omega
  · exact gm_tkc_ne M 0 i h7
theorem gm_tkc_who (M : gm_M) (m n : Nat) : gm_who (gm_tkc M m) m n = gm_who M m n :=
  gm_who_keep n (fun k _ => by rw [gm_tkc_7]; split <;> omega)
theorem gm_tkc_skip {M : gm_M} {m : Nat} (h : ∀ i, i < M 11 0 → M 7 i = m + 1 → gm_cnt M i (M 11 0) < M 10 0) : gm_same (gm_tkc M m) (gm_tkc M (m + 1)) := by
  intro k i hk
  rw [gm_tkc_ne M m 0 (by decide)] at hk
  by_cases h7 : k = 7
  · subst h7
    have := h i (by omega)
    rw [gm_tkc_7, gm_tkc_7]
    split <;> split <;> omega
  · rw [gm_tkc_ne M m i h7, gm_tkc_ne M _ i h7]
theorem gm_tkc_clr {M : gm_M} {m : Nat} (h : ∀ i, i < M 11 0 → M 7 i = m + 1 → M 10 0 ≤ gm_cnt M i (M 11 0)) : gm_same (gm_clr (gm_tkc M m) m) (gm_tkc M (m + 1)) := by
  intro k i hk
  rw [gm_clr_ne _ m 0 (by decide), gm_tkc_ne M m 0 (by decide)] at hk
  by_cases h7 : k = 7
  · subst h7
    have := h i (by omega)
    rw [gm_clr_7, gm_tkc_7, gm_tkc_7]
    split <;> split <;> split <;> omega
  · rw [gm_clr_ne _ m i h7, gm_tkc_ne M m i h7, gm_tkc_ne M _ i h7]
theorem gm_tkc_all {M : gm_M} (wf : gm_wf M) : gm_same (gm_tkc M (M 10 0)) (gm_tkp M (M 11 0)) := by
  intro k i hk
  rw [gm_tkc_ne M _ 0 (by decide)] at hk
  by_cases h7 : k = 7
  · subst h7
    have := (wf.2.2.2.2.2.2.1 i (by omega)).2.2.2.2.1
    rw [gm_tkc_7, gm_tkp_7]
    split <;> split <;> omega
  · rw [gm_tkc_ne M _ i h7, gm_tkp_ne M _ i h7]
theorem gm_tkp_0 (M : gm_M) : gm_tkp M 0 = M := by
  funext k i
  exact if_neg (fun q => absurd q.2.1 (Nat.not_lt_zero i))
theorem gm_tkp_skip {M : gm_M} {n : Nat} (h : M 7 n = 0 ∨ gm_cnt M n (M 11 0) < M 10 0) : gm_tkp M (n + 1) = gm_tkp M n := by
  funext k i
  by_cases h7 : k = 7
  · subst h7
    rw [gm_tkp_7, gm_tkp_7]
    by_cases hi : i = n
    · subst hi
      split <;> split <;> omega
    · split <;> split <;> omega
  · rw [gm_tkp_ne M _ i h7, gm_tkp_ne M _ i h7]
theorem gm_tkp_off {M : gm_M} {n : Nat} (h : M 10 0 ≤ gm_cnt M n (M 11 0)) : gm_tkp M (n + 1) = gm_set (gm_tkp M n) 7 n 0 := by
  funext k i
  by_cases h7 : k = 7
  · subst h7
    rw [gm_tkp_7]
    by_cases hi : i = n
    · subst hi
      rw [gm_set_at, if_pos ⟨by omega, h⟩]
    · rw [gm_set_i _ _ hi, gm_tkp_7]
      split <;> split <;> omega
  · rw [gm_set_k _ _ h7, gm_tkp_ne M _ i h7, gm_tkp_ne M _ i h7]
/-! a stone gets a sack -/
theorem gc_rep_set3 {F : Nat → Int32} {B : Nat → Nat → Int32} {M : gm_M} (m v : Nat) (f : Nat → Int32) (h : gc_rep F B M) : gc_rep F (gc_up B 3 f) (gm_set M 3 m v) := by
  obtain ⟨⟨h9, h10, h11, h12, h13, h14, h15⟩, r0, r1, r2, r4, r5, r6, r7, r8⟩ := h
  have e : ∀ k i, k ≠ 3 → gm_set M 3 m v k i = M k i := fun k i hk => gm_set_k M i hk
  have hr : gc_rep F (gc_up B 3 f) M := ⟨⟨h9, h10, h11, h12, h13, h14, h15⟩, r0, r1, r2, r4, r5, r6, r7, r8⟩
  obtain ⟨⟨h9, h10, h11, h12, h13, h14, h15⟩, r0, r1, r2, r4, r5, r6, r7, r8⟩ := hr
  have e11 : gm_set M 3 m v 11 0 = M 11 0 := e 11 0 (by decide)
  have e10 : gm_set M 3 m v 10 0 = M 10 0 := e 10 0 (by decide)
  refine ⟨⟨?_, ?_, ?_, ?_, ?_, ?_, ?_⟩, ?_, ?_, ?_, ?_, ?_, ?_, ?_, ?_⟩
  · rw [e 9 0 (by decide)]; exact h9
  · rw [e10]; exact h10
  · rw [e11]; exact h11
  · rw [e11, gm_gct_congr (M := M) _ (fun k hk => e 8 k (by decide))]; exact h12
  · rw [e 13 0 (by decide)]; exact h13
  · rw [e 14 0 (by decide)]; exact h14
  · rw [e 15 0 (by decide)]; exact h15
  · intro i hi; rw [e 0 i (by decide)]; exact r0 i hi
  · intro i hi; rw [e10] at hi; rw [e 1 i (by decide)]; exact r1 i hi
  · intro i hi; rw [e10] at hi; rw [e11, gm_who_congr (M := M) _ (fun k hk => e 7 k (by decide))]; exact r2 i hi
  · intro i hi; rw [e11] at hi; rw [e 4 i (by decide)]; exact r4 i hi
  · intro i hi; rw [e11] at hi; rw [e 5 i (by decide)]; exact r5 i hi
  · intro i hi; rw [e11] at hi; rw [e 6 i (by decide)]; exact r6 i hi
  · intro i hi; rw [e11] at hi; rw [e 7 i (by decide)]; exact r7 i hi
  · intro i hi; rw [e11] at hi; rw [e 8 i (by decide)]; exact r8 i hi
/-- a sack s on the free stone m -/
def gm_put (X : gm_M) (m s : Nat) : gm_M := gm_set (gm_set X 7 s (m + 1)) 13 0 (X 13 0 + 1)
theorem gm_put_ne (X : gm_M) (m s i : Nat) {k : Nat} (h7 : k ≠ 7) (h13 : k ≠ 13) : gm_put X m s k i = X k i := by
  unfold gm_put; rw [gm_set_k _ _ h13, gm_set_k _ _ h7]
theorem gm_put_7 (X : gm_M) (m s i : Nat) : gm_put X m s 7 i = if i = s then m + 1 else X 7 i := by
  unfold gm_put
  rw [gm_set_k _ _ (by decide)]
  by_cases h : i = s
  · rw [h, gm_set_at, if_pos rfl]
  · rw [gm_set_i _ _ h, if_neg h]
theorem gm_put_13 (X : gm_M) (m s : Nat) : gm_put X m s 13 0 = X 13 0 + 1 := gm_set_at _ _ _ _
theorem gm_wf_put {M : gm_M} {m s : Nat} (wf : gm_wf M) (hm : m < M 10 0) (hs : s < M 11 0) (hd : M 8 s = 0) (hw : gm_who M m (M 11 0) = 0) : gm_wf (gm_put M m s) := by
  obtain ⟨w1, w2, w3, w4, w5, w6, w7, w8⟩ := wf
  have hno := gm_who_no _ hw
  have e : ∀ k i, k ≠ 7 → k ≠ 13 → gm_put M m s k i = M k i := fun k i h1 h2 => gm_put_ne M m s i h1 h2
  have e11 : gm_put M m s 11 0 = M 11 0 := e 11 0 (by decide) (by decide)
  have e10 : gm_put M m s 10 0 = M 10 0 := e 10 0 (by decide) (by decide)
  refine ⟨by rw [e10]; exact w1, by rw [e11]; exact w2, by rw [e 14 0 (by decide) (by decide)]; exact w3, by rw [e 15 0 (by decide) (by decide)]; exact w4, fun i hi => ?_, fun i hi => ?_, fun i hi => ?_, fun i j hi hj hij hn => ?_⟩
  · rw [e 0 i (by decide) (by decide)]; exact w5 i hi
  · rw [e10] at hi; rw [e 1 i (by decide) (by decide)]; exact w6 i hi
  · rw [e11] at hi
    rw [e 4 i (by decide) (by decide), e 5 i (by decide) (by decide), e 6 i (by decide) (by decide), e 8 i (by decide) (by decide), e10, e 9 0 (by decide) (by decide), gm_put_7]
    obtain ⟨a1, a2, a3, a4, a5, a6, a7⟩ := w7 i hi
    by_cases his : i = s
    · subst his
      rw [if_pos rfl]
      exact ⟨a1, a2, a3, a4, hm, fun q => absurd hd q, a7⟩
    · rw [if_neg his]
      exact ⟨a1, a2, a3, a4, a5, a6, a7⟩
  · rw [e11] at hi hj
    rw [gm_put_7, gm_put_7] at hij
    rw [gm_put_7] at hn
    have q1 := hno i hi
    have q2 := hno j hj
    by_cases his : i = s
    · by_cases hjs : j = s
      · rw [his, hjs]
      · rw [if_pos his, if_neg hjs] at hij
        exact absurd hij.symm q2
    · by_cases hjs : j = s
      · rw [if_neg his, if_pos hjs] at hij
        exact absurd hij q1
      · rw [if_neg his] at hij hn
        rw [if_neg hjs] at hij
        exact w8 i j hi hj hij hn
theorem gm_rest_put {M : gm_M} {m s : Nat} (h : gm_rest M) : gm_rest (gm_put M m s) := by
  intro i hi
  rw [gm_put_ne _ _ _ _ (by decide) (by decide)] at hi
  rw [gm_put_ne _ _ _ _ (by decide) (by decide), gm_put_ne _ _ _ _ (by decide) (by decide)]
  exact h i hi
theorem gc_rep_put {F : Nat → Int32} {B : Nat → Nat → Int32} {M : gm_M} {m s : Nat} (wf : gm_wf M) (h : gc_rep F B M) (hm : m < M 10 0) (hs : s < M 11 0) (h0 : M 7 s = 0) (hw : gm_who M m (M 11 0) = 0) :
    gc_rep (upd F 13 (nI (M 13 0 + 1))) (gc_up (gc_up B 2 (upd (B 2) m (nI s))) 7 (upd (B 7) s (nI m))) (gm_put M m s) := by
  obtain ⟨⟨h9, h10, h11, h12, h13, h14, h15⟩, r0, r1, r2, r4, r5, r6, r7, r8⟩ := h
  have hno := gm_who_no _ hw
  have e : ∀ k i, k ≠ 7 → k ≠ 13 → gm_put M m s k i = M k i := fun k i h1 h2 => gm_put_ne M m s i h1 h2
  have e11 : gm_put M m s 11 0 = M 11 0 := e 11 0 (by decide) (by decide)
  have e10 : gm_put M m s 10 0 = M 10 0 := e 10 0 (by decide) (by decide)
  refine ⟨⟨?_, ?_, ?_, ?_, ?_, ?_, ?_⟩, ?_, ?_, ?_, ?_, ?_, ?_, ?_, ?_⟩
  · rw [e 9 0 (by decide) (by decide)]; exact h9
  · rw [e10]; exact h10
  · rw [e11]; exact h11
  · rw [e11, gm_gct_congr (M := M) _ (fun k hk => e 8 k (by decide) (by decide))]; exact h12
  · rw [gm_put_13]; rfl
  · rw [e 14 0 (by decide) (by decide)]; exact h14
  · rw [e 15 0 (by decide) (by decide)]; exact h15
  · intro i hi; rw [e 0 i (by decide) (by decide)]; exact r0 i hi
  · intro i hi; rw [e10] at hi; rw [e 1 i (by decide) (by decide)]; exact r1 i hi
  · intro i hi
    rw [e10] at hi
    rw [e11]
    show upd (B 2) m (nI s) i = _
    by_cases hi2 : i = m
    · subst hi2
      rw [pk_us, gm_who_is hs (by rw [gm_put_7, if_pos rfl]), gm_eS]
      intro j hj hj1
      rw [gm_put_7] at hj1
      by_cases hjs : j = s
      · exact hjs
      · rw [if_neg hjs] at hj1
        exact absurd hj1 (hno j hj)
    · rw [pk_un hi2, r2 i hi]
      refine congrArg gm_e (gm_who_keep _ (fun k hk => ?_)).symm
      rw [gm_put_7]
      by_cases hks : k = s
      · rw [if_pos hks, hks, h0]; omega
      · rw [if_neg hks]
  · intro i hi; rw [e11] at hi; rw [e 4 i (by decide) (by decide)]; exact r4 i hi
  · intro i hi; rw [e11] at hi; rw [e 5 i (by decide) (by decide)]; exact r5 i hi
  · intro i hi; rw [e11] at hi; rw [e 6 i (by decide) (by decide)]; exact r6 i hi
  · intro i hi
    rw [e11] at hi
    show upd (B 7) s (nI m) i = _
    rw [gm_put_7]
    by_cases his : i = s
    · rw [his, pk_us, if_pos rfl, gm_eS]
    · rw [pk_un his, if_neg his]; exact r7 i hi
  · intro i hi; rw [e11] at hi; rw [e 8 i (by decide) (by decide)]; exact r8 i hi

theorem gm_wf_ap {M : gm_M} (wf : gm_wf M) : gm_ap M := wf.2.2.2.2.2.2.2
theorem gm_same_rf (M : gm_M) : gm_same M M := fun _ _ _ => rfl
theorem gm_same_tr {M X Y : gm_M} (h1 : gm_same M X) (h2 : gm_same X Y) : gm_same M Y := by
  intro k i h
  have e11 : X 11 0 = M 11 0 := h1 11 0 (by omega)
  rw [h2 k i (by rw [e11]; exact h), h1 k i h]
theorem gm_same_set3 (M : gm_M) (m v : Nat) : gm_same M (gm_set M 3 m v) := fun k i h => gm_set_k M i (by omega)
/-! filling the stones -/
theorem gm_fs_0 {X : gm_M} {m : Nat} (h : gm_who X m (X 11 0) ≠ 0) : gm_fs X m = gm_set X 3 m 0 := by unfold gm_fs; rw [if_neg h]
theorem gm_fs_1 {X : gm_M} {m : Nat} (h : gm_who X m (X 11 0) = 0) (hn : gm_nxt X 1 (X 11 0) = 0) : gm_fs X m = gm_set X 3 m 0 := by unfold gm_fs; rw [if_pos h, if_pos hn]
theorem gm_fs_2 {X : gm_M} {m : Nat} (h : gm_who X m (X 11 0) = 0) (hn : gm_nxt X 1 (X 11 0) ≠ 0) : gm_fs X m = gm_set (gm_put X m (gm_nxt X 1 (X 11 0) - 1)) 3 m 1 := by unfold gm_fs; rw [if_pos h, if_neg hn]; rfl
theorem gm_fs_cases (X : gm_M) (m : Nat) : (gm_who X m (X 11 0) = 0 ∧ gm_nxt X 1 (X 11 0) ≠ 0 ∧ gm_fs X m = gm_set (gm_put X m (gm_nxt X 1 (X 11 0) - 1)) 3 m 1) ∨ ((gm_who X m (X 11 0) ≠ 0 ∨ gm_nxt X 1 (X 11 0) = 0) ∧ gm_fs X m = gm_set X 3 m 0) := by
  by_cases h : gm_who X m (X 11 0) = 0
  · by_cases hn : gm_nxt X 1 (X 11 0) = 0
    · exact Or.inr ⟨Or.inr hn, gm_fs_1 h hn⟩
    · exact Or.inl ⟨h, hn, gm_fs_2 h hn⟩
  · exact Or.inr ⟨Or.inl h, gm_fs_0 h⟩
theorem gm_fs_ne (X : gm_M) (m i : Nat) {k : Nat} (h3 : k ≠ 3) (h7 : k ≠ 7) (h13 : k ≠ 13) : gm_fs X m k i = X k i := by
  rcases gm_fs_cases X m with ⟨_, _, h⟩ | ⟨_, h⟩ <;> rw [h, gm_set_k _ _ h3]
  exact gm_put_ne _ _ _ _ h7 h13
theorem gm_fil_ne (M : gm_M) (i : Nat) {k : Nat} (h3 : k ≠ 3) (h7 : k ≠ 7) (h13 : k ≠ 13) : ∀ m : Nat, gm_fil M m k i = M k i
  | 0 => rfl
  | m + 1 => (gm_fs_ne (gm_fil M m) m i h3 h7 h13).trans (gm_fil_ne M i h3 h7 h13 m)
theorem gm_fs_wf {X : gm_M} {m : Nat} (wf : gm_wf X) (hm : m < X 10 0) : gm_wf (gm_fs X m) := by
  rcases gm_fs_cases X m with ⟨h1, h2, h⟩ | ⟨_, h⟩ <;> rw [h]
  · have hk := gm_nxt_ok _ h2
    have hl := gm_nxt_le X 1 (X 11 0)
    exact gm_wf_same (gm_wf_put wf hm (by omega) hk.1 h1) (gm_same_set3 _ _ _)
  · exact gm_wf_same wf (gm_same_set3 _ _ _)
theorem gm_fs_rest {X : gm_M} {m : Nat} (hr : gm_rest X) : gm_rest (gm_fs X m) := by
  rcases gm_fs_cases X m with ⟨h1, h2, h⟩ | ⟨_, h⟩ <;> rw [h]
  · exact gm_rest_same (gm_rest_put hr) (gm_same_set3 _ _ _)
  · exact gm_rest_same hr (gm_same_set3 _ _ _)
theorem gm_fil_wf {M : gm_M} (wf : gm_wf M) : ∀ m : Nat, m ≤ M 10 0 → gm_wf (gm_fil M m)
  | 0, _ => wf
  | m + 1, h => gm_fs_wf (gm_fil_wf wf m (Nat.le_of_succ_le h)) (by rw [gm_fil_ne M 0 (by decide) (by decide) (by decide)]; exact h)
theorem gm_fil_rest {M : gm_M} (hr : gm_rest M) : ∀ m : Nat, gm_rest (gm_fil M m)
  | 0 => hr
  | m + 1 => gm_fs_rest (gm_fil_rest hr m)
/-- fresh is 0 or 1, and stays as it was set -/
theorem gm_fs_3 (X : gm_M) (m : Nat) : gm_fs X m 3 m ≤ 1 := by
  rcases gm_fs_cases X m with ⟨_, _, h⟩ | ⟨_, h⟩ <;> rw [h, gm_set_at] <;> omega
theorem gm_fs_3n (X : gm_M) {m i : Nat} (hi : i ≠ m) : gm_fs X m 3 i = X 3 i := by
  rcases gm_fs_cases X m with ⟨_, _, h⟩ | ⟨_, h⟩ <;> rw [h, gm_set_i _ _ hi]
  exact gm_put_ne _ _ _ _ (by decide) (by decide)
theorem gm_fil_3 (M : gm_M) : ∀ m i : Nat, i < m → gm_fil M m 3 i ≤ 1
  | 0, i, h => absurd h (Nat.not_lt_zero i)
  | m + 1, i, h => by
    by_cases hi : i = m
    · rw [hi]; exact gm_fs_3 _ m
    · show gm_fs (gm_fil M m) m 3 i ≤ 1
      rw [gm_fs_3n _ hi]; exact gm_fil_3 M m i (by omega)
/-! grinding -/
theorem gm_gs_0 {b : Nat} {X : gm_M} {m : Nat} (h : gm_who X m (X 11 0) = 0) : gm_gs b X m = X := if_pos h
def gm_les (X : gm_M) (s a : Nat) : gm_M := gm_set (gm_set X 5 s (X 5 s - a)) 16 0 (X 16 0 + a)
theorem gm_gs_1 {b : Nat} {X : gm_M} {m : Nat} (h : gm_who X m (X 11 0) ≠ 0) : gm_gs b X m = gm_les X (gm_who X m (X 11 0) - 1) (gm_amt b X m (gm_who X m (X 11 0) - 1)) := if_neg h
theorem gm_les_ne (X : gm_M) (s a i : Nat) {k : Nat} (h5 : k ≠ 5) (h16 : k ≠ 16) : gm_les X s a k i = X k i := by
  unfold gm_les; rw [gm_set_k _ _ h16, gm_set_k _ _ h5]
theorem gm_les_5 (X : gm_M) (s a i : Nat) : gm_les X s a 5 i = if i = s then X 5 s - a else X 5 i := by
  unfold gm_les
  rw [gm_set_k _ _ (by decide)]
  by_cases h : i = s
  · rw [h, gm_set_at, if_pos rfl]
  · rw [gm_set_i _ _ h, if_neg h]
theorem gm_les_16 (X : gm_M) (s a : Nat) : gm_les X s a 16 0 = X 16 0 + a := gm_set_at _ _ _ _
theorem gm_gs_ne (b : Nat) (X : gm_M) (m i : Nat) {k : Nat} (h5 : k ≠ 5) (h16 : k ≠ 16) : gm_gs b X m k i = X k i := by
  by_cases h : gm_who X m (X 11 0) = 0
  · rw [gm_gs_0 h]
  · rw [gm_gs_1 h]; exact gm_les_ne _ _ _ _ h5 h16
theorem gm_grd_ne (b : Nat) (M : gm_M) (i : Nat) {k : Nat} (h5 : k ≠ 5) (h16 : k ≠ 16) : ∀ m : Nat, gm_grd b M m k i = M k i
  | 0 => rfl
  | m + 1 => (gm_gs_ne b (gm_grd b M m) m i h5 h16).trans (gm_grd_ne b M i h5 h16 m)
theorem gm_gs_16 (b : Nat) (X : gm_M) (m : Nat) (hb : X 16 0 ≤ b) : X 16 0 ≤ gm_gs b X m 16 0 ∧ gm_gs b X m 16 0 ≤ b := by
  by_cases h : gm_who X m (X 11 0) = 0
  · rw [gm_gs_0 h]; exact ⟨Nat.le_refl _, hb⟩
  · rw [gm_gs_1 h, gm_les_16]
    unfold gm_amt
    omega
theorem gm_grd_16 (b : Nat) (M : gm_M) (hb : M 16 0 ≤ b) : ∀ m : Nat, M 16 0 ≤ gm_grd b M m 16 0 ∧ gm_grd b M m 16 0 ≤ b
  | 0 => ⟨Nat.le_refl _, hb⟩
  | m + 1 => by
    have ih := gm_grd_16 b M hb m
    have h := gm_gs_16 b (gm_grd b M m) m ih.2
    exact ⟨Nat.le_trans ih.1 h.1, h.2⟩
theorem gm_les_wf {X : gm_M} {s a : Nat} (wf : gm_wf X) (hd : X 8 s = 0) : gm_wf (gm_les X s a) := by
  obtain ⟨w1, w2, w3, w4, w5, w6, w7, w8⟩ := wf
  have e : ∀ k i, k ≠ 5 → k ≠ 16 → gm_les X s a k i = X k i := fun k i h1 h2 => gm_les_ne X s a i h1 h2
  have e11 : gm_les X s a 11 0 = X 11 0 := e 11 0 (by decide) (by decide)
  have e10 : gm_les X s a 10 0 = X 10 0 := e 10 0 (by decide) (by decide)
  refine ⟨by rw [e10]; exact w1, by rw [e11]; exact w2, by rw [e 14 0 (by decide) (by decide)]; exact w3, by rw [e 15 0 (by decide) (by decide)]; exact w4, fun i hi => ?_, fun i hi => ?_, fun i hi => ?_, fun i j hi hj => ?_⟩
  · rw [e 0 i (by decide) (by decide)]; exact w5 i hi
  · rw [e10] at hi; rw [e 1 i (by decide) (by decide)]; exact w6 i hi
  · rw [e11] at hi
    rw [e 4 i (by decide) (by decide), e 6 i (by decide) (by decide), e 7 i (by decide) (by decide), e 8 i (by decide) (by decide), e10, e 9 0 (by decide) (by decide), gm_les_5]
    obtain ⟨a1, a2, a3, a4, a5, a6, a7⟩ := w7 i hi
    by_cases his : i = s
    · subst his
      rw [if_pos rfl]
      exact ⟨a1, by omega, a3, a4, a5, fun q => absurd hd q, a7⟩
    · rw [if_neg his]
      exact ⟨a1, a2, a3, a4, a5, a6, a7⟩
  · rw [e11] at hi hj
    rw [e 7 i (by decide) (by decide), e 7 j (by decide) (by decide)]
    exact w8 i j hi hj
theorem gm_les_mid {X : gm_M} {s a : Nat} (h : gm_mid X) (hs : X 7 s ≠ 0) : gm_mid (gm_les X s a) := by
  intro i hi
  rw [gm_les_ne _ _ _ _ (by decide) (by decide)] at hi
  rw [gm_les_ne X s a i (k := 8) (by decide) (by decide), gm_les_ne X s a i (k := 7) (by decide) (by decide), gm_les_5]
  intro h5
  by_cases his : i = s
  · exact Or.inr (his ▸ hs)
  · rw [if_neg his] at h5
    exact h i hi h5
theorem gm_gs_wf {b : Nat} {X : gm_M} {m : Nat} (wf : gm_wf X) : gm_wf (gm_gs b X m) := by
  by_cases h : gm_who X m (X 11 0) = 0
  · rw [gm_gs_0 h]; exact wf
  · rw [gm_gs_1 h]
    have h1 := gm_who_on _ h
    have h2 := gm_who_le X m (X 11 0)
    refine gm_les_wf wf ?_
    have := (wf.2.2.2.2.2.2.1 (gm_who X m (X 11 0) - 1) (by omega)).2.2.2.2.2.1
    by_cases h8 : X 8 (gm_who X m (X 11 0) - 1) = 0
    · exact h8
    · have := (this h8).1; omega
theorem gm_gs_mid {b : Nat} {X : gm_M} {m : Nat} (hm : gm_mid X) : gm_mid (gm_gs b X m) := by
  by_cases h : gm_who X m (X 11 0) = 0
  · rw [gm_gs_0 h]; exact hm
  · rw [gm_gs_1 h]
    exact gm_les_mid hm (by have := gm_who_on _ h; omega)
theorem gm_grd_wf {b : Nat} {M : gm_M} (wf : gm_wf M) : ∀ m : Nat, gm_wf (gm_grd b M m)
  | 0 => wf
  | m + 1 => gm_gs_wf (gm_grd_wf wf m)
theorem gm_grd_mid {b : Nat} {M : gm_M} (h : gm_mid M) : ∀ m : Nat, gm_mid (gm_grd b M m)
  | 0 => h
  | m + 1 => gm_gs_mid (gm_grd_mid h m)
theorem gm_rest_mid {M : gm_M} (h : gm_rest M) : gm_mid M := fun i hi h5 => Or.inl (h i hi h5)
theorem gc_rep_les {F : Nat → Int32} {B : Nat → Nat → Int32} {M : gm_M} {s a : Nat} (h : gc_rep F B M) (hs : s < M 11 0) : gc_rep F (gc_up B 5 (upd (B 5) s (nI (M 5 s - a)))) (gm_les M s a) := by
  obtain ⟨⟨h9, h10, h11, h12, h13, h14, h15⟩, r0, r1, r2, r4, r5, r6, r7, r8⟩ := h
  have e : ∀ k i, k ≠ 5 → k ≠ 16 → gm_les M s a k i = M k i := fun k i h1 h2 => gm_les_ne M s a i h1 h2
  have e11 : gm_les M s a 11 0 = M 11 0 := e 11 0 (by decide) (by decide)
  have e10 : gm_les M s a 10 0 = M 10 0 := e 10 0 (by decide) (by decide)
  refine ⟨⟨?_, ?_, ?_, ?_, ?_, ?_, ?_⟩, ?_, ?_, ?_, ?_, ?_, ?_, ?_, ?_⟩
  · rw [e 9 0 (by decide) (by decide)]; exact h9
  · rw [e10]; exact h10
  · rw [e11]; exact h11
  · rw [e11, gm_gct_congr (M := M) _ (fun k hk => e 8 k (by decide) (by decide))]; exact h12
  · rw [e 13 0 (by decide) (by decide)]; exact h13
  · rw [e 14 0 (by decide) (by decide)]; exact h14
  · rw [e 15 0 (by decide) (by decide)]; exact h15
  · intro i hi; rw [e 0 i (by decide) (by decide)]; exact r0 i hi
  · intro i hi; rw [e10] at hi; rw [e 1 i (by decide) (by decide)]; exact r1 i hi
  · intro i hi; rw [e10] at hi; rw [e11, gm_who_congr (M := M) _ (fun k hk => e 7 k (by decide) (by decide))]; exact r2 i hi
  · intro i hi; rw [e11] at hi; rw [e 4 i (by decide) (by decide)]; exact r4 i hi
  · intro i hi
    rw [e11] at hi
    show upd (B 5) s (nI (M 5 s - a)) i = _
    rw [gm_les_5]
    by_cases his : i = s
    · rw [his, pk_us, if_pos rfl]
    · rw [pk_un his, if_neg his]; exact r5 i hi
  · intro i hi; rw [e11] at hi; rw [e 6 i (by decide) (by decide)]; exact r6 i hi
  · intro i hi; rw [e11] at hi; rw [e 7 i (by decide) (by decide)]; exact r7 i hi
  · intro i hi; rw [e11] at hi; rw [e 8 i (by decide) (by decide)]; exact r8 i hi
/-! the hour is one greater -/
theorem gm_inc_ne (M : gm_M) (i : Nat) {k : Nat} (h : k ≠ 9) : gm_inc M k i = M k i := gm_set_k M i h
theorem gm_inc_9 (M : gm_M) : gm_inc M 9 0 = M 9 0 + 1 := gm_set_at _ _ _ _
theorem gm_inc_wf {M : gm_M} (wf : gm_wf M) : gm_wf (gm_inc M) := by
  obtain ⟨w1, w2, w3, w4, w5, w6, w7, w8⟩ := wf
  have e : ∀ k i, k ≠ 9 → gm_inc M k i = M k i := fun k i h => gm_inc_ne M i h
  have e11 : gm_inc M 11 0 = M 11 0 := e 11 0 (by decide)
  have e10 : gm_inc M 10 0 = M 10 0 := e 10 0 (by decide)
  refine ⟨by rw [e10]; exact w1, by rw [e11]; exact w2, by rw [e 14 0 (by decide)]; exact w3, by rw [e 15 0 (by decide)]; exact w4, fun i hi => ?_, fun i hi => ?_, fun i hi => ?_, fun i j hi hj => ?_⟩
  · rw [e 0 i (by decide)]; exact w5 i hi
  · rw [e10] at hi; rw [e 1 i (by decide)]; exact w6 i hi
  · rw [e11] at hi
    rw [e 4 i (by decide), e 5 i (by decide), e 6 i (by decide), e 7 i (by decide), e 8 i (by decide), e10, gm_inc_9]
    obtain ⟨a1, a2, a3, a4, a5, a6, a7⟩ := w7 i hi
    exact ⟨a1, a2, a3, a4, a5, a6, by omega⟩
  · rw [e11] at hi hj
    rw [e 7 i (by decide), e 7 j (by decide)]
    exact w8 i j hi hj
theorem gm_inc_mid {M : gm_M} (h : gm_mid M) : gm_mid (gm_inc M) := by
  intro i hi
  rw [gm_inc_ne _ _ (by decide)] at hi
  rw [gm_inc_ne _ _ (by decide), gm_inc_ne _ _ (by decide), gm_inc_ne _ _ (by decide)]
  exact h i hi
theorem gc_rep_inc {F : Nat → Int32} {B : Nat → Nat → Int32} {M : gm_M} (h : gc_rep F B M) : gc_rep (upd F 9 (nI (M 9 0 + 1))) B (gm_inc M) := by
  obtain ⟨⟨h9, h10, h11, h12, h13, h14, h15⟩, r0, r1, r2, r4, r5, r6, r7, r8⟩ := h
  have e : ∀ k i, k ≠ 9 → gm_inc M k i = M k i := fun k i h => gm_inc_ne M i h
  have e11 : gm_inc M 11 0 = M 11 0 := e 11 0 (by decide)
  have e10 : gm_inc M 10 0 = M 10 0 := e 10 0 (by decide)
  refine ⟨⟨?_, ?_, ?_, ?_, ?_, ?_, ?_⟩, ?_, ?_, ?_, ?_, ?_, ?_, ?_, ?_⟩
  · rw [gm_inc_9]; rfl
  · rw [e10]; exact h10
  · rw [e11]; exact h11
  · rw [e11, gm_gct_congr (M := M) _ (fun k hk => e 8 k (by decide))]; exact h12
  · rw [e 13 0 (by decide)]; exact h13
  · rw [e 14 0 (by decide)]; exact h14
  · rw [e 15 0 (by decide)]; exact h15
  · intro i hi; rw [e 0 i (by decide)]; exact r0 i hi
  · intro i hi; rw [e10] at hi; rw [e 1 i (by decide)]; exact r1 i hi
  · intro i hi; rw [e10] at hi; rw [e11, gm_who_congr (M := M) _ (fun k hk => e 7 k (by decide))]; exact r2 i hi
  · intro i hi; rw [e11] at hi; rw [e 4 i (by decide)]; exact r4 i hi
  · intro i hi; rw [e11] at hi; rw [e 5 i (by decide)]; exact r5 i hi
  · intro i hi; rw [e11] at hi; rw [e 6 i (by decide)]; exact r6 i hi
  · intro i hi; rw [e11] at hi; rw [e 7 i (by decide)]; exact r7 i hi
  · intro i hi; rw [e11] at hi; rw [e 8 i (by decide)]; exact r8 i hi
/-! sacks are ground -/
theorem gm_fnp_ne (X : gm_M) (n i : Nat) {k : Nat} (h8 : k ≠ 8) (h7 : k ≠ 7) : gm_fnp X n k i = X k i := if_neg (fun q => by omega)
theorem gm_fnc_ne (X : gm_M) (n i : Nat) {k : Nat} (h8 : k ≠ 8) (h7 : k ≠ 7) : gm_fnc X n k i = X k i := if_neg (fun q => by omega)
theorem gm_fnp_8 (X : gm_M) (n i : Nat) : gm_fnp X n 8 i = if i < n ∧ X 7 i ≠ 0 ∧ X 5 i = 0 then X 9 0 + 1 else X 8 i := by
  show (if ((8 : Nat) = 8 ∨ (8 : Nat) = 7) ∧ i < n ∧ X 7 i ≠ 0 ∧ X 5 i = 0 then (if (8 : Nat) = 8 then X 9 0 + 1 else 0) else X 8 i) = _
  by_cases h : i < n ∧ X 7 i ≠ 0 ∧ X 5 i = 0
  · rw [if_pos ⟨Or.inl rfl, h⟩, if_pos h, if_pos rfl]
  · rw [if_neg (fun q => h q.2), if_neg h]
theorem gm_fnp_7 (X : gm_M) (n i : Nat) : gm_fnp X n 7 i = if i < n ∧ X 7 i ≠ 0 ∧ X 5 i = 0 then 0 else X 7 i := by
  show (if ((7 : Nat) = 8 ∨ (7 : Nat) = 7) ∧ i < n ∧ X 7 i ≠ 0 ∧ X 5 i = 0 then (if (7 : Nat) = 8 then X 9 0 + 1 else 0) else X 7 i) = _
  by_cases h : i < n ∧ X 7 i ≠ 0 ∧ X 5 i = 0
  · rw [if_pos ⟨Or.inr rfl, h⟩, if_pos h, if_neg (by decide)]
  · rw [if_neg (fun q => h q.2), if_neg h]
theorem gm_fnc_8 (X : gm_M) (n i : Nat) : gm_fnc X n 8 i = if X 7 i ≠ 0 ∧ X 7 i ≤ n ∧ X 5 i = 0 then X 9 0 + 1 else X 8 i := by
  show (if ((8 : Nat) = 8 ∨ (8 : Nat) = 7) ∧ X 7 i ≠ 0 ∧ X 7 i ≤ n ∧ X 5 i = 0 then (if (8 : Nat) = 8 then X 9 0 + 1 else 0) else X 8 i) = _
  by_cases h : X 7 i ≠ 0 ∧ X 7 i ≤ n ∧ X 5 i = 0
  · rw [if_pos ⟨Or.inl rfl, h⟩, if_pos h, if_pos rfl]
  · rw [if_neg (fun q => h q.2), if_neg h]
theorem gm_fnc_7 (X : gm_M) (n i : Nat) : gm_fnc X n 7 i = if X 7 i ≠ 0 ∧ X 7 i ≤ n ∧ X 5 i = 0 then 0 else X 7 i := by
  show (if ((7 : Nat) = 8 ∨ (7 : Nat) = 7) ∧ X 7 i ≠ 0 ∧ X 7 i ≤ n ∧ X 5 i = 0 then (if (7 : Nat) = 8 then X 9 0 + 1 else 0) else X 7 i) = _
  by_cases h : X 7 i ≠ 0 ∧ X 7 i ≤ n ∧ X 5 i = 0
  · rw [if_pos ⟨Or.inr rfl, h⟩, if_pos h, if_neg (by decide)]
  · rw [if_neg (fun q => h q.2), if_neg h]
theorem gm_fnc_0 (X : gm_M) : gm_same X (gm_fnc X 0) := by
  intro k i _
  by_cases h8 : k = 8
  · subst h8; rw [gm_fnc_8, if_neg]; omega
  · by_cases h7 : k = 7
    · subst h7; rw [gm_fnc_7]; split <;> omega
    · exact gm_fnc_ne X 0 i h8 h7
theorem gm_fnc_skip {X : gm_M} {m : Nat} (h : ∀ i, i < X 11 0 → X 7 i = m + 1 → X 5 i ≠ 0) : gm_same (gm_fnc X m) (gm_fnc X (m + 1)) := by
  intro k i hk
  rw [gm_fnc_ne X m 0 (by decide) (by decide)] at hk
  by_cases h8 : k = 8
  · subst h8
    have := h i (by omega)
    rw [gm_fnc_8, gm_fnc_8]
    split <;> split <;> first | rfl | (exfalso; omega)
  · by_cases h7 : k = 7
    · subst h7
      have := h i (by omega)
      rw [gm_fnc_7, gm_fnc_7]
      split <;> split <;> first | rfl | (exfalso; omega)
    · rw [gm_fnc_ne X m i h8 h7, gm_fnc_ne X _ i h8 h7]
theorem gm_fnc_all {X : gm_M} (h : ∀ i, i < X 11 0 → X 7 i ≤ X 10 0) : gm_same (gm_fnc X (X 10 0)) (gm_fnp X (X 11 0)) := by
  intro k i hk
  rw [gm_fnc_ne X _ 0 (by decide) (by decide)] at hk
  by_cases h8 : k = 8
  · subst h8
    have := h i (by omega)
    rw [gm_fnc_8, gm_fnp_8]
    split <;> split <;> first | rfl | (exfalso; omega)
  · by_cases h7 : k = 7
    · subst h7
      have := h i (by omega)
      rw [gm_fnc_7, gm_fnp_7]
      split <;> split <;> first | rfl | (exfalso; omega)
    · rw [gm_fnc_ne X _ i h8 h7, gm_fnp_ne X _ i h8 h7]
theorem gm_fnc_who (X : gm_M) (m n : Nat) : gm_who (gm_fnc X m) m n = gm_who X m n :=
  gm_who_keep n (fun k _ => by rw [gm_fnc_7]; split <;> omega)
theorem gm_fnc_ap {X : gm_M} (m : Nat) (h : gm_ap X) : gm_ap (gm_fnc X m) := by
  intro i j hi hj hij hn
  rw [gm_fnc_ne X m 0 (by decide) (by decide)] at hi hj
  rw [gm_fnc_7] at hn
  rw [gm_fnc_7, gm_fnc_7] at hij
  by_cases h1 : X 7 i ≠ 0 ∧ X 7 i ≤ m ∧ X 5 i = 0
  · rw [if_pos h1] at hn; exact absurd rfl hn
  · rw [if_neg h1] at hij hn
    by_cases h2 : X 7 j ≠ 0 ∧ X 7 j ≤ m ∧ X 5 j = 0
    · rw [if_pos h2] at hij; exact absurd hij hn
    · rw [if_neg h2] at hij; exact h i j hi hj hij hn
theorem gm_gct_one {M X : gm_M} {s : Nat} (h0 : M 8 s = 0) (h1 : X 8 s ≠ 0) (hn : ∀ k, k ≠ s → X 8 k = M 8 k) : ∀ n : Nat, s < n → gm_gct X n = gm_gct M n + 1
  | 0, h => absurd h (Nat.not_lt_zero s)
  | n + 1, h => by
    show gm_gct X n + (if X 8 n = 0 then 0 else 1) = gm_gct M n + (if M 8 n = 0 then 0 else 1) + 1
    by_cases hs : s = n
    · subst hs
      rw [gm_gct_congr (M := M) s (fun k hk => hn k (by omega)), if_neg h1, if_pos h0]
    · rw [gm_gct_one h0 h1 hn n (by omega), hn n (fun q => hs q.symm)]
      omega
theorem gc_rep_set8 {F : Nat → Int32} {B : Nat → Nat → Int32} {M : gm_M} {s v : Nat} (h : gc_rep F B M) (hs : s < M 11 0) (h0 : M 8 s = 0) :
    gc_rep (upd F 12 (nI (gm_gct M (M 11 0) + 1))) (gc_up B 8 (upd (B 8) s (nI v))) (gm_set M 8 s (v + 1)) := by
  obtain ⟨⟨h9, h10, h11, h12, h13, h14, h15⟩, r0, r1, r2, r4, r5, r6, r7, r8⟩ := h
  have e : ∀ k i, k ≠ 8 → gm_set M 8 s (v + 1) k i = M k i := fun k i h => gm_set_k M i h
  have e11 : gm_set M 8 s (v + 1) 11 0 = M 11 0 := e 11 0 (by decide)
  have e10 : gm_set M 8 s (v + 1) 10 0 = M 10 0 := e 10 0 (by decide)
  refine ⟨⟨?_, ?_, ?_, ?_, ?_, ?_, ?_⟩, ?_, ?_, ?_, ?_, ?_, ?_, ?_, ?_⟩
  · rw [e 9 0 (by decide)]; exact h9
  · rw [e10]; exact h10
  · rw [e11]; exact h11
  · rw [e11, gm_gct_one (M := M) h0 (by rw [gm_set_at]; omega) (fun k hk => gm_set_i M 8 hk) _ hs]; rfl
  · rw [e 13 0 (by decide)]; exact h13
  · rw [e 14 0 (by decide)]; exact h14
  · rw [e 15 0 (by decide)]; exact h15
  · intro i hi; rw [e 0 i (by decide)]; exact r0 i hi
  · intro i hi; rw [e10] at hi; rw [e 1 i (by decide)]; exact r1 i hi
  · intro i hi; rw [e10] at hi; rw [e11, gm_who_congr (M := M) _ (fun k hk => e 7 k (by decide))]; exact r2 i hi
  · intro i hi; rw [e11] at hi; rw [e 4 i (by decide)]; exact r4 i hi
  · intro i hi; rw [e11] at hi; rw [e 5 i (by decide)]; exact r5 i hi
  · intro i hi; rw [e11] at hi; rw [e 6 i (by decide)]; exact r6 i hi
  · intro i hi; rw [e11] at hi; rw [e 7 i (by decide)]; exact r7 i hi
  · intro i hi
    rw [e11] at hi
    show upd (B 8) s (nI v) i = _
    by_cases his : i = s
    · rw [his, pk_us, gm_set_at, gm_eS]
    · rw [pk_un his, gm_set_i _ _ his]; exact r8 i hi
theorem gm_fnc_do {X : gm_M} {m s : Nat} (hs : s < X 11 0) (h7 : X 7 s = m + 1) (h5 : X 5 s = 0) (hap : gm_ap X) : gm_same (gm_clr (gm_set (gm_fnc X m) 8 s (X 9 0 + 1)) m) (gm_fnc X (m + 1)) := by
  have hy : ∀ i, gm_set (gm_fnc X m) 8 s (X 9 0 + 1) 7 i = gm_fnc X m 7 i := fun i => gm_set_k _ i (by decide)
  intro k i hk
  rw [gm_clr_ne _ m 0 (by decide), gm_set_k _ _ (by decide), gm_fnc_ne X m 0 (by decide) (by decide)] at hk
  have only : i < X 11 0 → X 7 i = m + 1 → i = s := fun hi q => hap i s hi hs (by omega) (by omega)
  by_cases h8 : k = 8
  · subst h8
    rw [gm_clr_ne _ _ _ (by decide), gm_fnc_8]
    by_cases his : i = s
    · rw [his, gm_set_at, if_pos ⟨by omega, by omega, h5⟩]
    · rw [gm_set_i _ _ his, gm_fnc_8]
      have := only (by omega)
      split <;> split <;> first | rfl | (exfalso; omega)
  · by_cases h77 : k = 7
    · subst h77
      rw [gm_clr_7, hy, gm_fnc_7, gm_fnc_7]
      have := only (by omega)
      by_cases his : i = s
      · subst his
        rw [if_neg (show ¬ (X 7 i ≠ 0 ∧ X 7 i ≤ m ∧ X 5 i = 0) by omega), if_pos h7, if_pos ⟨by omega, by omega, h5⟩]
      · split <;> split <;> split <;> omega
    · rw [gm_clr_ne _ m i h77, gm_set_k _ _ h8, gm_fnc_ne X m i h8 h77, gm_fnc_ne X _ i h8 h77]
theorem gm_fnp_0 (X : gm_M) : gm_fnp X 0 = X := by
  funext k i
  exact if_neg (fun q => absurd q.2.1 (Nat.not_lt_zero i))
theorem gm_fnp_skip {X : gm_M} {n : Nat} (h : X 7 n = 0 ∨ X 5 n ≠ 0) : gm_fnp X (n + 1) = gm_fnp X n := by
  funext k i
  by_cases h8 : k = 8
  · subst h8
    rw [gm_fnp_8, gm_fnp_8]
    by_cases hi : i = n
    · subst hi; rw [if_neg (by omega), if_neg (by omega)]
    · split <;> split <;> first | rfl | (exfalso; omega)
  · by_cases h7 : k = 7
    · subst h7
      rw [gm_fnp_7, gm_fnp_7]
      by_cases hi : i = n
      · subst hi; rw [if_neg (by omega), if_neg (by omega)]
      · split <;> split <;> first | rfl | (exfalso; omega)
    · rw [gm_fnp_ne X _ i h8 h7, gm_fnp_ne X _ i h8 h7]
theorem gm_fnp_do {X : gm_M} {n : Nat} (h7n : X 7 n ≠ 0) (h5 : X 5 n = 0) : gm_fnp X (n + 1) = gm_set (gm_set (gm_fnp X n) 8 n (X 9 0 + 1)) 7 n 0 := by
  funext k i
  by_cases h8 : k = 8
  · subst h8
    rw [gm_set_k _ _ (by decide), gm_fnp_8]
    by_cases hi : i = n
    · subst hi; rw [gm_set_at, if_pos ⟨by omega, h7n, h5⟩]
    · rw [gm_set_i _ _ hi, gm_fnp_8]
      split <;> split <;> first | rfl | (exfalso; omega)
  · by_cases h7 : k = 7
    · subst h7
      rw [gm_fnp_7]
      by_cases hi : i = n
      · subst hi; rw [gm_set_at, if_pos ⟨by omega, h7n, h5⟩]
      · rw [gm_set_i _ _ hi, gm_set_k _ _ (by decide), gm_fnp_7]
        split <;> split <;> first | rfl | (exfalso; omega)
    · rw [gm_set_k _ _ h7, gm_set_k _ _ h8, gm_fnp_ne X _ i h8 h7, gm_fnp_ne X _ i h8 h7]
theorem gm_fnp_wf {X : gm_M} (wf : gm_wf X) (n : Nat) : gm_wf (gm_fnp X n) := by
  obtain ⟨w1, w2, w3, w4, w5, w6, w7, w8⟩ := wf
  have e : ∀ k i, k ≠ 8 → k ≠ 7 → gm_fnp X n k i = X k i := fun k i h1 h2 => gm_fnp_ne X n i h1 h2
  have e11 : gm_fnp X n 11 0 = X 11 0 := e 11 0 (by decide) (by decide)
  have e10 : gm_fnp X n 10 0 = X 10 0 := e 10 0 (by decide) (by decide)
  refine ⟨by rw [e10]; exact w1, by rw [e11]; exact w2, by rw [e 14 0 (by decide) (by decide)]; exact w3, by rw [e 15 0 (by decide) (by decide)]; exact w4, fun i hi => ?_, fun i hi => ?_, fun i hi => ?_, fun i j hi hj hij hn => ?_⟩
  · rw [e 0 i (by decide) (by decide)]; exact w5 i hi
  · rw [e10] at hi; rw [e 1 i (by decide) (by decide)]; exact w6 i hi
  · rw [e11] at hi
    rw [e 4 i (by decide) (by decide), e 5 i (by decide) (by decide), e 6 i (by decide) (by decide), e10, e 9 0 (by decide) (by decide), gm_fnp_7, gm_fnp_8]
    obtain ⟨a1, a2, a3, a4, a5, a6, a7⟩ := w7 i hi
    by_cases h : i < n ∧ X 7 i ≠ 0 ∧ X 5 i = 0
    · rw [if_pos h, if_pos h]
      exact ⟨a1, a2, a3, a4, Nat.zero_le _, fun _ => ⟨rfl, h.2.2⟩, Nat.le_refl _⟩
    · rw [if_neg h, if_neg h]
      exact ⟨a1, a2, a3, a4, a5, a6, a7⟩
  · rw [e11] at hi hj
    rw [gm_fnp_7] at hn
    rw [gm_fnp_7, gm_fnp_7] at hij
    by_cases h1 : i < n ∧ X 7 i ≠ 0 ∧ X 5 i = 0
    · rw [if_pos h1] at hn; exact absurd rfl hn
    · rw [if_neg h1] at hij hn
      by_cases h2 : j < n ∧ X 7 j ≠ 0 ∧ X 5 j = 0
      · rw [if_pos h2] at hij; exact absurd hij hn
      · rw [if_neg h2] at hij; exact w8 i j hi hj hij hn
theorem gm_fnp_rest {X : gm_M} (wf : gm_wf X) (h : gm_mid X) : gm_rest (gm_fnp X (X 11 0)) := by
  intro i hi
  rw [gm_fnp_ne X _ 0 (by decide) (by decide)] at hi
  rw [gm_fnp_ne X _ i (by decide) (by decide), gm_fnp_8]
  intro h5
  have := h i hi h5
  split <;> omega
/-! an hour, hours -/
theorem gm_tk_ne (M : gm_M) (i : Nat) {k : Nat} (h : k ≠ 7) : gm_tk M k i = M k i := by
  unfold gm_tk; split
  · rfl
  · exact gm_tkp_ne M _ i h
theorem gm_tk_wf {M : gm_M} (wf : gm_wf M) : gm_wf (gm_tk M) := by
  unfold gm_tk; split
  · exact wf
  · exact gm_tkp_wf _ wf
theorem gm_tk_rest {M : gm_M} (h : gm_rest M) : gm_rest (gm_tk M) := by
  unfold gm_tk; split
  · exact h
  · exact gm_tkp_rest _ h
theorem gm_h1_wf {M : gm_M} (wf : gm_wf M) : gm_wf (gm_h1 M) := gm_fil_wf (gm_tk_wf wf) _ (by rw [gm_tk_ne M 0 (by decide)]; exact Nat.le_refl _)
theorem gm_h1_rest {M : gm_M} (h : gm_rest M) : gm_rest (gm_h1 M) := gm_fil_rest (gm_tk_rest h) _
theorem gm_h1_ne (M : gm_M) (i : Nat) {k : Nat} (h3 : k ≠ 3) (h7 : k ≠ 7) (h13 : k ≠ 13) : gm_h1 M k i = M k i := (gm_fil_ne _ i h3 h7 h13 _).trans (gm_tk_ne M i h7)
theorem gm_h2_wf {M : gm_M} (wf : gm_wf M) : gm_wf (gm_h2 M) := gm_grd_wf (gm_h1_wf wf) _
theorem gm_h2_mid {M : gm_M} (h : gm_rest M) : gm_mid (gm_h2 M) := gm_grd_mid (gm_rest_mid (gm_h1_rest h)) _
theorem gm_h2_ne (M : gm_M) (i : Nat) {k : Nat} (h3 : k ≠ 3) (h7 : k ≠ 7) (h13 : k ≠ 13) (h5 : k ≠ 5) (h16 : k ≠ 16) : gm_h2 M k i = M k i := (gm_grd_ne _ _ i h5 h16 _).trans (gm_h1_ne M i h3 h7 h13)
theorem gm_hour_ne (M : gm_M) (i : Nat) {k : Nat} (h3 : k ≠ 3) (h7 : k ≠ 7) (h13 : k ≠ 13) (h5 : k ≠ 5) (h16 : k ≠ 16) (h8 : k ≠ 8) (h9 : k ≠ 9) : gm_hour M k i = M k i :=
  (gm_fnp_ne _ _ i h8 h7).trans ((gm_inc_ne _ i h9).trans (gm_h2_ne M i h3 h7 h13 h5 h16))
theorem gm_hour_9 (M : gm_M) : gm_hour M 9 0 = M 9 0 + 1 := by
  unfold gm_hour
  rw [gm_fnp_ne _ _ _ (by decide) (by decide), gm_inc_9, gm_h2_ne M 0 (by decide) (by decide) (by decide) (by decide) (by decide)]
theorem gm_hour_wf {M : gm_M} (wf : gm_wf M) : gm_wf (gm_hour M) := gm_fnp_wf (gm_inc_wf (gm_h2_wf wf)) _
theorem gm_hour_rest {M : gm_M} (wf : gm_wf M) (h : gm_rest M) : gm_rest (gm_hour M) := by
  have e : gm_inc (gm_h2 M) 11 0 = M 11 0 := by rw [gm_inc_ne _ _ (by decide), gm_h2_ne M 0 (by decide) (by decide) (by decide) (by decide) (by decide)]
  have := gm_fnp_rest (gm_inc_wf (gm_h2_wf wf)) (gm_inc_mid (gm_h2_mid h))
  rw [e] at this
  exact this
theorem gm_hrs_wf {M : gm_M} (wf : gm_wf M) : ∀ n : Nat, gm_wf (gm_hrs M n)
  | 0 => wf
  | n + 1 => gm_hour_wf (gm_hrs_wf wf n)
theorem gm_hrs_rest {M : gm_M} (wf : gm_wf M) (h : gm_rest M) : ∀ n : Nat, gm_rest (gm_hrs M n)
  | 0 => h
  | n + 1 => gm_hour_rest (gm_hrs_wf wf n) (gm_hrs_rest wf h n)
theorem gm_hrs_9 (M : gm_M) : ∀ n : Nat, gm_hrs M n 9 0 = M 9 0 + n
  | 0 => rfl
  | n + 1 => by
    show gm_hour (gm_hrs M n) 9 0 = _
    rw [gm_hour_9, gm_hrs_9 M n]; omega
theorem gm_hrs_ne (M : gm_M) (i : Nat) {k : Nat} (h3 : k ≠ 3) (h7 : k ≠ 7) (h13 : k ≠ 13) (h5 : k ≠ 5) (h16 : k ≠ 16) (h8 : k ≠ 8) (h9 : k ≠ 9) : ∀ n : Nat, gm_hrs M n k i = M k i
  | 0 => rfl
  | n + 1 => (gm_hour_ne (gm_hrs M n) i h3 h7 h13 h5 h16 h8 h9).trans (gm_hrs_ne M i h3 h7 h13 h5 h16 h8 h9 n)
theorem gm_h2_16 (M : gm_M) : M 16 0 ≤ gm_h2 M 16 0 ∧ gm_h2 M 16 0 ≤ M 16 0 + gm_wnd M := by
  have h := gm_grd_16 (M 16 0 + gm_wnd M) (gm_h1 M) (by rw [gm_h1_ne M 0 (by decide) (by decide) (by decide)]; omega) (M 10 0)
  rw [gm_h1_ne M 0 (by decide) (by decide) (by decide)] at h
  exact h
theorem gm_hour_16 (M : gm_M) : gm_hour M 16 0 = gm_h2 M 16 0 := by
  unfold gm_hour
  rw [gm_fnp_ne _ _ _ (by decide) (by decide), gm_inc_ne _ _ (by decide)]
theorem gm_hrs_16 (M : gm_M) : ∀ n : Nat, M 16 0 ≤ gm_hrs M n 16 0
  | 0 => Nat.le_refl _
  | n + 1 => by
    have h1 := gm_hrs_16 M n
    have h2 := (gm_h2_16 (gm_hrs M n)).1
    show M 16 0 ≤ gm_hour (gm_hrs M n) 16 0
    rw [gm_hour_16]; omega
theorem gm_hrs_add (M : gm_M) (a : Nat) : ∀ b : Nat, gm_hrs M (a + b) = gm_hrs (gm_hrs M a) b
  | 0 => rfl
  | b + 1 => by
    show gm_hour (gm_hrs M (a + b)) = gm_hour (gm_hrs (gm_hrs M a) b)
    rw [gm_hrs_add M a b]
/-! when all is ground -/
def gm_all (M : gm_M) : Prop := ∀ i, i < M 11 0 → M 8 i ≠ 0
theorem gm_gct_le (M : gm_M) : ∀ n : Nat, gm_gct M n ≤ n
  | 0 => Nat.le_refl 0
  | n + 1 => by
    have := gm_gct_le M n
    show gm_gct M n + (if M 8 n = 0 then 0 else 1) ≤ n + 1
    split <;> omega
theorem gm_gct_all {M : gm_M} : ∀ n : Nat, n ≤ gm_gct M n → ∀ i, i < n → M 8 i ≠ 0
  | 0, _, i, h => absurd h (Nat.not_lt_zero i)
  | n + 1, hn, i, h => by
    have hu : gm_gct M (n + 1) = gm_gct M n + (if M 8 n = 0 then 0 else 1) := rfl
    have hle := gm_gct_le M n
    rw [hu] at hn
    by_cases h8 : M 8 n = 0
    · rw [if_pos h8] at hn; omega
    · rw [if_neg h8] at hn
      by_cases hi : i = n
      · rw [hi]; exact h8
      · exact gm_gct_all n (by omega) i (by omega)
theorem gm_nxt_all {M : gm_M} {f : Nat} : ∀ n : Nat, (∀ i, i < n → M 8 i ≠ 0) → gm_nxt M f n = 0
  | 0, _ => rfl
  | n + 1, h => by
    show (if M 8 n = 0 ∧ (f = 0 ∨ M 7 n = 0) ∧ (gm_nxt M f n = 0 ∨ gm_trn M n < gm_trn M (gm_nxt M f n - 1)) then n + 1 else gm_nxt M f n) = 0
    rw [if_neg (fun q => h n (Nat.lt_succ_self n) q.1)]
    exact gm_nxt_all n (fun i hi => h i (Nat.lt_succ_of_lt hi))
theorem gm_fil_all {M : gm_M} (wf : gm_wf M) (h : gm_all M) : ∀ m : Nat, gm_same M (gm_fil M m)
  | 0 => gm_same_rf M
  | m + 1 => by
    have ih := gm_fil_all wf h m
    have e11 : gm_fil M m 11 0 = M 11 0 := ih 11 0 (by omega)
    refine gm_same_tr ih ?_
    show gm_same (gm_fil M m) (gm_fs (gm_fil M m) m)
    rcases gm_fs_cases (gm_fil M m) m with ⟨_, h2, _⟩ | ⟨_, h⟩
    · exact absurd (gm_nxt_all _ (fun i hi => by rw [e11] at hi; rw [ih 8 i (by omega)]; exact h i hi)) h2
    · rw [h]; exact gm_same_set3 _ _ _
theorem gm_grd_all {b : Nat} {M : gm_M} (h : ∀ i, i < M 11 0 → M 7 i = 0) : ∀ m : Nat, gm_grd b M m = M
  | 0 => rfl
  | m + 1 => by
    show gm_gs b (gm_grd b M m) m = M
    rw [gm_grd_all h m]
    exact gm_gs_0 (gm_who_zero _ (fun k hk => by rw [h k hk]; omega))
theorem gm_hour_all {M : gm_M} (wf : gm_wf M) (h : gm_all M) : gm_same (gm_inc M) (gm_hour M) := by
  have on0 : ∀ i, i < M 11 0 → M 7 i = 0 := fun i hi => ((wf.2.2.2.2.2.2.1 i hi).2.2.2.2.2.1 (h i hi)).1
  have t1 : gm_same M (gm_tk M) := by
    unfold gm_tk
    split
    · exact gm_same_rf M
    · intro k i hk
      by_cases h7 : k = 7
      · subst h7
        rw [gm_tkp_7, on0 i (by omega)]
        split <;> rfl
      · exact gm_tkp_ne M _ i h7
  have wf1 := gm_tk_wf wf
  have a1 : gm_all (gm_tk M) := fun i hi => by
    rw [gm_tk_ne M 0 (by decide)] at hi
    rw [gm_tk_ne M i (by decide)]
    exact h i hi
  have t2 : gm_same M (gm_h1 M) := gm_same_tr t1 (gm_fil_all wf1 a1 _)
  have e11 : gm_h1 M 11 0 = M 11 0 := t2 11 0 (by omega)
  have t3 : gm_h2 M = gm_h1 M := gm_grd_all (fun i hi => by rw [e11] at hi; rw [t2 7 i (by omega)]; exact on0 i hi) _
  have t4 : ∀ k i, gm_inc (gm_h2 M) k i = if k = 9 ∧ i = 0 then M 9 0 + 1 else gm_h1 M k i := by
    intro k i
    rw [t3]
    unfold gm_inc gm_set
    rw [t2 9 0 (by omega)]
  intro k i hk
  rw [gm_inc_ne M 0 (by decide)] at hk
  have f8 : gm_inc (gm_h2 M) 8 i = gm_h1 M 8 i := by rw [t4, if_neg (by omega)]
  have f7 : gm_inc (gm_h2 M) 7 i = gm_h1 M 7 i := by rw [t4, if_neg (by omega)]
  show gm_fnp (gm_inc (gm_h2 M)) (M 11 0) k i = gm_inc M k i
  by_cases h8 : k = 8
  · subst h8
    rw [gm_fnp_8, f7, t2 7 i (by omega), on0 i (by omega), if_neg (by omega), f8, t2 8 i (by omega), gm_inc_ne M i (by decide)]
  · by_cases h7 : k = 7
    · subst h7
      rw [gm_fnp_7, f7, t2 7 i (by omega), on0 i (by omega), if_neg (by omega), gm_inc_ne M i (by decide), on0 i (by omega)]
    · rw [gm_fnp_ne _ _ i h8 h7, t4]
      unfold gm_inc gm_set
      by_cases h9 : k = 9 ∧ i = 0
      · rw [if_pos h9, if_pos h9]
      · rw [if_neg h9, if_neg h9]; exact t2 k i hk
theorem gm_hrs_all {M : gm_M} (wf : gm_wf M) (h : gm_all M) : ∀ n : Nat, gm_same (gm_set M 9 0 (M 9 0 + n)) (gm_hrs M n) ∧ gm_all (gm_hrs M n)
  | 0 => ⟨fun k i _ => by
      show M k i = gm_set M 9 0 (M 9 0) k i
      unfold gm_set
      by_cases q : k = 9 ∧ i = 0
      · rw [if_pos q, q.1, q.2]
      · rw [if_neg q], h⟩
  | n + 1 => by
    obtain ⟨ih, ia⟩ := gm_hrs_all wf h n
    have ho := gm_hour_all (gm_hrs_wf wf n) ia
    have e11 : gm_hrs M n 11 0 = M 11 0 := gm_hrs_ne M 0 (by decide) (by decide) (by decide) (by decide) (by decide) (by decide) (by decide) n
    have s1 : gm_same (gm_set M 9 0 (M 9 0 + (n + 1))) (gm_inc (gm_hrs M n)) := by
      intro k i hk
      rw [gm_set_k _ _ (by decide)] at hk
      unfold gm_inc gm_set
      by_cases q : k = 9 ∧ i = 0
      · rw [if_pos q, if_pos q, gm_hrs_9]; omega
      · rw [if_neg q, if_neg q]
        have := ih k i (by rw [gm_set_k _ _ (by decide)]; exact hk)
        rw [this]
        unfold gm_set
        rw [if_neg q]
    refine ⟨gm_same_tr s1 ho, fun i hi => ?_⟩
    have e : gm_hrs M (n + 1) 11 0 = M 11 0 := gm_hrs_ne M 0 (by decide) (by decide) (by decide) (by decide) (by decide) (by decide) (by decide) (n + 1)
    rw [e] at hi
    have := ho 8 i (by rw [gm_inc_ne _ _ (by decide), e11]; omega)
    rw [show gm_hrs M (n + 1) = gm_hour (gm_hrs M n) from rfl, this, gm_inc_ne _ _ (by decide)]
    exact ia i (by rw [e11]; exact hi)
/-! further facts that walks ask for -/
theorem nx_xor (a b : Nat) : nI a ^^^ nI b = nI (a ^^^ b) := by
  apply Int32.toBitVec_inj.1
  show BitVec.ofNat 32 a ^^^ BitVec.ofNat 32 b = BitVec.ofNat 32 (a ^^^ b)
  apply BitVec.eq_of_getLsbD_eq
  intro i hi
  simp [hi]
theorem gm_xpos {a b : Nat} (ha : a < 2 ^ 31) (hb : b < 2 ^ 31) : nI 0 ≤ nI a ^^^ nI b := by
  rw [nx_xor]
  exact nI_pos' (Nat.xor_lt_two_pow ha hb)
theorem gm_min {a b : Nat} (ha : a < 2 ^ 31) (hb : b < 2 ^ 31) : (if nI b < nI a then nI b else nI a) = nI (min a b) := by
  by_cases h : b < a
  · rw [if_pos ((nI_ltI hb ha).mpr h), Nat.min_eq_right (Nat.le_of_lt h)]
  · rw [if_neg (fun q => h ((nI_ltI hb ha).mp q)), Nat.min_eq_left (Nat.le_of_not_lt h)]
theorem gm_max0 {d u : Nat} (h : d ≠ 0) (hd : d < 2 ^ 30) (hu : u < 2 ^ 30) : (if nI 0 < gm_e d - nI u then gm_e d - nI u else nI 0) = nI (d - 1 - u) := by
  rw [gm_e_pred h]
  have ht : (nI (d - 1) - nI u).toInt = ((d - 1 : Nat) : Int) - u := pk_sub_toInt (by omega) hu
  by_cases h1 : u < d - 1
  · rw [if_pos (by rw [Int32.lt_iff_toInt_lt, ht, nI_toInt (by decide)]; omega), pk_sub (Nat.le_of_lt h1)]
  · rw [if_neg (by rw [Int32.lt_iff_toInt_lt, ht, nI_toInt (by decide)]; omega), Nat.sub_eq_zero_of_le (Nat.le_of_not_lt h1)]
theorem gc_rep_b3 {F : Nat → Int32} {B : Nat → Nat → Int32} {M : gm_M} (f : Nat → Int32) (h : gc_rep F B M) : gc_rep F (gc_up B 3 f) M := by
  obtain ⟨⟨h9, h10, h11, h12, h13, h14, h15⟩, r0, r1, r2, r4, r5, r6, r7, r8⟩ := h
  exact ⟨⟨h9, h10, h11, h12, h13, h14, h15⟩, r0, r1, r2, r4, r5, r6, r7, r8⟩
theorem gc_rep_9 {F : Nat → Int32} {B : Nat → Nat → Int32} {M : gm_M} {v : Nat} (h : gc_rep F B M) : gc_rep (upd F 9 (nI v)) B (gm_set M 9 0 v) := by
  obtain ⟨⟨h9, h10, h11, h12, h13, h14, h15⟩, r0, r1, r2, r4, r5, r6, r7, r8⟩ := h
  have e : ∀ k i, k ≠ 9 → gm_set M 9 0 v k i = M k i := fun k i h => gm_set_k M i h
  have e11 : gm_set M 9 0 v 11 0 = M 11 0 := e 11 0 (by decide)
  have e10 : gm_set M 9 0 v 10 0 = M 10 0 := e 10 0 (by decide)
  refine ⟨⟨?_, ?_, ?_, ?_, ?_, ?_, ?_⟩, ?_, ?_, ?_, ?_, ?_, ?_, ?_, ?_⟩
  · rw [gm_set_at]; rfl
  · rw [e10]; exact h10
  · rw [e11]; exact h11
  · rw [e11, gm_gct_congr (M := M) _ (fun k hk => e 8 k (by decide))]; exact h12
  · rw [e 13 0 (by decide)]; exact h13
  · rw [e 14 0 (by decide)]; exact h14
  · rw [e 15 0 (by decide)]; exact h15
  · intro i hi; rw [e 0 i (by decide)]; exact r0 i hi
  · intro i hi; rw [e10] at hi; rw [e 1 i (by decide)]; exact r1 i hi
  · intro i hi; rw [e10] at hi; rw [e11, gm_who_congr (M := M) _ (fun k hk => e 7 k (by decide))]; exact r2 i hi
  · intro i hi; rw [e11] at hi; rw [e 4 i (by decide)]; exact r4 i hi
  · intro i hi; rw [e11] at hi; rw [e 5 i (by decide)]; exact r5 i hi
  · intro i hi; rw [e11] at hi; rw [e 6 i (by decide)]; exact r6 i hi
  · intro i hi; rw [e11] at hi; rw [e 7 i (by decide)]; exact r7 i hi
  · intro i hi; rw [e11] at hi; rw [e 8 i (by decide)]; exact r8 i hi
theorem gm_set_self (M : gm_M) (k i : Nat) : gm_set M k i (M k i) = M := by
  funext k' i'
  unfold gm_set
  by_cases h : k' = k ∧ i' = i
  · rw [if_pos h, h.1, h.2]
  · rw [if_neg h]
theorem gm_fnc_wf {X : gm_M} (wf : gm_wf X) (n : Nat) : gm_wf (gm_fnc X n) := by
  have hap := gm_fnc_ap n (gm_wf_ap wf)
  obtain ⟨w1, w2, w3, w4, w5, w6, w7, w8⟩ := wf
  have e : ∀ k i, k ≠ 8 → k ≠ 7 → gm_fnc X n k i = X k i := fun k i h1 h2 => gm_fnc_ne X n i h1 h2
  have e11 : gm_fnc X n 11 0 = X 11 0 := e 11 0 (by decide) (by decide)
  have e10 : gm_fnc X n 10 0 = X 10 0 := e 10 0 (by decide) (by decide)
  refine ⟨by rw [e10]; exact w1, by rw [e11]; exact w2, by rw [e 14 0 (by decide) (by decide)]; exact w3, by rw [e 15 0 (by decide) (by decide)]; exact w4, fun i hi => ?_, fun i hi => ?_, fun i hi => ?_, hap⟩
  · rw [e 0 i (by decide) (by decide)]; exact w5 i hi
  · rw [e10] at hi; rw [e 1 i (by decide) (by decide)]; exact w6 i hi
  · rw [e11] at hi
    rw [e 4 i (by decide) (by decide), e 5 i (by decide) (by decide), e 6 i (by decide) (by decide), e10, e 9 0 (by decide) (by decide), gm_fnc_7, gm_fnc_8]
    obtain ⟨a1, a2, a3, a4, a5, a6, a7⟩ := w7 i hi
    by_cases h : X 7 i ≠ 0 ∧ X 7 i ≤ n ∧ X 5 i = 0
    · rw [if_pos h, if_pos h]
      exact ⟨a1, a2, a3, a4, Nat.zero_le _, fun _ => ⟨rfl, h.2.2⟩, Nat.le_refl _⟩
    · rw [if_neg h, if_neg h]
      exact ⟨a1, a2, a3, a4, a5, a6, a7⟩
/-- a new stone, a new sack -/
def gm_adds (M : gm_M) (v : Nat) : gm_M := gm_set (gm_set M 1 (M 10 0) v) 10 0 (M 10 0 + 1)
def gm_add (M : gm_M) (b g u : Nat) : gm_M := fun k i => if i = M 11 0 ∧ 4 ≤ k ∧ k ≤ 8 then (if k = 4 then b else if k = 5 then g else if k = 6 then u else 0) else if k = 11 ∧ i = 0 then M 11 0 + 1 else M k i
theorem gm_add_k (M : gm_M) (b g u i : Nat) {k : Nat} (h : k < 4 ∨ 8 < k) (h11 : k ≠ 11) : gm_add M b g u k i = M k i := by
  unfold gm_add
  rw [if_neg (by omega), if_neg (by omega)]
theorem gm_add_i (M : gm_M) (b g u : Nat) {i k : Nat} (h4 : 4 ≤ k) (h8 : k ≤ 8) (hi : i ≠ M 11 0) : gm_add M b g u k i = M k i := by
  unfold gm_add
  rw [if_neg (by omega), if_neg (by omega)]
theorem gm_add_11 (M : gm_M) (b g u : Nat) : gm_add M b g u 11 0 = M 11 0 + 1 := by
  unfold gm_add
  rw [if_neg (by omega), if_pos ⟨rfl, rfl⟩]
theorem gm_add_at (M : gm_M) (b g u : Nat) : gm_add M b g u 4 (M 11 0) = b ∧ gm_add M b g u 5 (M 11 0) = g ∧ gm_add M b g u 6 (M 11 0) = u ∧ gm_add M b g u 7 (M 11 0) = 0 ∧ gm_add M b g u 8 (M 11 0) = 0 := by
  unfold gm_add
  refine ⟨?_, ?_, ?_, ?_, ?_⟩ <;> rw [if_pos (by omega)] <;> simp
theorem gm_who_ext {M X : gm_M} {m n : Nat} (h : ∀ k, k < n → X 7 k = M 7 k) (hn : X 7 n ≠ m + 1) : gm_who X m (n + 1) = gm_who M m n := by
  show (if gm_who X m n ≠ 0 then gm_who X m n else if X 7 n = m + 1 then n + 1 else 0) = gm_who M m n
  rw [gm_who_congr n h, if_neg hn]
  split
  · rfl
  · omega
theorem gc_rep_adds {F : Nat → Int32} {B : Nat → Nat → Int32} {M : gm_M} {v : Nat} (wf : gm_wf M) (h : gc_rep F B M) :
    gc_rep (upd F 10 (nI (M 10 0 + 1))) (gc_up (gc_up B 1 (upd (B 1) (M 10 0) (nI v))) 2 (upd (B 2) (M 10 0) (-1))) (gm_adds M v) := by
  obtain ⟨⟨h9, h10, h11, h12, h13, h14, h15⟩, r0, r1, r2, r4, r5, r6, r7, r8⟩ := h
  have w7 := wf.2.2.2.2.2.2.1
  have e : ∀ k i, k ≠ 1 → k ≠ 10 → gm_adds M v k i = M k i := fun k i h1 h2 => by unfold gm_adds; rw [gm_set_k _ _ h2, gm_set_k _ _ h1]
  have e11 : gm_adds M v 11 0 = M 11 0 := e 11 0 (by decide) (by decide)
  have e10 : gm_adds M v 10 0 = M 10 0 + 1 := gm_set_at _ _ _ _
  refine ⟨⟨?_, ?_, ?_, ?_, ?_, ?_, ?_⟩, ?_, ?_, ?_, ?_, ?_, ?_, ?_, ?_⟩
  · rw [e 9 0 (by decide) (by decide)]; exact h9
  · rw [e10]; rfl
  · rw [e11]; exact h11
  · rw [e11, gm_gct_congr (M := M) _ (fun k hk => e 8 k (by decide) (by decide))]; exact h12
  · rw [e 13 0 (by decide) (by decide)]; exact h13
  · rw [e 14 0 (by decide) (by decide)]; exact h14
  · rw [e 15 0 (by decide) (by decide)]; exact h15
  · intro i hi; rw [e 0 i (by decide) (by decide)]; exact r0 i hi
  · intro i hi
    rw [e10] at hi
    show upd (B 1) (M 10 0) (nI v) i = _
    unfold gm_adds
    rw [gm_set_k _ _ (by decide)]
    by_cases hi2 : i = M 10 0
    · rw [hi2, pk_us, gm_set_at]
    · rw [pk_un hi2, gm_set_i _ _ hi2]; exact r1 i (by omega)
  · intro i hi
    rw [e10] at hi
    rw [e11, gm_who_congr (M := M) _ (fun k hk => e 7 k (by decide) (by decide))]
    show upd (B 2) (M 10 0) (-1) i = _
    by_cases hi2 : i = M 10 0
    · rw [hi2, pk_us, gm_who_zero]
      · rfl
      · intro k hk
        have := (w7 k hk).2.2.2.2.1
        omega
    · rw [pk_un hi2]; exact r2 i (by omega)
  · intro i hi; rw [e11] at hi; rw [e 4 i (by decide) (by decide)]; exact r4 i hi
  · intro i hi; rw [e11] at hi; rw [e 5 i (by decide) (by decide)]; exact r5 i hi
  · intro i hi; rw [e11] at hi; rw [e 6 i (by decide) (by decide)]; exact r6 i hi
  · intro i hi; rw [e11] at hi; rw [e 7 i (by decide) (by decide)]; exact r7 i hi
  · intro i hi; rw [e11] at hi; rw [e 8 i (by decide) (by decide)]; exact r8 i hi
theorem gm_gct_ext {M X : gm_M} {n : Nat} (h : ∀ k, k < n → X 8 k = M 8 k) (hn : X 8 n = 0) : gm_gct X (n + 1) = gm_gct M n := by
  show gm_gct X n + (if X 8 n = 0 then 0 else 1) = gm_gct M n
  rw [gm_gct_congr n h, if_pos hn, Nat.add_zero]
theorem gc_rep_add {F : Nat → Int32} {B : Nat → Nat → Int32} {M : gm_M} {b g u : Nat} (h : gc_rep F B M) :
    gc_rep (upd F 11 (nI (M 11 0 + 1))) (gc_up (gc_up (gc_up (gc_up (gc_up B 4 (upd (B 4) (M 11 0) (nI b))) 5 (upd (B 5) (M 11 0) (nI g))) 6 (upd (B 6) (M 11 0) (nI u))) 7 (upd (B 7) (M 11 0) (-1))) 8 (upd (B 8) (M 11 0) (-1))) (gm_add M b g u) := by
  obtain ⟨⟨h9, h10, h11, h12, h13, h14, h15⟩, r0, r1, r2, r4, r5, r6, r7, r8⟩ := h
  have e : ∀ k i, (k < 4 ∨ 8 < k) → k ≠ 11 → gm_add M b g u k i = M k i := fun k i h1 h2 => gm_add_k M b g u i h1 h2
  have ei : ∀ k i, 4 ≤ k → k ≤ 8 → i ≠ M 11 0 → gm_add M b g u k i = M k i := fun k i h1 h2 h3 => gm_add_i M b g u h1 h2 h3
  obtain ⟨a4, a5, a6, a7, a8⟩ := gm_add_at M b g u
  have e11 : gm_add M b g u 11 0 = M 11 0 + 1 := gm_add_11 M b g u
  have e10 : gm_add M b g u 10 0 = M 10 0 := e 10 0 (by decide) (by decide)
  refine ⟨⟨?_, ?_, ?_, ?_, ?_, ?_, ?_⟩, ?_, ?_, ?_, ?_, ?_, ?_, ?_, ?_⟩
  · rw [e 9 0 (by decide) (by decide)]; exact h9
  · rw [e10]; exact h10
  · rw [e11]; rfl
  · rw [e11, gm_gct_ext (M := M) (fun k hk => ei 8 k (by decide) (by decide) (by omega)) a8]; exact h12
  · rw [e 13 0 (by decide) (by decide)]; exact h13
  · rw [e 14 0 (by decide) (by decide)]; exact h14
  · rw [e 15 0 (by decide) (by decide)]; exact h15
  · intro i hi; rw [e 0 i (by decide) (by decide)]; exact r0 i hi
  · intro i hi; rw [e10] at hi; rw [e 1 i (by decide) (by decide)]; exact r1 i hi
  · intro i hi
    rw [e10] at hi
    rw [e11, gm_who_ext (M := M) (fun k hk => ei 7 k (by decide) (by decide) (by omega)) (by rw [a7]; omega)]; exact r2 i hi
  all_goals (intro i hi; rw [e11] at hi)
  · show upd (B 4) (M 11 0) (nI b) i = _
    by_cases hi2 : i = M 11 0
    · rw [hi2, pk_us, a4]
    · rw [pk_un hi2, ei 4 i (by decide) (by decide) hi2]; exact r4 i (by omega)
  · show upd (B 5) (M 11 0) (nI g) i = _
    by_cases hi2 : i = M 11 0
    · rw [hi2, pk_us, a5]
    · rw [pk_un hi2, ei 5 i (by decide) (by decide) hi2]; exact r5 i (by omega)
  · show upd (B 6) (M 11 0) (nI u) i = _
    by_cases hi2 : i = M 11 0
    · rw [hi2, pk_us, a6]
    · rw [pk_un hi2, ei 6 i (by decide) (by decide) hi2]; exact r6 i (by omega)
  · show upd (B 7) (M 11 0) (-1) i = _
    by_cases hi2 : i = M 11 0
    · rw [hi2, pk_us, a7]; rfl
    · rw [pk_un hi2, ei 7 i (by decide) (by decide) hi2]; exact r7 i (by omega)
  · show upd (B 8) (M 11 0) (-1) i = _
    by_cases hi2 : i = M 11 0
    · rw [hi2, pk_us, a8]; rfl
    · rw [pk_un hi2, ei 8 i (by decide) (by decide) hi2]; exact r8 i (by omega)
theorem gm_adds_wf {M : gm_M} {v : Nat} (wf : gm_wf M) (h : M 10 0 < 4) (h1 : 1 ≤ v) (h9 : v ≤ 9) : gm_wf (gm_adds M v) := by
  obtain ⟨w1, w2, w3, w4, w5, w6, w7, w8⟩ := wf
  have e : ∀ k i, k ≠ 1 → k ≠ 10 → gm_adds M v k i = M k i := fun k i h1 h2 => by unfold gm_adds; rw [gm_set_k _ _ h2, gm_set_k _ _ h1]
  have e11 : gm_adds M v 11 0 = M 11 0 := e 11 0 (by decide) (by decide)
  have e10 : gm_adds M v 10 0 = M 10 0 + 1 := gm_set_at _ _ _ _
  refine ⟨by rw [e10]; omega, by rw [e11]; exact w2, by rw [e 14 0 (by decide) (by decide)]; exact w3, by rw [e 15 0 (by decide) (by decide)]; exact w4, fun i hi => ?_, fun i hi => ?_, fun i hi => ?_, fun i j hi hj => ?_⟩
  · rw [e 0 i (by decide) (by decide)]; exact w5 i hi
  · rw [e10] at hi
    unfold gm_adds
    rw [gm_set_k _ _ (by decide)]
    by_cases hi2 : i = M 10 0
    · rw [hi2, gm_set_at]; omega
    · rw [gm_set_i _ _ hi2]; exact w6 i (by omega)
  · rw [e11] at hi
    rw [e 4 i (by decide) (by decide), e 5 i (by decide) (by decide), e 6 i (by decide) (by decide), e 7 i (by decide) (by decide), e 8 i (by decide) (by decide), e10, e 9 0 (by decide) (by decide)]
    obtain ⟨a1, a2, a3, a4, a5, a6, a7⟩ := w7 i hi
    exact ⟨a1, a2, a3, a4, by omega, a6, a7⟩
  · rw [e11] at hi hj
    rw [e 7 i (by decide) (by decide), e 7 j (by decide) (by decide)]
    exact w8 i j hi hj
theorem gm_adds_rest {M : gm_M} {v : Nat} (h : gm_rest M) : gm_rest (gm_adds M v) := by
  have e : ∀ k i, k ≠ 1 → k ≠ 10 → gm_adds M v k i = M k i := fun k i h1 h2 => by unfold gm_adds; rw [gm_set_k _ _ h2, gm_set_k _ _ h1]
  intro i hi
  rw [e 11 0 (by decide) (by decide)] at hi
  rw [e 5 i (by decide) (by decide), e 8 i (by decide) (by decide)]
  exact h i hi
theorem gm_add_wf {M : gm_M} {b g u : Nat} (wf : gm_wf M) (h : M 11 0 < 16) (hb : b ≤ 7) (hg : g ≤ 60) (hu1 : 1 ≤ u) (hu2 : u ≤ 200) : gm_wf (gm_add M b g u) := by
  obtain ⟨w1, w2, w3, w4, w5, w6, w7, w8⟩ := wf
  have e : ∀ k i, (k < 4 ∨ 8 < k) → k ≠ 11 → gm_add M b g u k i = M k i := fun k i h1 h2 => gm_add_k M b g u i h1 h2
  have ei : ∀ k i, 4 ≤ k → k ≤ 8 → i ≠ M 11 0 → gm_add M b g u k i = M k i := fun k i h1 h2 h3 => gm_add_i M b g u h1 h2 h3
  obtain ⟨a4, a5, a6, a7, a8⟩ := gm_add_at M b g u
  have e11 : gm_add M b g u 11 0 = M 11 0 + 1 := gm_add_11 M b g u
  have e10 : gm_add M b g u 10 0 = M 10 0 := e 10 0 (by decide) (by decide)
  refine ⟨by rw [e10]; exact w1, by rw [e11]; omega, by rw [e 14 0 (by decide) (by decide)]; exact w3, by rw [e 15 0 (by decide) (by decide)]; exact w4, fun i hi => ?_, fun i hi => ?_, fun i hi => ?_, fun i j hi hj hij hn => ?_⟩
  · rw [e 0 i (by decide) (by decide)]; exact w5 i hi
  · rw [e10] at hi; rw [e 1 i (by decide) (by decide)]; exact w6 i hi
  · rw [e11] at hi
    rw [e10, e 9 0 (by decide) (by decide)]
    by_cases hi2 : i = M 11 0
    · rw [hi2, a4, a5, a6, a7, a8]
      exact ⟨hb, hg, hu1, hu2, Nat.zero_le _, fun q => absurd rfl q, Nat.zero_le _⟩
    · rw [ei 4 i (by decide) (by decide) hi2, ei 5 i (by decide) (by decide) hi2, ei 6 i (by decide) (by decide) hi2, ei 7 i (by decide) (by decide) hi2, ei 8 i (by decide) (by decide) hi2]
      exact w7 i (by omega)
  · rw [e11] at hi hj
    by_cases hi2 : i = M 11 0
    · rw [hi2, a7] at hn; exact absurd rfl hn
    · rw [ei 7 i (by decide) (by decide) hi2] at hij hn
      by_cases hj2 : j = M 11 0
      · rw [hj2, a7] at hij; exact absurd hij hn
      · rw [ei 7 j (by decide) (by decide) hj2] at hij
        exact w8 i j (by omega) (by omega) hij hn
theorem gm_add_rest {M : gm_M} {b g u : Nat} (h : gm_rest M) (hg : 1 ≤ g) : gm_rest (gm_add M b g u) := by
  obtain ⟨a4, a5, a6, a7, a8⟩ := gm_add_at M b g u
  intro i hi
  rw [gm_add_11] at hi
  by_cases hi2 : i = M 11 0
  · rw [hi2, a5]; omega
  · rw [gm_add_i _ _ _ _ (by decide) (by decide) hi2, gm_add_i _ _ _ _ (by decide) (by decide) hi2]
    exact h i (by omega)
theorem gm_h1_eq (M : gm_M) : gm_fil (gm_tk M) (gm_tk M 10 0) = gm_h1 M := by unfold gm_h1; rw [gm_tk_ne M 0 (by decide)]
theorem gm_h2_eq (M : gm_M) : gm_grd (gm_h1 M 16 0 + gm_wnd (gm_h1 M)) (gm_h1 M) (gm_h1 M 10 0) = gm_h2 M := by
  have e : ∀ k i, k ≠ 3 → k ≠ 7 → k ≠ 13 → gm_h1 M k i = M k i := fun k i h3 h7 h13 => gm_h1_ne M i h3 h7 h13
  have ew : gm_wnd (gm_h1 M) = gm_wnd M := by unfold gm_wnd; rw [e 9 0 (by decide) (by decide) (by decide), e 0 _ (by decide) (by decide) (by decide)]
  unfold gm_h2
  rw [ew, e 16 0 (by decide) (by decide) (by decide), e 10 0 (by decide) (by decide) (by decide)]
theorem gm_hour_eq (M : gm_M) : gm_fnp (gm_inc (gm_h2 M)) (gm_inc (gm_h2 M) 11 0) = gm_hour M := by
  unfold gm_hour
  rw [gm_inc_ne _ _ (by decide), gm_h2_ne M 0 (by decide) (by decide) (by decide) (by decide) (by decide)]
end
section
/-! MY ROWS: a configuration of a method (world, locals, stack) at a program counter; one row an instruction. Written by wip/p35/gen_kit.py. -/
section GK
variable {p : Program} {l : Launch} {e : Env} {R : Room} {s : State} {m : MethodId} {args : Array Value} {below : List Frame} {meth : Method} {c : Code}
variable {own : String} {nL : Nat} {cc : ByteArray} {Ts : List Cond} {D : va_G} {tys : List (ClassId × FieldType)} {A : Nat → Prop} {cells slots pc : Nat} {Q : State → Prop} {w : va_W} {lv : List (Nat × Value)} {st : List Value} {a : Nat} {ret : Option FieldType}
/-- what stays the same along a method -/
def gk_G (p : Program) (s : State) (m : MethodId) (args : Array Value) (meth : Method) (c : Code) (own : String) (nL : Nat) (cc : ByteArray) (ret : Option FieldType) (Ts : List Cond) (D : va_G) (tys : List (ClassId × FieldType)) (A : Nat → Prop) : Prop :=
  p.tables.exec = Jvm.exec ∧ c.code = cc ∧ c.maxLocals = nL ∧ s.vm.findClass own = some m.cls ∧ (∀ w ∈ Ts, w.before args s = true) ∧ va_K D vwCl tys s ∧ (∀ q : Nat, s.heap.size ≤ q → A q) ∧ meth.sig.returnType = ret ∧ meth.locks = false
/-- the machine at pc, with this world, these locals, this stack, comes to Q -/
def gk_C (p : Program) (l : Launch) (e : Env) (R : Room) (s : State) (m : MethodId) (args : Array Value) (below : List Frame) (meth : Method) (c : Code) (nL : Nat) (D : va_G) (A : Nat → Prop) (Q : State → Prop) (cells slots : Nat) (w : va_W) (lv : List (Nat × Value)) (pc : Nat) (st : List Value) : Prop :=
  ∀ (H : Heap) (locs : List Loc) (ls : Array Slot), va_P D vwCl w H → va_D A w → va_S A s.heap H locs → lv_has ls nL lv → W p l e R s m args below meth c H locs cells slots Q (F0 m pc ls st)

theorem gk_iconst (G : gk_G p s m args meth c own nL cc ret Ts D tys A) {n : Int} {v : Int32} (d : decode cc pc = .ok (.iconst n, 1)) (hv : Int32.ofInt n = v) (K : gk_C p l e R s m args below meth c nL D A Q cells slots w lv (pc + 1) (.int v :: st)) : gk_C p l e R s m args below meth c nL D A Q cells slots w lv (pc) (st) :=
  fun H locs ls hP hD hS hl => lv_iconst G.1 G.2.1 d hv (K H locs ls hP hD hS hl)
theorem gk_bipush (G : gk_G p s m args meth c own nL cc ret Ts D tys A) {n : Int} {v : Int32} (d : decode cc pc = .ok (.bipush n, 2)) (hv : (Int8.ofInt n).toInt32 = v) (K : gk_C p l e R s m args below meth c nL D A Q cells slots w lv (pc + 2) (.int v :: st)) : gk_C p l e R s m args below meth c nL D A Q cells slots w lv (pc) (st) :=
  fun H locs ls hP hD hS hl => lv_bipush G.1 G.2.1 d hv (K H locs ls hP hD hS hl)
theorem gk_sipush (G : gk_G p s m args meth c own nL cc ret Ts D tys A) {n : Int} {v : Int32} (d : decode cc pc = .ok (.sipush n, 3)) (hv : (Int16.ofInt n).toInt32 = v) (K : gk_C p l e R s m args below meth c nL D A Q cells slots w lv (pc + 3) (.int v :: st)) : gk_C p l e R s m args below meth c nL D A Q cells slots w lv (pc) (st) :=
  fun H locs ls hP hD hS hl => lv_sipush G.1 G.2.1 d hv (K H locs ls hP hD hS hl)
theorem gk_lconst (G : gk_G p s m args meth c own nL cc ret Ts D tys A) {n : Fin 2} {v : Int64} (d : decode cc pc = .ok (.lconst n, 1)) (hv : Int64.ofNat (n : Nat) = v) (K : gk_C p l e R s m args below meth c nL D A Q cells slots w lv (pc + 1) (.long v :: st)) : gk_C p l e R s m args below meth c nL D A Q cells slots w lv (pc) (st) :=
  fun H locs ls hP hD hS hl => lv_lconst G.1 G.2.1 d hv (K H locs ls hP hD hS hl)
theorem gk_ldc2 (G : gk_G p s m args meth c own nL cc ret Ts D tys A) {index : Nat} {v : Int64} (hc : (Jvm.Cond.constantLong own index v).before args s = true) (d : decode cc pc = .ok (.ldc2_w index, 3)) (K : gk_C p l e R s m args below meth c nL D A Q cells slots w lv (pc + 3) (.long v :: st)) : gk_C p l e R s m args below meth c nL D A Q cells slots w lv (pc) (st) :=
  fun H locs ls hP hD hS hl => lv_ldc2 G.1 G.2.1 G.2.2.2.1 hc d (K H locs ls hP hD hS hl)
theorem gk_dconst0 (G : gk_G p s m args meth c own nL cc ret Ts D tys A) (d : decode cc pc = .ok (.dconst 0, 1)) (K : gk_C p l e R s m args below meth c nL D A Q cells slots w lv (pc + 1) (.double FP.dconst0 :: st)) : gk_C p l e R s m args below meth c nL D A Q cells slots w lv (pc) (st) :=
  fun H locs ls hP hD hS hl => lv_dconst0 G.1 G.2.1 d (K H locs ls hP hD hS hl)
theorem gk_iload_n (G : gk_G p s m args meth c own nL cc ret Ts D tys A) {k : Fin 4} {x : Int32} (d : decode cc pc = .ok (.iload_n k, 1)) (j : Nat) (h : lv[j]? = some ((k : Nat), .int x)) (K : gk_C p l e R s m args below meth c nL D A Q cells slots w lv (pc + 1) (.int x :: st)) : gk_C p l e R s m args below meth c nL D A Q cells slots w lv (pc) (st) :=
  fun H locs ls hP hD hS hl => lv_iload_n G.1 G.2.1 d rfl (lv_at hl j h) (K H locs ls hP hD hS hl)
theorem gk_iload (G : gk_G p s m args meth c own nL cc ret Ts D tys A) {i : Nat} {x : Int32} (d : decode cc pc = .ok (.iload i, 2)) (j : Nat) (h : lv[j]? = some (i, .int x)) (K : gk_C p l e R s m args below meth c nL D A Q cells slots w lv (pc + 2) (.int x :: st)) : gk_C p l e R s m args below meth c nL D A Q cells slots w lv (pc) (st) :=
  fun H locs ls hP hD hS hl => lv_iload G.1 G.2.1 d (lv_at hl j h) (K H locs ls hP hD hS hl)
theorem gk_istore_n (G : gk_G p s m args meth c own nL cc ret Ts D tys A) {k : Fin 4} {i : Nat} {x : Int32} {lv' : List (Nat × Value)} (d : decode cc pc = .ok (.istore_n k, 1)) (hi : (k : Nat) = i) (hn : i < nL) (h : (i, Value.int x) :: lv.filter (fun q => !(q.1 == i) && !(q.1 + 1 == i && q.2.category == 2)) = lv') (K : gk_C p l e R s m args below meth c nL D A Q cells slots w lv' (pc + 1) (st)) : gk_C p l e R s m args below meth c nL D A Q cells slots w lv (pc) (.int x :: st) :=
  fun H locs ls hP hD hS hl => lv_istore_n G.1 G.2.1 d hi hl hn h (fun ls' h' => K H locs ls' hP hD hS h')
theorem gk_istore (G : gk_G p s m args meth c own nL cc ret Ts D tys A) {i : Nat} {x : Int32} {lv' : List (Nat × Value)} (d : decode cc pc = .ok (.istore i, 2)) (hn : i < nL) (h : (i, Value.int x) :: lv.filter (fun q => !(q.1 == i) && !(q.1 + 1 == i && q.2.category == 2)) = lv') (K : gk_C p l e R s m args below meth c nL D A Q cells slots w lv' (pc + 2) (st)) : gk_C p l e R s m args below meth c nL D A Q cells slots w lv (pc) (.int x :: st) :=
  fun H locs ls hP hD hS hl => lv_istore G.1 G.2.1 d hl hn h (fun ls' h' => K H locs ls' hP hD hS h')
theorem gk_lload_n (G : gk_G p s m args meth c own nL cc ret Ts D tys A) {k : Fin 4} {x : Int64} (d : decode cc pc = .ok (.lload_n k, 1)) (j : Nat) (h : lv[j]? = some ((k : Nat), .long x)) (K : gk_C p l e R s m args below meth c nL D A Q cells slots w lv (pc + 1) (.long x :: st)) : gk_C p l e R s m args below meth c nL D A Q cells slots w lv (pc) (st) :=
  fun H locs ls hP hD hS hl => lv_lload_n G.1 G.2.1 d rfl (lv_at hl j h) (K H locs ls hP hD hS hl)
theorem gk_lload (G : gk_G p s m args meth c own nL cc ret Ts D tys A) {i : Nat} {x : Int64} (d : decode cc pc = .ok (.lload i, 2)) (j : Nat) (h : lv[j]? = some (i, .long x)) (K : gk_C p l e R s m args below meth c nL D A Q cells slots w lv (pc + 2) (.long x :: st)) : gk_C p l e R s m args below meth c nL D A Q cells slots w lv (pc) (st) :=
  fun H locs ls hP hD hS hl => lv_lload G.1 G.2.1 d (lv_at hl j h) (K H locs ls hP hD hS hl)
theorem gk_lstore_n (G : gk_G p s m args meth c own nL cc ret Ts D tys A) {k : Fin 4} {i : Nat} {x : Int64} {lv' : List (Nat × Value)} (d : decode cc pc = .ok (.lstore_n k, 1)) (hi : (k : Nat) = i) (hn : i + 1 < nL) (h : (i, Value.long x) :: lv.filter (fun q => !(q.1 == i) && (!(q.1 == i + 1) && !(q.1 + 1 == i && q.2.category == 2))) = lv') (K : gk_C p l e R s m args below meth c nL D A Q cells slots w lv' (pc + 1) (st)) : gk_C p l e R s m args below meth c nL D A Q cells slots w lv (pc) (.long x :: st) :=
  fun H locs ls hP hD hS hl => lv_lstore_n G.1 G.2.1 d hi hl hn h (fun ls' h' => K H locs ls' hP hD hS h')
theorem gk_lstore (G : gk_G p s m args meth c own nL cc ret Ts D tys A) {i : Nat} {x : Int64} {lv' : List (Nat × Value)} (d : decode cc pc = .ok (.lstore i, 2)) (hn : i + 1 < nL) (h : (i, Value.long x) :: lv.filter (fun q => !(q.1 == i) && (!(q.1 == i + 1) && !(q.1 + 1 == i && q.2.category == 2))) = lv') (K : gk_C p l e R s m args below meth c nL D A Q cells slots w lv' (pc + 2) (st)) : gk_C p l e R s m args below meth c nL D A Q cells slots w lv (pc) (.long x :: st) :=
  fun H locs ls hP hD hS hl => lv_lstore G.1 G.2.1 d hl hn h (fun ls' h' => K H locs ls' hP hD hS h')
theorem gk_aload_n (G : gk_G p s m args meth c own nL cc ret Ts D tys A) {k : Fin 4} {x : Nat} (d : decode cc pc = .ok (.aload_n k, 1)) (j : Nat) (h : lv[j]? = some ((k : Nat), .ref x)) (K : gk_C p l e R s m args below meth c nL D A Q cells slots w lv (pc + 1) (.ref x :: st)) : gk_C p l e R s m args below meth c nL D A Q cells slots w lv (pc) (st) :=
  fun H locs ls hP hD hS hl => lv_aload_n G.1 G.2.1 d rfl (lv_at hl j h) (K H locs ls hP hD hS hl)
theorem gk_aload (G : gk_G p s m args meth c own nL cc ret Ts D tys A) {i : Nat} {x : Nat} (d : decode cc pc = .ok (.aload i, 2)) (j : Nat) (h : lv[j]? = some (i, .ref x)) (K : gk_C p l e R s m args below meth c nL D A Q cells slots w lv (pc + 2) (.ref x :: st)) : gk_C p l e R s m args below meth c nL D A Q cells slots w lv (pc) (st) :=
  fun H locs ls hP hD hS hl => lv_aload G.1 G.2.1 d (lv_at hl j h) (K H locs ls hP hD hS hl)
theorem gk_astore_n (G : gk_G p s m args meth c own nL cc ret Ts D tys A) {k : Fin 4} {i : Nat} {x : Nat} {lv' : List (Nat × Value)} (d : decode cc pc = .ok (.astore_n k, 1)) (hi : (k : Nat) = i) (hn : i < nL) (h : (i, Value.ref x) :: lv.filter (fun q => !(q.1 == i) && !(q.1 + 1 == i && q.2.category == 2)) = lv') (K : gk_C p l e R s m args below meth c nL D A Q cells slots w lv' (pc + 1) (st)) : gk_C p l e R s m args below meth c nL D A Q cells slots w lv (pc) (.ref x :: st) :=
  fun H locs ls hP hD hS hl => lv_astore_n G.1 G.2.1 d hi hl hn h (fun ls' h' => K H locs ls' hP hD hS h')
theorem gk_astore (G : gk_G p s m args meth c own nL cc ret Ts D tys A) {i : Nat} {x : Nat} {lv' : List (Nat × Value)} (d : decode cc pc = .ok (.astore i, 2)) (hn : i < nL) (h : (i, Value.ref x) :: lv.filter (fun q => !(q.1 == i) && !(q.1 + 1 == i && q.2.category == 2)) = lv') (K : gk_C p l e R s m args below meth c nL D A Q cells slots w lv' (pc + 2) (st)) : gk_C p l e R s m args below meth c nL D A Q cells slots w lv (pc) (.ref x :: st) :=
  fun H locs ls hP hD hS hl => lv_astore G.1 G.2.1 d hl hn h (fun ls' h' => K H locs ls' hP hD hS h')
theorem gk_dload_n (G : gk_G p s m args meth c own nL cc ret Ts D tys A) {k : Fin 4} {x : UInt64} (d : decode cc pc = .ok (.dload_n k, 1)) (j : Nat) (h : lv[j]? = some ((k : Nat), .double x)) (K : gk_C p l e R s m args below meth c nL D A Q cells slots w lv (pc + 1) (.double x :: st)) : gk_C p l e R s m args below meth c nL D A Q cells slots w lv (pc) (st) :=
  fun H locs ls hP hD hS hl => lv_dload_n G.1 G.2.1 d rfl (lv_at hl j h) (K H locs ls hP hD hS hl)
theorem gk_dload (G : gk_G p s m args meth c own nL cc ret Ts D tys A) {i : Nat} {x : UInt64} (d : decode cc pc = .ok (.dload i, 2)) (j : Nat) (h : lv[j]? = some (i, .double x)) (K : gk_C p l e R s m args below meth c nL D A Q cells slots w lv (pc + 2) (.double x :: st)) : gk_C p l e R s m args below meth c nL D A Q cells slots w lv (pc) (st) :=
  fun H locs ls hP hD hS hl => lv_dload G.1 G.2.1 d (lv_at hl j h) (K H locs ls hP hD hS hl)
theorem gk_dstore_n (G : gk_G p s m args meth c own nL cc ret Ts D tys A) {k : Fin 4} {i : Nat} {x : UInt64} {lv' : List (Nat × Value)} (d : decode cc pc = .ok (.dstore_n k, 1)) (hi : (k : Nat) = i) (hn : i + 1 < nL) (h : (i, Value.double x) :: lv.filter (fun q => !(q.1 == i) && (!(q.1 == i + 1) && !(q.1 + 1 == i && q.2.category == 2))) = lv') (K : gk_C p l e R s m args below meth c nL D A Q cells slots w lv' (pc + 1) (st)) : gk_C p l e R s m args below meth c nL D A Q cells slots w lv (pc) (.double x :: st) :=
  fun H locs ls hP hD hS hl => lv_dstore_n G.1 G.2.1 d hi hl hn h (fun ls' h' => K H locs ls' hP hD hS h')
theorem gk_dstore (G : gk_G p s m args meth c own nL cc ret Ts D tys A) {i : Nat} {x : UInt64} {lv' : List (Nat × Value)} (d : decode cc pc = .ok (.dstore i, 2)) (hn : i + 1 < nL) (h : (i, Value.double x) :: lv.filter (fun q => !(q.1 == i) && (!(q.1 == i + 1) && !(q.1 + 1 == i && q.2.category == 2))) = lv') (K : gk_C p l e R s m args below meth c nL D A Q cells slots w lv' (pc + 2) (st)) : gk_C p l e R s m args below meth c nL D A Q cells slots w lv (pc) (.double x :: st) :=
  fun H locs ls hP hD hS hl => lv_dstore G.1 G.2.1 d hl hn h (fun ls' h' => K H locs ls' hP hD hS h')
theorem gk_iinc (G : gk_G p s m args meth c own nL cc ret Ts D tys A) {i j : Nat} {n : Int} {x v : Int32} {lv' : List (Nat × Value)} (d : decode cc pc = .ok (.iinc i n, 3)) (hj : lv[j]? = some (i, .int x)) (hv : x + Int32.ofInt n = v) (hn : i < nL) (h : (i, Value.int v) :: lv.filter (fun q => !(q.1 == i) && !(q.1 + 1 == i && q.2.category == 2)) = lv') (K : gk_C p l e R s m args below meth c nL D A Q cells slots w lv' (pc + 3) (st)) : gk_C p l e R s m args below meth c nL D A Q cells slots w lv (pc) (st) :=
  fun H locs ls hP hD hS hl => lv_iinc G.1 G.2.1 d hl hj hv hn h (fun ls' h' => K H locs ls' hP hD hS h')
theorem gk_iadd (G : gk_G p s m args meth c own nL cc ret Ts D tys A) {x y v : Int32} (d : decode cc pc = .ok (.iadd, 1)) (hv : x + y = v) (K : gk_C p l e R s m args below meth c nL D A Q cells slots w lv (pc + 1) (.int v :: st)) : gk_C p l e R s m args below meth c nL D A Q cells slots w lv (pc) (.int y :: .int x :: st) :=
  fun H locs ls hP hD hS hl => lv_iadd G.1 G.2.1 d (hv ▸ (K H locs ls hP hD hS hl))
theorem gk_isub (G : gk_G p s m args meth c own nL cc ret Ts D tys A) {x y v : Int32} (d : decode cc pc = .ok (.isub, 1)) (hv : x - y = v) (K : gk_C p l e R s m args below meth c nL D A Q cells slots w lv (pc + 1) (.int v :: st)) : gk_C p l e R s m args below meth c nL D A Q cells slots w lv (pc) (.int y :: .int x :: st) :=
  fun H locs ls hP hD hS hl => lv_isub G.1 G.2.1 d (hv ▸ (K H locs ls hP hD hS hl))
theorem gk_imul (G : gk_G p s m args meth c own nL cc ret Ts D tys A) {x y v : Int32} (d : decode cc pc = .ok (.imul, 1)) (hv : x * y = v) (K : gk_C p l e R s m args below meth c nL D A Q cells slots w lv (pc + 1) (.int v :: st)) : gk_C p l e R s m args below meth c nL D A Q cells slots w lv (pc) (.int y :: .int x :: st) :=
  fun H locs ls hP hD hS hl => lv_imul G.1 G.2.1 d (hv ▸ (K H locs ls hP hD hS hl))
theorem gk_iand (G : gk_G p s m args meth c own nL cc ret Ts D tys A) {x y v : Int32} (d : decode cc pc = .ok (.iand, 1)) (hv : x &&& y = v) (K : gk_C p l e R s m args below meth c nL D A Q cells slots w lv (pc + 1) (.int v :: st)) : gk_C p l e R s m args below meth c nL D A Q cells slots w lv (pc) (.int y :: .int x :: st) :=
  fun H locs ls hP hD hS hl => lv_iand G.1 G.2.1 d (hv ▸ (K H locs ls hP hD hS hl))
theorem gk_ixor (G : gk_G p s m args meth c own nL cc ret Ts D tys A) {x y v : Int32} (d : decode cc pc = .ok (.ixor, 1)) (hv : x ^^^ y = v) (K : gk_C p l e R s m args below meth c nL D A Q cells slots w lv (pc + 1) (.int v :: st)) : gk_C p l e R s m args below meth c nL D A Q cells slots w lv (pc) (.int y :: .int x :: st) :=
  fun H locs ls hP hD hS hl => lv_ixor G.1 G.2.1 d (hv ▸ (K H locs ls hP hD hS hl))
theorem gk_ladd (G : gk_G p s m args meth c own nL cc ret Ts D tys A) {x y v : Int64} (d : decode cc pc = .ok (.ladd, 1)) (hv : x + y = v) (K : gk_C p l e R s m args below meth c nL D A Q cells slots w lv (pc + 1) (.long v :: st)) : gk_C p l e R s m args below meth c nL D A Q cells slots w lv (pc) (.long y :: .long x :: st) :=
  fun H locs ls hP hD hS hl => lv_ladd G.1 G.2.1 d (hv ▸ (K H locs ls hP hD hS hl))
theorem gk_lmul (G : gk_G p s m args meth c own nL cc ret Ts D tys A) {x y v : Int64} (d : decode cc pc = .ok (.lmul, 1)) (hv : x * y = v) (K : gk_C p l e R s m args below meth c nL D A Q cells slots w lv (pc + 1) (.long v :: st)) : gk_C p l e R s m args below meth c nL D A Q cells slots w lv (pc) (.long y :: .long x :: st) :=
  fun H locs ls hP hD hS hl => lv_lmul G.1 G.2.1 d (hv ▸ (K H locs ls hP hD hS hl))
theorem gk_irem (G : gk_G p s m args meth c own nL cc ret Ts D tys A) {x y v : Int32} (d : decode cc pc = .ok (.irem, 1)) (hne : ¬ y = 0) (hv : x - x / y * y = v) (K : gk_C p l e R s m args below meth c nL D A Q cells slots w lv (pc + 1) (.int v :: st)) : gk_C p l e R s m args below meth c nL D A Q cells slots w lv (pc) (.int y :: .int x :: st) :=
  fun H locs ls hP hD hS hl => lv_irem G.1 G.2.1 d hne (hv ▸ (K H locs ls hP hD hS hl))
theorem gk_i2l (G : gk_G p s m args meth c own nL cc ret Ts D tys A) {x : Int32} {v : Int64} (d : decode cc pc = .ok (.i2l, 1)) (hv : x.toInt64 = v) (K : gk_C p l e R s m args below meth c nL D A Q cells slots w lv (pc + 1) (.long v :: st)) : gk_C p l e R s m args below meth c nL D A Q cells slots w lv (pc) (.int x :: st) :=
  fun H locs ls hP hD hS hl => lv_i2l G.1 G.2.1 d hv (K H locs ls hP hD hS hl)
theorem gk_i2d (G : gk_G p s m args meth c own nL cc ret Ts D tys A) {x : Int32} (d : decode cc pc = .ok (.i2d, 1)) (K : gk_C p l e R s m args below meth c nL D A Q cells slots w lv (pc + 1) (.double (FP.i2d x) :: st)) : gk_C p l e R s m args below meth c nL D A Q cells slots w lv (pc) (.int x :: st) :=
  fun H locs ls hP hD hS hl => lv_i2d G.1 G.2.1 d (K H locs ls hP hD hS hl)
theorem gk_lcmp (G : gk_G p s m args meth c own nL cc ret Ts D tys A) {x y : Int64} (d : decode cc pc = .ok (.lcmp, 1)) (K : gk_C p l e R s m args below meth c nL D A Q cells slots w lv (pc + 1) (.int (lg_cmp x y) :: st)) : gk_C p l e R s m args below meth c nL D A Q cells slots w lv (pc) (.long y :: .long x :: st) :=
  fun H locs ls hP hD hS hl => W.lcmp G.1 G.2.1 d (K H locs ls hP hD hS hl)
theorem gk_dcmp (G : gk_G p s m args meth c own nL cc ret Ts D tys A) {x y : UInt64} {op : CmpOp} (d : decode cc pc = .ok (.dcmp op, 1)) (K : gk_C p l e R s m args below meth c nL D A Q cells slots w lv (pc + 1) (.int (Op.cmpValue (FP.dcmp x y) op) :: st)) : gk_C p l e R s m args below meth c nL D A Q cells slots w lv (pc) (.double y :: .double x :: st) :=
  fun H locs ls hP hD hS hl => lv_dcmp G.1 G.2.1 d (K H locs ls hP hD hS hl)
theorem gk_dup (G : gk_G p s m args meth c own nL cc ret Ts D tys A) {v : Value} (d : decode cc pc = .ok (.dup, 1)) (hv : v.category = 1) (K : gk_C p l e R s m args below meth c nL D A Q cells slots w lv (pc + 1) (v :: v :: st)) : gk_C p l e R s m args below meth c nL D A Q cells slots w lv (pc) (v :: st) :=
  fun H locs ls hP hD hS hl => lv_dup G.1 G.2.1 d hv (K H locs ls hP hD hS hl)
theorem gk_pop (G : gk_G p s m args meth c own nL cc ret Ts D tys A) {v : Value} (d : decode cc pc = .ok (.pop, 1)) (hv : v.category = 1) (K : gk_C p l e R s m args below meth c nL D A Q cells slots w lv (pc + 1) (st)) : gk_C p l e R s m args below meth c nL D A Q cells slots w lv (pc) (v :: st) :=
  fun H locs ls hP hD hS hl => lv_pop G.1 G.2.1 d hv (K H locs ls hP hD hS hl)
theorem gk_dup2 (G : gk_G p s m args meth c own nL cc ret Ts D tys A) {v x : Value} (d : decode cc pc = .ok (.dup2, 1)) (hv : v.category = 1) (hx : x.category = 1) (K : gk_C p l e R s m args below meth c nL D A Q cells slots w lv (pc + 1) (v :: x :: v :: x :: st)) : gk_C p l e R s m args below meth c nL D A Q cells slots w lv (pc) (v :: x :: st) :=
  fun H locs ls hP hD hS hl => lv_dup2_11 G.1 G.2.1 d hv hx (K H locs ls hP hD hS hl)
theorem gk_goto (G : gk_G p s m args meth c own nL cc ret Ts D tys A) {off : Int} {tgt : Nat} (d : decode cc pc = .ok (.goto off, 3)) (ht : (pc : Int) + off = (tgt : Int)) (K : gk_C p l e R s m args below meth c nL D A Q cells slots w lv (tgt) (st)) : gk_C p l e R s m args below meth c nL D A Q cells slots w lv (pc) (st) :=
  fun H locs ls hP hD hS hl => lv_goto G.1 G.2.1 d ht (K H locs ls hP hD hS hl)
theorem gk_icmp_eq (G : gk_G p s m args meth c own nL cc ret Ts D tys A) {x y : Int32} {off : Int} {tgt : Nat} (d : decode cc pc = .ok (.if_icmp .eq off, 3)) (ht : (pc : Int) + off = (tgt : Int)) (kt : x = y → gk_C p l e R s m args below meth c nL D A Q cells slots w lv (tgt) (st)) (kf : ¬ x = y → gk_C p l e R s m args below meth c nL D A Q cells slots w lv (pc + 3) (st)) : gk_C p l e R s m args below meth c nL D A Q cells slots w lv (pc) (.int y :: .int x :: st) :=
  fun H locs ls hP hD hS hl => lv_icmp_eq G.1 G.2.1 d ht (fun h => kt h H locs ls hP hD hS hl) (fun h => kf h H locs ls hP hD hS hl)
theorem gk_if_eq (G : gk_G p s m args meth c own nL cc ret Ts D tys A) {x : Int32} {off : Int} {tgt : Nat} (d : decode cc pc = .ok (.ifCond .eq off, 3)) (ht : (pc : Int) + off = (tgt : Int)) (kt : x = 0 → gk_C p l e R s m args below meth c nL D A Q cells slots w lv (tgt) (st)) (kf : ¬ x = 0 → gk_C p l e R s m args below meth c nL D A Q cells slots w lv (pc + 3) (st)) : gk_C p l e R s m args below meth c nL D A Q cells slots w lv (pc) (.int x :: st) :=
  fun H locs ls hP hD hS hl => lv_if_eq G.1 G.2.1 d ht (fun h => kt h H locs ls hP hD hS hl) (fun h => kf h H locs ls hP hD hS hl)
theorem gk_icmp_ne (G : gk_G p s m args meth c own nL cc ret Ts D tys A) {x y : Int32} {off : Int} {tgt : Nat} (d : decode cc pc = .ok (.if_icmp .ne off, 3)) (ht : (pc : Int) + off = (tgt : Int)) (kt : ¬ x = y → gk_C p l e R s m args below meth c nL D A Q cells slots w lv (tgt) (st)) (kf : x = y → gk_C p l e R s m args below meth c nL D A Q cells slots w lv (pc + 3) (st)) : gk_C p l e R s m args below meth c nL D A Q cells slots w lv (pc) (.int y :: .int x :: st) :=
  fun H locs ls hP hD hS hl => lv_icmp_ne G.1 G.2.1 d ht (fun h => kt h H locs ls hP hD hS hl) (fun h => kf h H locs ls hP hD hS hl)
theorem gk_if_ne (G : gk_G p s m args meth c own nL cc ret Ts D tys A) {x : Int32} {off : Int} {tgt : Nat} (d : decode cc pc = .ok (.ifCond .ne off, 3)) (ht : (pc : Int) + off = (tgt : Int)) (kt : ¬ x = 0 → gk_C p l e R s m args below meth c nL D A Q cells slots w lv (tgt) (st)) (kf : x = 0 → gk_C p l e R s m args below meth c nL D A Q cells slots w lv (pc + 3) (st)) : gk_C p l e R s m args below meth c nL D A Q cells slots w lv (pc) (.int x :: st) :=
  fun H locs ls hP hD hS hl => lv_if_ne G.1 G.2.1 d ht (fun h => kt h H locs ls hP hD hS hl) (fun h => kf h H locs ls hP hD hS hl)
theorem gk_icmp_lt (G : gk_G p s m args meth c own nL cc ret Ts D tys A) {x y : Int32} {off : Int} {tgt : Nat} (d : decode cc pc = .ok (.if_icmp .lt off, 3)) (ht : (pc : Int) + off = (tgt : Int)) (kt : x < y → gk_C p l e R s m args below meth c nL D A Q cells slots w lv (tgt) (st)) (kf : ¬ x < y → gk_C p l e R s m args below meth c nL D A Q cells slots w lv (pc + 3) (st)) : gk_C p l e R s m args below meth c nL D A Q cells slots w lv (pc) (.int y :: .int x :: st) :=
  fun H locs ls hP hD hS hl => lv_icmp_lt G.1 G.2.1 d ht (fun h => kt h H locs ls hP hD hS hl) (fun h => kf h H locs ls hP hD hS hl)
theorem gk_if_lt (G : gk_G p s m args meth c own nL cc ret Ts D tys A) {x : Int32} {off : Int} {tgt : Nat} (d : decode cc pc = .ok (.ifCond .lt off, 3)) (ht : (pc : Int) + off = (tgt : Int)) (kt : x < 0 → gk_C p l e R s m args below meth c nL D A Q cells slots w lv (tgt) (st)) (kf : ¬ x < 0 → gk_C p l e R s m args below meth c nL D A Q cells slots w lv (pc + 3) (st)) : gk_C p l e R s m args below meth c nL D A Q cells slots w lv (pc) (.int x :: st) :=
  fun H locs ls hP hD hS hl => lv_if_lt G.1 G.2.1 d ht (fun h => kt h H locs ls hP hD hS hl) (fun h => kf h H locs ls hP hD hS hl)
theorem gk_icmp_ge (G : gk_G p s m args meth c own nL cc ret Ts D tys A) {x y : Int32} {off : Int} {tgt : Nat} (d : decode cc pc = .ok (.if_icmp .ge off, 3)) (ht : (pc : Int) + off = (tgt : Int)) (kt : y ≤ x → gk_C p l e R s m args below meth c nL D A Q cells slots w lv (tgt) (st)) (kf : ¬ y ≤ x → gk_C p l e R s m args below meth c nL D A Q cells slots w lv (pc + 3) (st)) : gk_C p l e R s m args below meth c nL D A Q cells slots w lv (pc) (.int y :: .int x :: st) :=
  fun H locs ls hP hD hS hl => lv_icmp_ge G.1 G.2.1 d ht (fun h => kt h H locs ls hP hD hS hl) (fun h => kf h H locs ls hP hD hS hl)
theorem gk_if_ge (G : gk_G p s m args meth c own nL cc ret Ts D tys A) {x : Int32} {off : Int} {tgt : Nat} (d : decode cc pc = .ok (.ifCond .ge off, 3)) (ht : (pc : Int) + off = (tgt : Int)) (kt : 0 ≤ x → gk_C p l e R s m args below meth c nL D A Q cells slots w lv (tgt) (st)) (kf : ¬ 0 ≤ x → gk_C p l e R s m args below meth c nL D A Q cells slots w lv (pc + 3) (st)) : gk_C p l e R s m args below meth c nL D A Q cells slots w lv (pc) (.int x :: st) :=
  fun H locs ls hP hD hS hl => lv_if_ge G.1 G.2.1 d ht (fun h => kt h H locs ls hP hD hS hl) (fun h => kf h H locs ls hP hD hS hl)
theorem gk_icmp_gt (G : gk_G p s m args meth c own nL cc ret Ts D tys A) {x y : Int32} {off : Int} {tgt : Nat} (d : decode cc pc = .ok (.if_icmp .gt off, 3)) (ht : (pc : Int) + off = (tgt : Int)) (kt : y < x → gk_C p l e R s m args below meth c nL D A Q cells slots w lv (tgt) (st)) (kf : ¬ y < x → gk_C p l e R s m args below meth c nL D A Q cells slots w lv (pc + 3) (st)) : gk_C p l e R s m args below meth c nL D A Q cells slots w lv (pc) (.int y :: .int x :: st) :=
  fun H locs ls hP hD hS hl => lv_icmp_gt G.1 G.2.1 d ht (fun h => kt h H locs ls hP hD hS hl) (fun h => kf h H locs ls hP hD hS hl)
theorem gk_if_gt (G : gk_G p s m args meth c own nL cc ret Ts D tys A) {x : Int32} {off : Int} {tgt : Nat} (d : decode cc pc = .ok (.ifCond .gt off, 3)) (ht : (pc : Int) + off = (tgt : Int)) (kt : 0 < x → gk_C p l e R s m args below meth c nL D A Q cells slots w lv (tgt) (st)) (kf : ¬ 0 < x → gk_C p l e R s m args below meth c nL D A Q cells slots w lv (pc + 3) (st)) : gk_C p l e R s m args below meth c nL D A Q cells slots w lv (pc) (.int x :: st) :=
  fun H locs ls hP hD hS hl => lv_if_gt G.1 G.2.1 d ht (fun h => kt h H locs ls hP hD hS hl) (fun h => kf h H locs ls hP hD hS hl)
theorem gk_icmp_le (G : gk_G p s m args meth c own nL cc ret Ts D tys A) {x y : Int32} {off : Int} {tgt : Nat} (d : decode cc pc = .ok (.if_icmp .le off, 3)) (ht : (pc : Int) + off = (tgt : Int)) (kt : x ≤ y → gk_C p l e R s m args below meth c nL D A Q cells slots w lv (tgt) (st)) (kf : ¬ x ≤ y → gk_C p l e R s m args below meth c nL D A Q cells slots w lv (pc + 3) (st)) : gk_C p l e R s m args below meth c nL D A Q cells slots w lv (pc) (.int y :: .int x :: st) :=
  fun H locs ls hP hD hS hl => lv_icmp_le G.1 G.2.1 d ht (fun h => kt h H locs ls hP hD hS hl) (fun h => kf h H locs ls hP hD hS hl)
theorem gk_if_le (G : gk_G p s m args meth c own nL cc ret Ts D tys A) {x : Int32} {off : Int} {tgt : Nat} (d : decode cc pc = .ok (.ifCond .le off, 3)) (ht : (pc : Int) + off = (tgt : Int)) (kt : x ≤ 0 → gk_C p l e R s m args below meth c nL D A Q cells slots w lv (tgt) (st)) (kf : ¬ x ≤ 0 → gk_C p l e R s m args below meth c nL D A Q cells slots w lv (pc + 3) (st)) : gk_C p l e R s m args below meth c nL D A Q cells slots w lv (pc) (.int x :: st) :=
  fun H locs ls hP hD hS hl => lv_if_le G.1 G.2.1 d ht (fun h => kt h H locs ls hP hD hS hl) (fun h => kf h H locs ls hP hD hS hl)
theorem gk_lsub {lv' : List (Nat × Value)} (ks : List Nat) (h : lv_pick lv ks = lv') (K : gk_C p l e R s m args below meth c nL D A Q cells slots w lv' (pc) (st)) : gk_C p l e R s m args below meth c nL D A Q cells slots w lv (pc) (st) :=
  fun H locs ls hP hD hS hl => K H locs ls hP hD hS (lv_sub hl ks h)
theorem gk_fm {α : Type} {ws ws' : List α} (is : List Nat) (h : is.map (fun i => ws[i]?) = ws'.map some) : is.filterMap (fun i => ws[i]?) = ws' := by
  induction is generalizing ws' with
  | nil => cases ws' with
    | nil => rfl
    | cons a b => simp at h
  | cons i is ih => cases ws' with
    | nil => simp at h
    | cons a b =>
      simp only [List.map_cons, List.cons.injEq] at h
      rw [List.filterMap_cons, h.1, ih h.2]
theorem gk_wsub {w' : va_W} (is : List Nat) (h : is.map (fun i => w[i]?) = w'.map some) (hn : va_nd is = true) (K : gk_C p l e R s m args below meth c nL D A Q cells slots w' lv (pc) (st)) : gk_C p l e R s m args below meth c nL D A Q cells slots w lv (pc) (st) :=
  fun H locs ls hP hD hS hl => K H locs ls (hP.sub is (gk_fm is h)) (hD.sub is hn h) hS hl
theorem gk_weq {w' : va_W} (h : w = w') (K : gk_C p l e R s m args below meth c nL D A Q cells slots w' lv (pc) (st)) : gk_C p l e R s m args below meth c nL D A Q cells slots w lv (pc) (st) := h ▸ K
theorem gk_steq {st' : List Value} (h : st = st') (K : gk_C p l e R s m args below meth c nL D A Q cells slots w lv (pc) (st')) : gk_C p l e R s m args below meth c nL D A Q cells slots w lv (pc) (st) := h ▸ K
theorem gk_topi {x : Int32} (K : ∀ y : Int32, y = x → gk_C p l e R s m args below meth c nL D A Q cells slots w lv (pc) (.int y :: st)) : gk_C p l e R s m args below meth c nL D A Q cells slots w lv (pc) (.int x :: st) := K x rfl
theorem gk_widen {k n : Nat} (h1 : cells ≤ k) (h2 : slots ≤ n) (K : gk_C p l e R s m args below meth c nL D A Q k n w lv (pc) (st)) : gk_C p l e R s m args below meth c nL D A Q cells slots w lv (pc) (st) :=
  fun H locs ls hP hD hS hl => W.widen h1 h2 (K H locs ls hP hD hS hl)
theorem gk_get (G : gk_G p s m args meth c own nL cc ret Ts D tys A) {C : String} {T : u_T} {N ci idx q0 : Nat} {fs : List Value} (hin : ∀ w ∈ u_ws C T N, w ∈ Ts) (he : w[q0]? = some (a, .inr (ci, fs))) (hc : vwCl[ci]? = some (C, T, N)) (k : Nat) (hk : k < N) (hlink : (Cond.fieldLink own idx (T k).1 (T k).2.1 (T k).2.2.1).before args s = true) {v v' : Value} (hv : fs[k]? = some v) (hx : v = v') (d : decode cc pc = .ok (.getfield idx, 3)) (K : gk_C p l e R s m args below meth c nL D A Q cells slots w lv (pc + 3) (v' :: st)) : gk_C p l e R s m args below meth c nL D A Q cells slots w lv (pc) (.ref a :: st) :=
  fun H locs ls hP hD hS hl => va_get (D := D) G.1 G.2.1 G.2.2.2.2.1 hin G.2.2.2.1 G.2.2.2.2.2.1 hP q0 he hc k hk hlink (fun _ h9 => h9) hv d (hx ▸ (K H locs ls hP hD hS hl))
theorem gk_getN (G : gk_G p s m args meth c own nL cc ret Ts D tys A) {C host : String} {T : u_T} {N ci idx q0 : Nat} {fs : List Value} (hin : ∀ w ∈ u_ws C T N, w ∈ Ts) (he : w[q0]? = some (a, .inr (ci, fs))) (hc : vwCl[ci]? = some (C, T, N)) (k : Nat) (hk : k < N) (hlink : (Cond.fieldLinkNest own idx (T k).1 (T k).2.1 (T k).2.2.1 host).before args s = true) {v v' : Value} (hv : fs[k]? = some v) (hx : v = v') (d : decode cc pc = .ok (.getfield idx, 3)) (K : gk_C p l e R s m args below meth c nL D A Q cells slots w lv (pc + 3) (v' :: st)) : gk_C p l e R s m args below meth c nL D A Q cells slots w lv (pc) (.ref a :: st) :=
  fun H locs ls hP hD hS hl => va_getN (D := D) G.1 G.2.1 G.2.2.2.2.1 hin G.2.2.2.1 G.2.2.2.2.2.1 hP q0 he hc k hk hlink (fun _ h9 => h9) hv d (hx ▸ (K H locs ls hP hD hS hl))
theorem gk_put (G : gk_G p s m args meth c own nL cc ret Ts D tys A) {C : String} {T : u_T} {N ci idx q0 : Nat} {fs : List Value} {ty0 : Nat → FieldType} (hin : ∀ w ∈ u_ws C T N, w ∈ Ts) (hty : ∀ k, k < N → parseFieldDescriptor (T k).2.2.1 = some (ty0 k)) (hnm : ∀ a, a < N → ∀ b, b < N → a ≠ b → (T a).2.1 ≠ (T b).2.1) (he : w[q0]? = some (a, .inr (ci, fs))) (hc : vwCl[ci]? = some (C, T, N)) (k : Nat) (hk : k < N) (hlink : (Cond.fieldLink own idx (T k).1 (T k).2.1 (T k).2.2.1).before args s = true) (hfin : (T k).2.2.2 = false) {v : Value} {w' : va_W} (hn : narrow (ty0 k) v = v) (hfit : fits (ty0 k) v = true) (hl0 : k < fs.length) (hw : w.set q0 (a, .inr (ci, fs.set k v)) = w') (d : decode cc pc = .ok (.putfield idx, 3)) (K : gk_C p l e R s m args below meth c nL D A Q cells slots w' lv (pc + 3) (st)) : gk_C p l e R s m args below meth c nL D A Q cells slots w lv (pc) (v :: .ref a :: st) :=
  fun H locs ls hP hD hS hl => va_put (D := D) G.1 G.2.1 G.2.2.2.2.1 hin ty0 hty hnm G.2.2.2.1 G.2.2.2.2.2.1 hP hD hS q0 he hc k hk hlink (fun _ h9 => h9) hfin (hty k hk) hn hfit hl0 d (fun H1 locs1 hP hD hS => K H1 locs1 ls (hw ▸ hP) (hw ▸ hD) hS hl)
theorem gk_putN (G : gk_G p s m args meth c own nL cc ret Ts D tys A) {C host : String} {T : u_T} {N ci idx q0 : Nat} {fs : List Value} {ty0 : Nat → FieldType} (hin : ∀ w ∈ u_ws C T N, w ∈ Ts) (hty : ∀ k, k < N → parseFieldDescriptor (T k).2.2.1 = some (ty0 k)) (hnm : ∀ a, a < N → ∀ b, b < N → a ≠ b → (T a).2.1 ≠ (T b).2.1) (he : w[q0]? = some (a, .inr (ci, fs))) (hc : vwCl[ci]? = some (C, T, N)) (k : Nat) (hk : k < N) (hlink : (Cond.fieldLinkNest own idx (T k).1 (T k).2.1 (T k).2.2.1 host).before args s = true) (hfin : (T k).2.2.2 = false) {v : Value} {w' : va_W} (hn : narrow (ty0 k) v = v) (hfit : fits (ty0 k) v = true) (hl0 : k < fs.length) (hw : w.set q0 (a, .inr (ci, fs.set k v)) = w') (d : decode cc pc = .ok (.putfield idx, 3)) (K : gk_C p l e R s m args below meth c nL D A Q cells slots w' lv (pc + 3) (st)) : gk_C p l e R s m args below meth c nL D A Q cells slots w lv (pc) (v :: .ref a :: st) :=
  fun H locs ls hP hD hS hl => va_putN (D := D) G.1 G.2.1 G.2.2.2.2.1 hin ty0 hty hnm G.2.2.2.1 G.2.2.2.2.2.1 hP hD hS q0 he hc k hk hlink (fun _ h9 => h9) hfin (hty k hk) hn hfit hl0 d (fun H1 locs1 hP hD hS => K H1 locs1 ls (hw ▸ hP) (hw ▸ hD) hS hl)
theorem gk_putF (G : gk_G p s m args meth c own nL cc ret Ts D tys A) {C : String} {T : u_T} {N ci idx q0 : Nat} {fs : List Value} {ty0 : Nat → FieldType} (hin : ∀ w ∈ u_ws C T N, w ∈ Ts) (hty : ∀ k, k < N → parseFieldDescriptor (T k).2.2.1 = some (ty0 k)) (hnm : ∀ a, a < N → ∀ b, b < N → a ≠ b → (T a).2.1 ≠ (T b).2.1) (he : w[q0]? = some (a, .inr (ci, fs))) (hc : vwCl[ci]? = some (C, T, N)) (k : Nat) (hk : k < N) (hlink : (Cond.fieldLink own idx (T k).1 (T k).2.1 (T k).2.2.1).before args s = true) (hfin : (T k).2.2.2 = true) (hin2 : meth.name = "<init>") (hdecl : (T k).1 = own) {v : Value} {w' : va_W} (hn : narrow (ty0 k) v = v) (hfit : fits (ty0 k) v = true) (hl0 : k < fs.length) (hw : w.set q0 (a, .inr (ci, fs.set k v)) = w') (d : decode cc pc = .ok (.putfield idx, 3)) (K : gk_C p l e R s m args below meth c nL D A Q cells slots w' lv (pc + 3) (st)) : gk_C p l e R s m args below meth c nL D A Q cells slots w lv (pc) (v :: .ref a :: st) :=
  fun H locs ls hP hD hS hl => va_putF (D := D) G.1 G.2.1 G.2.2.2.2.1 hin ty0 hty hnm G.2.2.2.1 G.2.2.2.2.2.1 hP hD hS q0 he hc k hk hlink (fun _ h9 => h9) hfin hin2 hdecl (hty k hk) hn hfit hl0 d (fun H1 locs1 hP hD hS => K H1 locs1 ls (hw ▸ hP) (hw ▸ hD) hS hl)
theorem gk_in {i : Int32} {j n : Nat} (hi : i = nI j) (hj : j < n) (hn : n < 2 ^ 31) : vp_in i n := by rw [hi]; exact vp_in_nI hj hn
theorem gk_cl {i : Int32} {j n : Nat} (hi : i = nI j) (hj : j < n) (hn : n < 2 ^ 31) : i.toNatClampNeg = j := by rw [hi]; exact nI_clamp (Nat.lt_trans hj hn)
theorem gk_iald (G : gk_G p s m args meth c own nL cc ret Ts D tys A) {q0 t0 : Nat} {cA : ClassId} {n : Nat} {f : Nat → Int32} (ha : w[q0]? = some (a, .inl (cA, n, .inl f))) (ht : tys[t0]? = some (cA, .int)) {i v : Int32} (j : Nat) (hi : i = nI j) (hj : j < n) (hn : n < 2 ^ 31) (hv : f j = v) (d : decode cc pc = .ok (.iaload, 1)) (K : gk_C p l e R s m args below meth c nL D A Q cells slots w lv (pc + 1) (.int v :: st)) : gk_C p l e R s m args below meth c nL D A Q cells slots w lv (pc) (.int i :: .ref a :: st) :=
  fun H locs ls hP hD hS hl => va_iald (D := D) G.1 G.2.1 G.2.2.2.2.2.1 hP q0 t0 ha ht (gk_in hi hj hn) d ((gk_cl hi hj hn).symm ▸ hv.symm ▸ (K H locs ls hP hD hS hl))
theorem gk_zald (G : gk_G p s m args meth c own nL cc ret Ts D tys A) {q0 t0 : Nat} {cA : ClassId} {n : Nat} {f : Nat → Int32} (ha : w[q0]? = some (a, .inl (cA, n, .inl f))) (ht : tys[t0]? = some (cA, .boolean)) {i v : Int32} (j : Nat) (hi : i = nI j) (hj : j < n) (hn : n < 2 ^ 31) (hv : f j = v) (d : decode cc pc = .ok (.baload, 1)) (K : gk_C p l e R s m args below meth c nL D A Q cells slots w lv (pc + 1) (.int v :: st)) : gk_C p l e R s m args below meth c nL D A Q cells slots w lv (pc) (.int i :: .ref a :: st) :=
  fun H locs ls hP hD hS hl => va_zald (D := D) G.1 G.2.1 G.2.2.2.2.2.1 hP q0 t0 ha ht (gk_in hi hj hn) d ((gk_cl hi hj hn).symm ▸ hv.symm ▸ (K H locs ls hP hD hS hl))
theorem gk_iast (G : gk_G p s m args meth c own nL cc ret Ts D tys A) {q0 t0 : Nat} {cA : ClassId} {n : Nat} {f : Nat → Int32} (ha : w[q0]? = some (a, .inl (cA, n, .inl f))) (ht : tys[t0]? = some (cA, .int)) {i x : Int32} (j : Nat) (hi : i = nI j) (hj : j < n) (hn : n < 2 ^ 31) {w' : va_W} (hw : w.set q0 (a, .inl (cA, n, .inl (upd f j x))) = w') (d : decode cc pc = .ok (.iastore, 1)) (K : gk_C p l e R s m args below meth c nL D A Q cells slots w' lv (pc + 1) (st)) : gk_C p l e R s m args below meth c nL D A Q cells slots w lv (pc) (.int x :: .int i :: .ref a :: st) :=
  fun H locs ls hP hD hS hl => by
  subst hi
  have hcl := nI_clamp (Nat.lt_trans hj hn)
  refine va_iast (D := D) G.1 G.2.1 G.2.2.2.2.2.1 hP hD hS q0 t0 ha ht (vp_in_nI hj hn) d (fun H1 locs1 hP hD hS => ?_)
  rw [hcl, hw] at hP hD
  exact K H1 locs1 ls hP hD hS hl
theorem gk_zast (G : gk_G p s m args meth c own nL cc ret Ts D tys A) {q0 t0 : Nat} {cA : ClassId} {n : Nat} {f : Nat → Int32} (ha : w[q0]? = some (a, .inl (cA, n, .inl f))) (ht : tys[t0]? = some (cA, .boolean)) {i x : Int32} (j : Nat) (hi : i = nI j) (hj : j < n) (hn : n < 2 ^ 31) (hx : x = 0 ∨ x = 1) {w' : va_W} (hw : w.set q0 (a, .inl (cA, n, .inl (upd f j x))) = w') (d : decode cc pc = .ok (.bastore, 1)) (K : gk_C p l e R s m args below meth c nL D A Q cells slots w' lv (pc + 1) (st)) : gk_C p l e R s m args below meth c nL D A Q cells slots w lv (pc) (.int x :: .int i :: .ref a :: st) :=
  fun H locs ls hP hD hS hl => by
  subst hi
  have hcl := nI_clamp (Nat.lt_trans hj hn)
  have hb9 : vp_nar .boolean x = x := by rcases hx with rfl | rfl <;> rfl
  refine va_zast (D := D) G.1 G.2.1 G.2.2.2.2.2.1 hP hD hS q0 t0 ha ht (vp_in_nI hj hn) d (fun H1 locs1 hP hD hS => ?_)
  rw [hcl, hb9, hw] at hP hD
  exact K H1 locs1 ls hP hD hS hl
theorem gk_alen (G : gk_G p s m args meth c own nL cc ret Ts D tys A) {q0 t0 : Nat} {cA : ClassId} {x : vp_A} (ha : w[q0]? = some (a, .inl (cA, x))) {ty : FieldType} (ht : tys[t0]? = some (cA, ty)) {v : Int32} (hv : Int32.ofNat x.1 = v) (d : decode cc pc = .ok (.arraylength, 1)) (K : gk_C p l e R s m args below meth c nL D A Q cells slots w lv (pc + 1) (.int v :: st)) : gk_C p l e R s m args below meth c nL D A Q cells slots w lv (pc) (.ref a :: st) :=
  fun H locs ls hP hD hS hl => va_alen (D := D) G.1 G.2.1 G.2.2.2.2.2.1 hP q0 t0 ha ht hv d (K H locs ls hP hD hS hl)
theorem gk_mmin (G : gk_G p s m args meth c own nL cc ret Ts D tys A) {idx : Nat} (hl1 : (Cond.methodLink own idx Lib.Math.min.name).before args s = true) (hl2 : (Cond.static Lib.Math.min.name).before args s = true) (hl3 : (Cond.initialized "java/lang/Math").before args s = true) (hl4 : (Cond.code Lib.Math.min.name Lib.Math.min.code 2 (some .int)).before args s = true) (hfr : 1 ≤ R.frames) (hlo : (st.map fun v => v.category).sum + 13 ≤ R.locals) (hc : cells ≤ R.cells) (hs : slots ≤ R.slots) {x y v : Int32} (hv : (if y < x then y else x) = v) (d : decode cc pc = .ok (.invokestatic idx, 3)) (K : gk_C p l e R s m args below meth c nL D A Q cells slots w lv (pc + 3) (.int v :: st)) : gk_C p l e R s m args below meth c nL D A Q cells slots w lv (pc) (.int y :: .int x :: st) :=
  fun H locs ls hP hD hS hl => va_mmin G.1 G.2.1 (G.2.2.1.trans hl.1.symm) G.2.2.2.1 hl1 hl2 hl3 hl4 hfr hlo hc hs d (hv ▸ (K H locs ls hP hD hS hl))
theorem gk_mmax (G : gk_G p s m args meth c own nL cc ret Ts D tys A) {idx : Nat} (hl1 : (Cond.methodLink own idx Lib.Math.max.name).before args s = true) (hl2 : (Cond.static Lib.Math.max.name).before args s = true) (hl3 : (Cond.initialized "java/lang/Math").before args s = true) (hl4 : (Cond.code Lib.Math.max.name Lib.Math.max.code 2 (some .int)).before args s = true) (hfr : 1 ≤ R.frames) (hlo : (st.map fun v => v.category).sum + 13 ≤ R.locals) (hc : cells ≤ R.cells) (hs : slots ≤ R.slots) {x y v : Int32} (hv : (if x < y then y else x) = v) (d : decode cc pc = .ok (.invokestatic idx, 3)) (K : gk_C p l e R s m args below meth c nL D A Q cells slots w lv (pc + 3) (.int v :: st)) : gk_C p l e R s m args below meth c nL D A Q cells slots w lv (pc) (.int y :: .int x :: st) :=
  fun H locs ls hP hD hS hl => va_mmax G.1 G.2.1 (G.2.2.1.trans hl.1.symm) G.2.2.2.1 hl1 hl2 hl3 hl4 hfr hlo hc hs d (hv ▸ (K H locs ls hP hD hS hl))
theorem gk_ra {U : State} {cA cB : ClassId} {ty : FieldType} (h1 : va_RA U cA ty) (h2 : va_RA U cB ty) (hty : ∀ C : String, ty ≠ .object C) : cA = cB := by
  cases ty with
  | object C => exact absurd rfl (hty C)
  | _ => exact Option.some.inj (Eq.trans (Eq.symm h1) h2)
theorem gk_newa (G : gk_G p s m args meth c own nL cc ret Ts D tys A) {atype : ArrayType} {ty : FieldType} {cI : ClassId} {n : Int32} {N : Nat} {a0 : vp_A} (harr : (Cond.arrayClass (newarray.typeOf atype)).before args s = true) (hty : newarray.typeOf atype = ty) (hob : ∀ C : String, ty ≠ .object C) (t0 : Nat) (ht : tys[t0]? = some (cI, ty)) (ha : ∀ cA : ClassId, vp_cell cA a0 = arrV cA N (fun _ => defaultValue ty)) (hn : n = nI N) (hN : N < 2 ^ 31) (hbytes : N * componentBytes ty ≤ 536870912) (hcells : cells + 1 ≤ R.cells) (hslots : slots + N ≤ R.slots) (d : decode cc pc = .ok (.newarray atype, 2))
    (K : ∀ q : Nat, gk_C p l e R s m args below meth c nL D A Q (cells + 1) (slots + N) (w ++ [(q, .inl (cI, a0))]) lv (pc + 2) (.ref q :: st)) : gk_C p l e R s m args below meth c nL D A Q cells slots w lv (pc) (.int n :: st) := by
  intro H locs ls hP hD hS hl
  subst hn
  refine va_newa G.1 G.2.1 harr hty G.2.2.2.2.2.1 hP hD hS G.2.2.2.2.2.2.1 ha (nI_pos hN) (nI_clamp hN) hbytes hcells hslots d (fun q cA H1 hK1 hP1 hD1 hS1 => ?_)
  have e : cA = cI := gk_ra (hK1.2 tys.length (cA, ty) (by simp)).2 (G.2.2.2.2.2.1.2 t0 _ ht).2 hob
  subst e
  exact K q H1 locs ls hP1 hD1 hS1 hl
theorem gk_acopy (G : gk_G p s m args meth c own nL cc ret Ts D tys A) {idx : Nat} (hl1 : (Cond.methodLink own idx arraycopyName).before args s = true) (hnat : (Cond.native arraycopyName).before args s = true) (hstat : (Cond.static arraycopyName).before args s = true) (hini : (Cond.initialized "java/lang/System").before args s = true) {q0 q1 t0 a0 : Nat} {c0 : ClassId} {n0 n1 : Nat} {f g : Nat → Int32} (ha0 : w[q0]? = some (a0, .inl (c0, n0, .inl f))) (ha1 : w[q1]? = some (a, .inl (c0, n1, .inl g))) (ht0 : tys[t0]? = some (c0, .int)) (N : Nat) (h0 : N ≤ n0) (h1 : N ≤ n1) (h31 : N < 2 ^ 31) (hfr : 1 ≤ R.frames) (hlo : (st.map fun v => v.category).sum + (nativeFrameWords "java/lang/System" "arraycopy" 5 + 11) ≤ R.locals) {w' : va_W} (hw : w.set q1 (a, .inl (c0, n1, .inl (va_cpy f g 0 0 N))) = w') (d : decode cc pc = .ok (.invokestatic idx, 3)) (K : gk_C p l e R s m args below meth c nL D A Q cells slots w' lv (pc + 3) (st)) : gk_C p l e R s m args below meth c nL D A Q cells slots w lv (pc) (.int (nI N) :: .int (nI 0) :: .ref a :: .int (nI 0) :: .ref a0 :: st) := by
  intro H locs ls hP hD hS hl
  have z0 : (nI 0).toNatClampNeg = 0 := nI_clamp (by decide)
  have zN : (nI N).toNatClampNeg = N := nI_clamp h31
  refine va_copyi G.1 G.2.1 (G.2.2.1.trans hl.1.symm) G.2.2.2.1 hl1 hnat hstat hini G.2.2.2.2.2.1 hP hD hS q0 q1 t0 t0 ha0 ha1 ht0 ht0 rfl (nI_pos (by decide)) (nI_pos (by decide)) (nI_pos h31) (by rw [z0, zN]; omega) (by rw [z0, zN]; omega) (fun i _ => rfl) hfr hlo d (fun H1 locs1 hP hD hS => ?_)
  rw [z0, zN, hw] at hP hD
  exact K H1 locs1 ls hP hD hS hl
theorem gk_objInit (G : gk_G p s m args meth c own nL cc ret Ts D tys A) {idx : Nat} (h1 : (Cond.methodLink own idx Lib.objectInit).before args s = true) (h2 : (Cond.instanceMethod Lib.objectInit).before args s = true) (h3 : (Cond.code Lib.objectInit ⟨#[0xb1]⟩ 1 none).before args s = true) (hfr : 1 ≤ R.frames) (hlo : (st.map fun v => v.category).sum + 12 ≤ R.locals) (d : decode cc pc = .ok (.invokespecial idx, 3)) (K : gk_C p l e R s m args below meth c nL D A Q cells slots w lv (pc + 3) (st)) : gk_C p l e R s m args below meth c nL D A Q cells slots w lv (pc) (.ref a :: st) :=
  fun H locs ls hP hD hS hl => W.objInit G.1 G.2.1 G.2.2.2.1 h1 h2 h3 rfl (hl.1.trans G.2.2.1.symm) rfl d hfr (by show 2 * 0 + _ + 12 ≤ _; omega) (K H locs ls hP hD hS hl)
end GK
section GM
variable {l : Launch} {y : MethodName} {ws ws' : List Cond} {rm : Room} {D : va_G} {tys : List (ClassId × FieldType)} {E : (Nat → Prop) → State → Heap → Prop} {av : List Value} {w : va_W} {mc ms : Nat} {S : Type}
def gk_Pre (D : va_G) (tys : List (ClassId × FieldType)) (E : (Nat → Prop) → State → Heap → Prop) (w : va_W) (sz : Nat) : State → Prop := fun U => U.heap.size = sz ∧ va_P D vwCl w U.heap ∧ va_K D vwCl tys U ∧ va_D (fun _ => True) w ∧ E (va_A w sz) U U.heap
def gk_Post (D : va_G) (tys : List (ClassId × FieldType)) (A : Nat → Prop) (w : va_W) (t : State) : Prop := va_P D vwCl w t.heap ∧ va_K D vwCl tys t ∧ va_D A w
/-- what a method knows of the launch besides its world: kept by moves, by narrower regions and by writes inside the region -/
def gk_Ok (E : (Nat → Prop) → State → Heap → Prop) : Prop := ∀ (A B : Nat → Prop) (u U : State) (H H1 : Heap), u.vm.Alike U.vm → u.WarmedH U.vm ∨ U.vm = u.vm → (∀ q, q < H.size → B q → A q) → H.size ≤ H1.size → (∀ q : Nat, q < H.size → ¬ A q → H1[q]? = H[q]?) → E A u H → E B U H1
abbrev gk_E0 : (Nat → Prop) → State → Heap → Prop := fun _ _ _ => True
theorem gk_ok0 : gk_Ok gk_E0 := fun _ _ _ _ _ _ _ _ _ _ _ _ => trivial

def gk_I (l : Launch) (y : MethodName) (ws : List Cond) (rm : Room) (D : va_G) (tys : List (ClassId × FieldType)) (E : (Nat → Prop) → State → Heap → Prop) (av : List Value) (w : va_W) (mc ms : Nat) {S : Type} (post : Int32 → S → Prop) (wo : S → va_W) : Prop :=
  ∀ sz : Nat, Met l y ws rm (va_Pc av (gk_Pre D tys E w sz)) (va_Qi post (fun u t => gk_Post D tys (va_A w sz) (wo u) t) (va_A w sz)) mc ms (va_A w sz)
def gk_L (l : Launch) (y : MethodName) (ws : List Cond) (rm : Room) (D : va_G) (tys : List (ClassId × FieldType)) (E : (Nat → Prop) → State → Heap → Prop) (av : List Value) (w : va_W) (mc ms : Nat) {S : Type} (post : Int64 → S → Prop) (wo : S → va_W) : Prop :=
  ∀ sz : Nat, Met l y ws rm (va_Pc av (gk_Pre D tys E w sz)) (va_Ql post (fun u t => gk_Post D tys (va_A w sz) (wo u) t) (va_A w sz)) mc ms (va_A w sz)
def gk_V (l : Launch) (y : MethodName) (ws : List Cond) (rm : Room) (D : va_G) (tys : List (ClassId × FieldType)) (E : (Nat → Prop) → State → Heap → Prop) (av : List Value) (w : va_W) (mc ms : Nat) {S : Type} (post : S → Prop) (wo : S → va_W) : Prop :=
  ∀ sz : Nat, Met l y ws rm (va_Pc av (gk_Pre D tys E w sz)) (va_Qv post (fun u t => gk_Post D tys (va_A w sz) (wo u) t) (va_A w sz)) mc ms (va_A w sz)
end GM
section GR
variable {p : Program} {l : Launch} {e : Env} {R : Room} {s : State} {m : MethodId} {args : Array Value} {below : List Frame} {meth : Method} {c : Code}
variable {own : String} {nL : Nat} {cc : ByteArray} {Ts : List Cond} {D : va_G} {tys tys0 : List (ClassId × FieldType)} {A : Nat → Prop} {cells slots pc mc ms : Nat} {Q : State → Prop} {w : va_W} {lv : List (Nat × Value)} {st : List Value} {a : Nat} {ret : Option FieldType} {S : Type}

theorem gk_retI {ty : FieldType} (G : gk_G p s m args meth c own nL cc (some ty) Ts D tys A) {post : Int32 → S → Prop} {wo : S → va_W} {v : Int32} (hn : narrow ty (.int v) = .int v) (d : decode cc pc = .ok (.ireturn, 1)) (u : S) (hp : post v u) (is : List Nat) (hs : is.map (fun i => w[i]?) = (wo u).map some) (hnd : va_nd is = true) (hc : cells ≤ mc) (hsl : slots ≤ ms) :
    gk_C p l e R s m args below meth c nL D A (MQ below (va_Qi post (fun u t => gk_Post D tys A (wo u) t) A) args s mc ms A) cells slots w lv pc (.int v :: []) :=
  fun H locs ls hP hD hS hl => W.widen hc hsl (W.zret G.1 G.2.1 G.2.2.2.2.2.2.2.1 hn (fun t ht hW => ⟨⟨v, u, rfl, hp, by rw [ht]; exact hP.sub is (gk_fm is hs), va_K.moved hW.alike G.2.2.2.2.2.1, hD.sub is hnd hs⟩, hS.F ht⟩) hS.2.2 d G.2.2.2.2.2.2.2.2)
theorem gk_retIw {ty : FieldType} (G : gk_G p s m args meth c own nL cc (some ty) Ts D tys A) {post : Int32 → S → Prop} {wo : S → va_W} {v : Int32} (hn : narrow ty (.int v) = .int v) (d : decode cc pc = .ok (.ireturn, 1)) (u : S) (hp : post v u) (hs : w = wo u) (hc : cells ≤ mc) (hsl : slots ≤ ms) :
    gk_C p l e R s m args below meth c nL D A (MQ below (va_Qi post (fun u t => gk_Post D tys A (wo u) t) A) args s mc ms A) cells slots w lv pc (.int v :: []) :=
  fun H locs ls hP hD hS hl => W.widen hc hsl (W.zret G.1 G.2.1 G.2.2.2.2.2.2.2.1 hn (fun t ht hW => ⟨⟨v, u, rfl, hp, by rw [ht]; exact hs ▸ hP, va_K.moved hW.alike G.2.2.2.2.2.1, hs ▸ hD⟩, hS.F ht⟩) hS.2.2 d G.2.2.2.2.2.2.2.2)
theorem gk_retL (G : gk_G p s m args meth c own nL cc (some .long) Ts D tys A) {post : Int64 → S → Prop} {wo : S → va_W} {v : Int64} (d : decode cc pc = .ok (.lreturn, 1)) (u : S) (hp : post v u) (is : List Nat) (hs : is.map (fun i => w[i]?) = (wo u).map some) (hnd : va_nd is = true) (hc : cells ≤ mc) (hsl : slots ≤ ms) :
    gk_C p l e R s m args below meth c nL D A (MQ below (va_Ql post (fun u t => gk_Post D tys A (wo u) t) A) args s mc ms A) cells slots w lv pc (.long v :: []) :=
  fun H locs ls hP hD hS hl => W.widen hc hsl (W.lret G.1 G.2.1 G.2.2.2.2.2.2.2.1 (fun t ht hW => ⟨⟨v, u, rfl, hp, by rw [ht]; exact hP.sub is (gk_fm is hs), va_K.moved hW.alike G.2.2.2.2.2.1, hD.sub is hnd hs⟩, hS.F ht⟩) hS.2.2 d G.2.2.2.2.2.2.2.2)
theorem gk_retLw (G : gk_G p s m args meth c own nL cc (some .long) Ts D tys A) {post : Int64 → S → Prop} {wo : S → va_W} {v : Int64} (d : decode cc pc = .ok (.lreturn, 1)) (u : S) (hp : post v u) (hs : w = wo u) (hc : cells ≤ mc) (hsl : slots ≤ ms) :
    gk_C p l e R s m args below meth c nL D A (MQ below (va_Ql post (fun u t => gk_Post D tys A (wo u) t) A) args s mc ms A) cells slots w lv pc (.long v :: []) :=
  fun H locs ls hP hD hS hl => W.widen hc hsl (W.lret G.1 G.2.1 G.2.2.2.2.2.2.2.1 (fun t ht hW => ⟨⟨v, u, rfl, hp, by rw [ht]; exact hs ▸ hP, va_K.moved hW.alike G.2.2.2.2.2.1, hs ▸ hD⟩, hS.F ht⟩) hS.2.2 d G.2.2.2.2.2.2.2.2)
theorem gk_retV (G : gk_G p s m args meth c own nL cc (none) Ts D tys A) {post : S → Prop} {wo : S → va_W} (d : decode cc pc = .ok (.return_, 1)) (u : S) (hp : post u) (is : List Nat) (hs : is.map (fun i => w[i]?) = (wo u).map some) (hnd : va_nd is = true) (hc : cells ≤ mc) (hsl : slots ≤ ms) :
    gk_C p l e R s m args below meth c nL D A (MQ below (va_Qv post (fun u t => gk_Post D tys A (wo u) t) A) args s mc ms A) cells slots w lv pc ([]) :=
  fun H locs ls hP hD hS hl => W.widen hc hsl (W.vret G.1 G.2.1 G.2.2.2.2.2.2.2.1 (fun t ht hW => ⟨⟨u, rfl, hp, by rw [ht]; exact hP.sub is (gk_fm is hs), va_K.moved hW.alike G.2.2.2.2.2.1, hD.sub is hnd hs⟩, hS.F ht⟩) hS.2.2 d G.2.2.2.2.2.2.2.2)
theorem gk_retVw (G : gk_G p s m args meth c own nL cc (none) Ts D tys A) {post : S → Prop} {wo : S → va_W} (d : decode cc pc = .ok (.return_, 1)) (u : S) (hp : post u) (hs : w = wo u) (hc : cells ≤ mc) (hsl : slots ≤ ms) :
    gk_C p l e R s m args below meth c nL D A (MQ below (va_Qv post (fun u t => gk_Post D tys A (wo u) t) A) args s mc ms A) cells slots w lv pc ([]) :=
  fun H locs ls hP hD hS hl => W.widen hc hsl (W.vret G.1 G.2.1 G.2.2.2.2.2.2.2.1 (fun t ht hW => ⟨⟨u, rfl, hp, by rw [ht]; exact hs ▸ hP, va_K.moved hW.alike G.2.2.2.2.2.1, hs ▸ hD⟩, hS.F ht⟩) hS.2.2 d G.2.2.2.2.2.2.2.2)
end GR
section GM2
variable {l : Launch} {y : MethodName} {ws ws' : List Cond} {rm : Room} {D : va_G} {tys : List (ClassId × FieldType)} {E : (Nat → Prop) → State → Heap → Prop} {av : List Value} {w : va_W} {mc ms : Nat} {S : Type}
theorem gk_I_of {post : Int32 → S → Prop} {wo : S → va_W} {ty : FieldType} {cc : ByteArray} {nL : Nat} (hy : plainName y.cls = true) (hw : ws = Cond.code y cc nL (some ty) :: ws') (hav : (lg_sl av).length ≤ nL)
    (body : ∀ (p : Program) (e : Env) (s : State) (m : MethodId) (below : List Frame) (meth : Method) (c : Code) (A : Nat → Prop) (Q : State → Prop), meth.name = y.name → E A s s.heap → gk_G p s m av.toArray meth c y.cls nL cc (some ty) ws D tys A →
      (∀ (cells slots : Nat) (w : va_W) (lv : List (Nat × Value)) (pc : Nat) (v : Int32) (u : S), decode cc pc = .ok (.ireturn, 1) → narrow ty (.int v) = .int v → post v u → w = wo u → cells ≤ mc → slots ≤ ms → gk_C p l e rm s m av.toArray below meth c nL D A Q cells slots w lv pc [.int v]) →
      gk_C p l e rm s m av.toArray below meth c nL D A Q 0 0 w (lv_args 0 av) 0 []) : gk_I l y ws rm D tys E av w mc ms post wo := by
  intro sz
  refine Met.ofW (cc := cc) (maxL := nL) (ret := some ty) hy hw ?_
  intro p e s m args below meth c s₁ B hml hv
  obtain ⟨rfl, hsz, hP, hK, hD0, hE⟩ := hv
  have hD := hD0.self (sz := sz)
  rw [lg_entry_eq]
  have G : gk_G p s m av.toArray meth c y.cls nL cc (some ty) ws D tys (va_A w sz) := ⟨B.exec, B.bytes, hml, findClass_of_methodNamed B.named, atoms_spec (ws := ws) B.pre, hK, fun q h => Or.inr (by rw [← hsz]; exact h), B.returns, B.notSynchronized⟩
  exact body p e s m below meth c (va_A w sz) _ (name_of_methodNamed B.named B.method).1 hE G
    (fun cells slots w lv pc v u d hn hp hs hc hsl => gk_retIw G hn d u hp hs hc hsl) s.heap [] _ hP hD va_S.rf (lv_entry av hav)
theorem gk_L_of {post : Int64 → S → Prop} {wo : S → va_W} {cc : ByteArray} {nL : Nat} (hy : plainName y.cls = true) (hw : ws = Cond.code y cc nL (some .long) :: ws') (hav : (lg_sl av).length ≤ nL)
    (body : ∀ (p : Program) (e : Env) (s : State) (m : MethodId) (below : List Frame) (meth : Method) (c : Code) (A : Nat → Prop) (Q : State → Prop), meth.name = y.name → E A s s.heap → gk_G p s m av.toArray meth c y.cls nL cc (some .long) ws D tys A →
      (∀ (cells slots : Nat) (w : va_W) (lv : List (Nat × Value)) (pc : Nat) (v : Int64) (u : S), decode cc pc = .ok (.lreturn, 1) → post v u → w = wo u → cells ≤ mc → slots ≤ ms → gk_C p l e rm s m av.toArray below meth c nL D A Q cells slots w lv pc [.long v]) →
      gk_C p l e rm s m av.toArray below meth c nL D A Q 0 0 w (lv_args 0 av) 0 []) : gk_L l y ws rm D tys E av w mc ms post wo := by
  intro sz
  refine Met.ofW (cc := cc) (maxL := nL) (ret := some .long) hy hw ?_
  intro p e s m args below meth c s₁ B hml hv
  obtain ⟨rfl, hsz, hP, hK, hD0, hE⟩ := hv
  have hD := hD0.self (sz := sz)
  rw [lg_entry_eq]
  have G : gk_G p s m av.toArray meth c y.cls nL cc (some .long) ws D tys (va_A w sz) := ⟨B.exec, B.bytes, hml, findClass_of_methodNamed B.named, atoms_spec (ws := ws) B.pre, hK, fun q h => Or.inr (by rw [← hsz]; exact h), B.returns, B.notSynchronized⟩
  exact body p e s m below meth c (va_A w sz) _ (name_of_methodNamed B.named B.method).1 hE G
    (fun cells slots w lv pc v u d hp hs hc hsl => gk_retLw G d u hp hs hc hsl) s.heap [] _ hP hD va_S.rf (lv_entry av hav)
theorem gk_V_of {post : S → Prop} {wo : S → va_W} {cc : ByteArray} {nL : Nat} (hy : plainName y.cls = true) (hw : ws = Cond.code y cc nL (none) :: ws') (hav : (lg_sl av).length ≤ nL)
    (body : ∀ (p : Program) (e : Env) (s : State) (m : MethodId) (below : List Frame) (meth : Method) (c : Code) (A : Nat → Prop) (Q : State → Prop), meth.name = y.name → E A s s.heap → gk_G p s m av.toArray meth c y.cls nL cc (none) ws D tys A →
      (∀ (cells slots : Nat) (w : va_W) (lv : List (Nat × Value)) (pc : Nat) (u : S), decode cc pc = .ok (.return_, 1) → post u → w = wo u → cells ≤ mc → slots ≤ ms → gk_C p l e rm s m av.toArray below meth c nL D A Q cells slots w lv pc []) →
      gk_C p l e rm s m av.toArray below meth c nL D A Q 0 0 w (lv_args 0 av) 0 []) : gk_V l y ws rm D tys E av w mc ms post wo := by
  intro sz
  refine Met.ofW (cc := cc) (maxL := nL) (ret := none) hy hw ?_
  intro p e s m args below meth c s₁ B hml hv
  obtain ⟨rfl, hsz, hP, hK, hD0, hE⟩ := hv
  have hD := hD0.self (sz := sz)
  rw [lg_entry_eq]
  have G : gk_G p s m av.toArray meth c y.cls nL cc (none) ws D tys (va_A w sz) := ⟨B.exec, B.bytes, hml, findClass_of_methodNamed B.named, atoms_spec (ws := ws) B.pre, hK, fun q h => Or.inr (by rw [← hsz]; exact h), B.returns, B.notSynchronized⟩
  exact body p e s m below meth c (va_A w sz) _ (name_of_methodNamed B.named B.method).1 hE G
    (fun cells slots w lv pc  u d hp hs hc hsl => gk_retVw G d u hp hs hc hsl) s.heap [] _ hP hD va_S.rf (lv_entry av hav)
theorem gk_ofWF {Pc : Array Value → State → Prop} {Qc : Array Value → State → Outcome → State → Prop} {free : Addr → Prop} {cc : ByteArray} {maxL : Nat} {ret : Option FieldType}
    (hy : plainFor y = true) (hw : ws = Cond.code y cc maxL ret :: ws')
    (body : ∀ p e s m args below meth c s₁, BodyLoose p l y (headSpec ws rm) cc maxL ret e s m args below meth c s₁ → c.maxLocals = maxL → Pc args s →
      W p l e (headSpec ws rm).room s m args below meth c s.heap [] 0 0 (MQ below Qc args s mc ms free) (entryFrame m args maxL)) : Met l y ws rm Pc Qc mc ms free := by
  refine MetFree.of_bodySF (code := cc) (maxLocals := maxL) (ret := ret) hy ?_ ?_
  · intro args s m h hn
    obtain ⟨meth, c, h1, h2, h3, h4, h5, h6, -, -⟩ := Cond.code_spec hn (atoms_spec (ws := ws) h _ (by rw [hw]; exact List.mem_cons_self))
    exact ⟨meth, c, h1, h2, h3, h4, h5, h6⟩
  · intro p e s m args below meth c s₁ B hml hP _
    have hh0 : s₁.heap = s.heap := by rw [B.state]; rfl
    obtain ⟨t, a1, o, b1, b2, b3⟩ := body p e s m args below meth c s₁ B hml hP s₁ hh0 (Stand.of_body B)
    exact ⟨t, o, a1, b1, b2, ⟨b3.1, b3.2⟩⟩
theorem gk_IF_of {post : Int32 → S → Prop} {wo : S → va_W} {ty : FieldType} {cc : ByteArray} {nL : Nat} (hy : plainFor y = true) (hw : ws = Cond.code y cc nL (some ty) :: ws') (hav : (lg_sl av).length ≤ nL)
    (body : ∀ (p : Program) (e : Env) (s : State) (m : MethodId) (below : List Frame) (meth : Method) (c : Code) (A : Nat → Prop) (Q : State → Prop), meth.name = y.name → E A s s.heap → gk_G p s m av.toArray meth c y.cls nL cc (some ty) ws D tys A →
      (∀ (cells slots : Nat) (w : va_W) (lv : List (Nat × Value)) (pc : Nat) (v : Int32) (u : S), decode cc pc = .ok (.ireturn, 1) → narrow ty (.int v) = .int v → post v u → w = wo u → cells ≤ mc → slots ≤ ms → gk_C p l e rm s m av.toArray below meth c nL D A Q cells slots w lv pc [.int v]) →
      gk_C p l e rm s m av.toArray below meth c nL D A Q 0 0 w (lv_args 0 av) 0 []) : gk_I l y ws rm D tys E av w mc ms post wo := by
  intro sz
  refine gk_ofWF (cc := cc) (maxL := nL) (ret := some ty) hy hw ?_
  intro p e s m args below meth c s₁ B hml hv
  obtain ⟨rfl, hsz, hP, hK, hD0, hE⟩ := hv
  have hD := hD0.self (sz := sz)
  rw [lg_entry_eq]
  have G : gk_G p s m av.toArray meth c y.cls nL cc (some ty) ws D tys (va_A w sz) := ⟨B.exec, B.bytes, hml, findClass_of_methodNamed B.named, atoms_spec (ws := ws) B.pre, hK, fun q h => Or.inr (by rw [← hsz]; exact h), B.returns, B.notSynchronized⟩
  exact body p e s m below meth c (va_A w sz) _ (name_of_methodNamed B.named B.method).1 hE G
    (fun cells slots w lv pc v u d hn hp hs hc hsl => gk_retIw G hn d u hp hs hc hsl) s.heap [] _ hP hD va_S.rf (lv_entry av hav)
end GM2
section GS
variable {p : Program} {l : Launch} {e : Env} {R : Room} {s : State} {m : MethodId} {args : Array Value} {below : List Frame} {meth : Method} {c : Code}
variable {own : String} {nL : Nat} {cc : ByteArray} {Ts : List Cond} {D : va_G} {tys tys0 : List (ClassId × FieldType)} {A : Nat → Prop} {cells slots pc mc ms : Nat} {Q : State → Prop} {w : va_W} {lv : List (Nat × Value)} {st : List Value} {a : Nat} {ret : Option FieldType} {S : Type}

theorem gk_callIV (G : gk_G p s m args meth c own nL cc ret Ts D tys A) {post : Int32 → S → Prop} {wo : S → va_W} {y : MethodName} {bytes : ByteArray} {maxL idx mc1 ms1 : Nat} {b : Nat}  {rt : Option FieldType} {C : String} {ws ws' : List Cond} {rm : Room} {As : List Value} {wc wr : va_W} {E : (Nat → Prop) → State → Heap → Prop} {st0 : List Value}
    (hM : gk_I l y ws rm D tys E (.ref b :: As) wc mc1 ms1 post wo) (hT : GoodIn Ts (wsV own idx C y ws)) (hw : ws = Cond.code y bytes maxL rt :: ws') (n : Nat) (hd : y.cls = C ∧ y.cls ≠ "java/lang/invoke/MethodHandle" ∧ y.cls ≠ "java/lang/invoke/VarHandle" ∧ (parseMethodDescriptor y.desc).map (fun d => d.parameters.length) = some n) (hrc : rm.cells = mc1) (hrs : rm.slots = ms1) (hR : rm.frames + 1 ≤ R.frames ∧ 8 + (maxL + 11) + rm.locals ≤ R.locals) (hn : As.length = n) {ci q0 : Nat} {fs : List Value} (hrecv : wc[q0]? = some (b, .inr (ci, fs))) {T : u_T} {N : Nat} (hcl : vwCl[ci]? = some (C, T, N)) 
    (hE : gk_Ok E) (hE1 : E A s s.heap) (isC : List Nat) (hC : isC.map (fun i => w[i]?) = wc.map some) (hnC : va_nd isC = true) (isR : List Nat) (hR2 : isR.map (fun i => w[i]?) = wr.map some) (hnR : va_nd isR = true) (hdis : ∀ i ∈ isR, i ∉ isC) (hst : st0 = As.reverse ++ .ref b :: st) (hroom : (st.map fun v => v.category).sum ≤ 8) (d : decode cc pc = .ok (.invokevirtual idx, 3)) (hcs : cells + mc1 ≤ R.cells ∧ slots + ms1 ≤ R.slots)
    (K : ∀ (r : Int32) (u : S), post r u → gk_C p l e R s m args below meth c nL D A Q (cells + mc1) (slots + ms1) (wr ++ wo u) lv (pc + 3) (.int r :: st)) : gk_C p l e R s m args below meth c nL D A Q cells slots w lv pc st0 := by
  intro H locs ls hP hD hS hl
  have hPc : va_P D vwCl wc H := hP.sub isC (gk_fm isC hC)
  have hDc : va_D A wc := hD.sub isC hnC hC
  have hF := va_free hD hS G.2.2.2.2.2.2.1 isC hC
  refine va_calli (va_runV (As := As) (rest := st) ⟨G.1, G.2.1, G.2.2.1, G.2.2.2.1, G.2.2.2.2.1⟩ (hM H.size) (cwV n G.2.2.2.2.1 hT hw hrc hrs hd hR) ⟨fun a U g mk q => ?_, va_recv G.2.2.2.2.2.1 hPc hcl hrecv, fun U hU hW => ⟨rfl, by rw [hU], by rw [hU]; exact hPc, va_K.moved hW.alike G.2.2.2.2.2.1, hDc.weaken (fun _ _ _ _ => trivial), ?_⟩⟩ rfl hn hl.1 hst (lv_room hroom) d hcs) hS (fun q _ h => hF q h) hF (fun r u t H1 locs1 ht hvm hw1 hB hz1 hk1 hS1 => ?_)
  · obtain ⟨q0, q1, qP, qK, qD, qE⟩ := q
    exact ⟨q0, q1, qP, va_K.moved (u := U) (U := U.calling g mk a) (Vm.Alike.refl U.vm) qK, qD, hE _ _ U (U.calling g mk a) _ _ (Vm.Alike.refl U.vm) (Or.inr rfl) (fun _ _ h => h) (Nat.le_refl _) (fun _ _ _ => rfl) qE⟩
  · exact hE A _ s U s.heap U.heap hW.alike (Or.inl hW) (fun q _ h => hF q h) (by rw [hU]; exact hS.1) (fun q h1 h2 => by rw [hU]; exact hS.2.1 q h1 h2) hE1
  · obtain ⟨hP1, hK1, hD1⟩ := hB
    rw [ht] at hP1
    obtain ⟨hP2, hD2⟩ := va_join hP hD isC isR hC hR2 hnR hdis hk1 hF hP1 hD1
    exact K r u hw1 H1 locs1 ls hP2 hD2 hS1 hl
theorem gk_callIS (G : gk_G p s m args meth c own nL cc ret Ts D tys A) {post : Int32 → S → Prop} {wo : S → va_W} {y : MethodName} {bytes : ByteArray} {maxL idx mc1 ms1 : Nat}  {rt : Option FieldType} {ws ws' : List Cond} {rm : Room} {As : List Value} {wc wr : va_W} {E : (Nat → Prop) → State → Heap → Prop} {st0 : List Value}
    (hM : gk_I l y ws rm D tys E As wc mc1 ms1 post wo) (hT : GoodIn Ts (va_wsS own idx y ws)) (hw : ws = Cond.code y bytes maxL rt :: ws') (n : Nat) (hd : y.cls ≠ "java/lang/invoke/MethodHandle" ∧ y.cls ≠ "java/lang/invoke/VarHandle" ∧ (parseMethodDescriptor y.desc).map (fun d => d.parameters.length) = some n) (hrc : rm.cells = mc1) (hrs : rm.slots = ms1) (hR : rm.frames + 1 ≤ R.frames ∧ 8 + (maxL + 11) + rm.locals ≤ R.locals) (hn : As.length = n) 
    (hE : gk_Ok E) (hE1 : E A s s.heap) (isC : List Nat) (hC : isC.map (fun i => w[i]?) = wc.map some) (hnC : va_nd isC = true) (isR : List Nat) (hR2 : isR.map (fun i => w[i]?) = wr.map some) (hnR : va_nd isR = true) (hdis : ∀ i ∈ isR, i ∉ isC) (hst : st0 = As.reverse ++ st) (hroom : (st.map fun v => v.category).sum ≤ 8) (d : decode cc pc = .ok (.invokestatic idx, 3)) (hcs : cells + mc1 ≤ R.cells ∧ slots + ms1 ≤ R.slots)
    (K : ∀ (r : Int32) (u : S), post r u → gk_C p l e R s m args below meth c nL D A Q (cells + mc1) (slots + ms1) (wr ++ wo u) lv (pc + 3) (.int r :: st)) : gk_C p l e R s m args below meth c nL D A Q cells slots w lv pc st0 := by
  intro H locs ls hP hD hS hl
  have hPc : va_P D vwCl wc H := hP.sub isC (gk_fm isC hC)
  have hDc : va_D A wc := hD.sub isC hnC hC
  have hF := va_free hD hS G.2.2.2.2.2.2.1 isC hC
  refine va_calli (va_runS (As := As) (rest := st) ⟨G.1, G.2.1, G.2.2.1, G.2.2.2.1, G.2.2.2.2.1⟩ (hM H.size) (va_cwS n G.2.2.2.2.1 hT hw hrc hrs hd hR) ⟨fun a U g mk q => ?_, fun U hU hW => ⟨rfl, by rw [hU], by rw [hU]; exact hPc, va_K.moved hW.alike G.2.2.2.2.2.1, hDc.weaken (fun _ _ _ _ => trivial), ?_⟩⟩ rfl hn hl.1 hst (lv_room hroom) d hcs) hS (fun q _ h => hF q h) hF (fun r u t H1 locs1 ht hvm hw1 hB hz1 hk1 hS1 => ?_)
  · obtain ⟨q0, q1, qP, qK, qD, qE⟩ := q
    exact ⟨q0, q1, qP, va_K.moved (u := U) (U := U.calling g mk a) (Vm.Alike.refl U.vm) qK, qD, hE _ _ U (U.calling g mk a) _ _ (Vm.Alike.refl U.vm) (Or.inr rfl) (fun _ _ h => h) (Nat.le_refl _) (fun _ _ _ => rfl) qE⟩
  · exact hE A _ s U s.heap U.heap hW.alike (Or.inl hW) (fun q _ h => hF q h) (by rw [hU]; exact hS.1) (fun q h1 h2 => by rw [hU]; exact hS.2.1 q h1 h2) hE1
  · obtain ⟨hP1, hK1, hD1⟩ := hB
    rw [ht] at hP1
    obtain ⟨hP2, hD2⟩ := va_join hP hD isC isR hC hR2 hnR hdis hk1 hF hP1 hD1
    exact K r u hw1 H1 locs1 ls hP2 hD2 hS1 hl
theorem gk_callLV (G : gk_G p s m args meth c own nL cc ret Ts D tys A) {post : Int64 → S → Prop} {wo : S → va_W} {y : MethodName} {bytes : ByteArray} {maxL idx mc1 ms1 : Nat} {b : Nat}  {rt : Option FieldType} {C : String} {ws ws' : List Cond} {rm : Room} {As : List Value} {wc wr : va_W} {E : (Nat → Prop) → State → Heap → Prop} {st0 : List Value}
    (hM : gk_L l y ws rm D tys E (.ref b :: As) wc mc1 ms1 post wo) (hT : GoodIn Ts (wsV own idx C y ws)) (hw : ws = Cond.code y bytes maxL rt :: ws') (n : Nat) (hd : y.cls = C ∧ y.cls ≠ "java/lang/invoke/MethodHandle" ∧ y.cls ≠ "java/lang/invoke/VarHandle" ∧ (parseMethodDescriptor y.desc).map (fun d => d.parameters.length) = some n) (hrc : rm.cells = mc1) (hrs : rm.slots = ms1) (hR : rm.frames + 1 ≤ R.frames ∧ 8 + (maxL + 11) + rm.locals ≤ R.locals) (hn : As.length = n) {ci q0 : Nat} {fs : List Value} (hrecv : wc[q0]? = some (b, .inr (ci, fs))) {T : u_T} {N : Nat} (hcl : vwCl[ci]? = some (C, T, N)) 
    (hE : gk_Ok E) (hE1 : E A s s.heap) (isC : List Nat) (hC : isC.map (fun i => w[i]?) = wc.map some) (hnC : va_nd isC = true) (isR : List Nat) (hR2 : isR.map (fun i => w[i]?) = wr.map some) (hnR : va_nd isR = true) (hdis : ∀ i ∈ isR, i ∉ isC) (hst : st0 = As.reverse ++ .ref b :: st) (hroom : (st.map fun v => v.category).sum ≤ 8) (d : decode cc pc = .ok (.invokevirtual idx, 3)) (hcs : cells + mc1 ≤ R.cells ∧ slots + ms1 ≤ R.slots)
    (K : ∀ (r : Int64) (u : S), post r u → gk_C p l e R s m args below meth c nL D A Q (cells + mc1) (slots + ms1) (wr ++ wo u) lv (pc + 3) (.long r :: st)) : gk_C p l e R s m args below meth c nL D A Q cells slots w lv pc st0 := by
  intro H locs ls hP hD hS hl
  have hPc : va_P D vwCl wc H := hP.sub isC (gk_fm isC hC)
  have hDc : va_D A wc := hD.sub isC hnC hC
  have hF := va_free hD hS G.2.2.2.2.2.2.1 isC hC
  refine va_calll (va_runV (As := As) (rest := st) ⟨G.1, G.2.1, G.2.2.1, G.2.2.2.1, G.2.2.2.2.1⟩ (hM H.size) (cwV n G.2.2.2.2.1 hT hw hrc hrs hd hR) ⟨fun a U g mk q => ?_, va_recv G.2.2.2.2.2.1 hPc hcl hrecv, fun U hU hW => ⟨rfl, by rw [hU], by rw [hU]; exact hPc, va_K.moved hW.alike G.2.2.2.2.2.1, hDc.weaken (fun _ _ _ _ => trivial), ?_⟩⟩ rfl hn hl.1 hst (lv_room hroom) d hcs) hS (fun q _ h => hF q h) hF (fun r u t H1 locs1 ht hvm hw1 hB hz1 hk1 hS1 => ?_)
  · obtain ⟨q0, q1, qP, qK, qD, qE⟩ := q
    exact ⟨q0, q1, qP, va_K.moved (u := U) (U := U.calling g mk a) (Vm.Alike.refl U.vm) qK, qD, hE _ _ U (U.calling g mk a) _ _ (Vm.Alike.refl U.vm) (Or.inr rfl) (fun _ _ h => h) (Nat.le_refl _) (fun _ _ _ => rfl) qE⟩
  · exact hE A _ s U s.heap U.heap hW.alike (Or.inl hW) (fun q _ h => hF q h) (by rw [hU]; exact hS.1) (fun q h1 h2 => by rw [hU]; exact hS.2.1 q h1 h2) hE1
  · obtain ⟨hP1, hK1, hD1⟩ := hB
    rw [ht] at hP1
    obtain ⟨hP2, hD2⟩ := va_join hP hD isC isR hC hR2 hnR hdis hk1 hF hP1 hD1
    exact K r u hw1 H1 locs1 ls hP2 hD2 hS1 hl
theorem gk_callLS (G : gk_G p s m args meth c own nL cc ret Ts D tys A) {post : Int64 → S → Prop} {wo : S → va_W} {y : MethodName} {bytes : ByteArray} {maxL idx mc1 ms1 : Nat}  {rt : Option FieldType} {ws ws' : List Cond} {rm : Room} {As : List Value} {wc wr : va_W} {E : (Nat → Prop) → State → Heap → Prop} {st0 : List Value}
    (hM : gk_L l y ws rm D tys E As wc mc1 ms1 post wo) (hT : GoodIn Ts (va_wsS own idx y ws)) (hw : ws = Cond.code y bytes maxL rt :: ws') (n : Nat) (hd : y.cls ≠ "java/lang/invoke/MethodHandle" ∧ y.cls ≠ "java/lang/invoke/VarHandle" ∧ (parseMethodDescriptor y.desc).map (fun d => d.parameters.length) = some n) (hrc : rm.cells = mc1) (hrs : rm.slots = ms1) (hR : rm.frames + 1 ≤ R.frames ∧ 8 + (maxL + 11) + rm.locals ≤ R.locals) (hn : As.length = n) 
    (hE : gk_Ok E) (hE1 : E A s s.heap) (isC : List Nat) (hC : isC.map (fun i => w[i]?) = wc.map some) (hnC : va_nd isC = true) (isR : List Nat) (hR2 : isR.map (fun i => w[i]?) = wr.map some) (hnR : va_nd isR = true) (hdis : ∀ i ∈ isR, i ∉ isC) (hst : st0 = As.reverse ++ st) (hroom : (st.map fun v => v.category).sum ≤ 8) (d : decode cc pc = .ok (.invokestatic idx, 3)) (hcs : cells + mc1 ≤ R.cells ∧ slots + ms1 ≤ R.slots)
    (K : ∀ (r : Int64) (u : S), post r u → gk_C p l e R s m args below meth c nL D A Q (cells + mc1) (slots + ms1) (wr ++ wo u) lv (pc + 3) (.long r :: st)) : gk_C p l e R s m args below meth c nL D A Q cells slots w lv pc st0 := by
  intro H locs ls hP hD hS hl
  have hPc : va_P D vwCl wc H := hP.sub isC (gk_fm isC hC)
  have hDc : va_D A wc := hD.sub isC hnC hC
  have hF := va_free hD hS G.2.2.2.2.2.2.1 isC hC
  refine va_calll (va_runS (As := As) (rest := st) ⟨G.1, G.2.1, G.2.2.1, G.2.2.2.1, G.2.2.2.2.1⟩ (hM H.size) (va_cwS n G.2.2.2.2.1 hT hw hrc hrs hd hR) ⟨fun a U g mk q => ?_, fun U hU hW => ⟨rfl, by rw [hU], by rw [hU]; exact hPc, va_K.moved hW.alike G.2.2.2.2.2.1, hDc.weaken (fun _ _ _ _ => trivial), ?_⟩⟩ rfl hn hl.1 hst (lv_room hroom) d hcs) hS (fun q _ h => hF q h) hF (fun r u t H1 locs1 ht hvm hw1 hB hz1 hk1 hS1 => ?_)
  · obtain ⟨q0, q1, qP, qK, qD, qE⟩ := q
    exact ⟨q0, q1, qP, va_K.moved (u := U) (U := U.calling g mk a) (Vm.Alike.refl U.vm) qK, qD, hE _ _ U (U.calling g mk a) _ _ (Vm.Alike.refl U.vm) (Or.inr rfl) (fun _ _ h => h) (Nat.le_refl _) (fun _ _ _ => rfl) qE⟩
  · exact hE A _ s U s.heap U.heap hW.alike (Or.inl hW) (fun q _ h => hF q h) (by rw [hU]; exact hS.1) (fun q h1 h2 => by rw [hU]; exact hS.2.1 q h1 h2) hE1
  · obtain ⟨hP1, hK1, hD1⟩ := hB
    rw [ht] at hP1
    obtain ⟨hP2, hD2⟩ := va_join hP hD isC isR hC hR2 hnR hdis hk1 hF hP1 hD1
    exact K r u hw1 H1 locs1 ls hP2 hD2 hS1 hl
theorem gk_callVV (G : gk_G p s m args meth c own nL cc ret Ts D tys A) {post : S → Prop} {wo : S → va_W} {y : MethodName} {bytes : ByteArray} {maxL idx mc1 ms1 : Nat} {b : Nat}  {rt : Option FieldType} {C : String} {ws ws' : List Cond} {rm : Room} {As : List Value} {wc wr : va_W} {E : (Nat → Prop) → State → Heap → Prop} {st0 : List Value}
    (hM : gk_V l y ws rm D tys E (.ref b :: As) wc mc1 ms1 post wo) (hT : GoodIn Ts (wsV own idx C y ws)) (hw : ws = Cond.code y bytes maxL rt :: ws') (n : Nat) (hd : y.cls = C ∧ y.cls ≠ "java/lang/invoke/MethodHandle" ∧ y.cls ≠ "java/lang/invoke/VarHandle" ∧ (parseMethodDescriptor y.desc).map (fun d => d.parameters.length) = some n) (hrc : rm.cells = mc1) (hrs : rm.slots = ms1) (hR : rm.frames + 1 ≤ R.frames ∧ 8 + (maxL + 11) + rm.locals ≤ R.locals) (hn : As.length = n) {ci q0 : Nat} {fs : List Value} (hrecv : wc[q0]? = some (b, .inr (ci, fs))) {T : u_T} {N : Nat} (hcl : vwCl[ci]? = some (C, T, N)) 
    (hE : gk_Ok E) (hE1 : E A s s.heap) (isC : List Nat) (hC : isC.map (fun i => w[i]?) = wc.map some) (hnC : va_nd isC = true) (isR : List Nat) (hR2 : isR.map (fun i => w[i]?) = wr.map some) (hnR : va_nd isR = true) (hdis : ∀ i ∈ isR, i ∉ isC) (hst : st0 = As.reverse ++ .ref b :: st) (hroom : (st.map fun v => v.category).sum ≤ 8) (d : decode cc pc = .ok (.invokevirtual idx, 3)) (hcs : cells + mc1 ≤ R.cells ∧ slots + ms1 ≤ R.slots)
    (K : ∀ (u : S), post u → gk_C p l e R s m args below meth c nL D A Q (cells + mc1) (slots + ms1) (wr ++ wo u) lv (pc + 3) (st)) : gk_C p l e R s m args below meth c nL D A Q cells slots w lv pc st0 := by
  intro H locs ls hP hD hS hl
  have hPc : va_P D vwCl wc H := hP.sub isC (gk_fm isC hC)
  have hDc : va_D A wc := hD.sub isC hnC hC
  have hF := va_free hD hS G.2.2.2.2.2.2.1 isC hC
  refine va_callv (va_runV (As := As) (rest := st) ⟨G.1, G.2.1, G.2.2.1, G.2.2.2.1, G.2.2.2.2.1⟩ (hM H.size) (cwV n G.2.2.2.2.1 hT hw hrc hrs hd hR) ⟨fun a U g mk q => ?_, va_recv G.2.2.2.2.2.1 hPc hcl hrecv, fun U hU hW => ⟨rfl, by rw [hU], by rw [hU]; exact hPc, va_K.moved hW.alike G.2.2.2.2.2.1, hDc.weaken (fun _ _ _ _ => trivial), ?_⟩⟩ rfl hn hl.1 hst (lv_room hroom) d hcs) hS (fun q _ h => hF q h) hF (fun u t H1 locs1 ht hvm hw1 hB hz1 hk1 hS1 => ?_)
  · obtain ⟨q0, q1, qP, qK, qD, qE⟩ := q
    exact ⟨q0, q1, qP, va_K.moved (u := U) (U := U.calling g mk a) (Vm.Alike.refl U.vm) qK, qD, hE _ _ U (U.calling g mk a) _ _ (Vm.Alike.refl U.vm) (Or.inr rfl) (fun _ _ h => h) (Nat.le_refl _) (fun _ _ _ => rfl) qE⟩
  · exact hE A _ s U s.heap U.heap hW.alike (Or.inl hW) (fun q _ h => hF q h) (by rw [hU]; exact hS.1) (fun q h1 h2 => by rw [hU]; exact hS.2.1 q h1 h2) hE1
  · obtain ⟨hP1, hK1, hD1⟩ := hB
    rw [ht] at hP1
    obtain ⟨hP2, hD2⟩ := va_join hP hD isC isR hC hR2 hnR hdis hk1 hF hP1 hD1
    exact K u hw1 H1 locs1 ls hP2 hD2 hS1 hl
theorem gk_callVS (G : gk_G p s m args meth c own nL cc ret Ts D tys A) {post : S → Prop} {wo : S → va_W} {y : MethodName} {bytes : ByteArray} {maxL idx mc1 ms1 : Nat}  {rt : Option FieldType} {ws ws' : List Cond} {rm : Room} {As : List Value} {wc wr : va_W} {E : (Nat → Prop) → State → Heap → Prop} {st0 : List Value}
    (hM : gk_V l y ws rm D tys E As wc mc1 ms1 post wo) (hT : GoodIn Ts (va_wsS own idx y ws)) (hw : ws = Cond.code y bytes maxL rt :: ws') (n : Nat) (hd : y.cls ≠ "java/lang/invoke/MethodHandle" ∧ y.cls ≠ "java/lang/invoke/VarHandle" ∧ (parseMethodDescriptor y.desc).map (fun d => d.parameters.length) = some n) (hrc : rm.cells = mc1) (hrs : rm.slots = ms1) (hR : rm.frames + 1 ≤ R.frames ∧ 8 + (maxL + 11) + rm.locals ≤ R.locals) (hn : As.length = n) 
    (hE : gk_Ok E) (hE1 : E A s s.heap) (isC : List Nat) (hC : isC.map (fun i => w[i]?) = wc.map some) (hnC : va_nd isC = true) (isR : List Nat) (hR2 : isR.map (fun i => w[i]?) = wr.map some) (hnR : va_nd isR = true) (hdis : ∀ i ∈ isR, i ∉ isC) (hst : st0 = As.reverse ++ st) (hroom : (st.map fun v => v.category).sum ≤ 8) (d : decode cc pc = .ok (.invokestatic idx, 3)) (hcs : cells + mc1 ≤ R.cells ∧ slots + ms1 ≤ R.slots)
    (K : ∀ (u : S), post u → gk_C p l e R s m args below meth c nL D A Q (cells + mc1) (slots + ms1) (wr ++ wo u) lv (pc + 3) (st)) : gk_C p l e R s m args below meth c nL D A Q cells slots w lv pc st0 := by
  intro H locs ls hP hD hS hl
  have hPc : va_P D vwCl wc H := hP.sub isC (gk_fm isC hC)
  have hDc : va_D A wc := hD.sub isC hnC hC
  have hF := va_free hD hS G.2.2.2.2.2.2.1 isC hC
  refine va_callv (va_runS (As := As) (rest := st) ⟨G.1, G.2.1, G.2.2.1, G.2.2.2.1, G.2.2.2.2.1⟩ (hM H.size) (va_cwS n G.2.2.2.2.1 hT hw hrc hrs hd hR) ⟨fun a U g mk q => ?_, fun U hU hW => ⟨rfl, by rw [hU], by rw [hU]; exact hPc, va_K.moved hW.alike G.2.2.2.2.2.1, hDc.weaken (fun _ _ _ _ => trivial), ?_⟩⟩ rfl hn hl.1 hst (lv_room hroom) d hcs) hS (fun q _ h => hF q h) hF (fun u t H1 locs1 ht hvm hw1 hB hz1 hk1 hS1 => ?_)
  · obtain ⟨q0, q1, qP, qK, qD, qE⟩ := q
    exact ⟨q0, q1, qP, va_K.moved (u := U) (U := U.calling g mk a) (Vm.Alike.refl U.vm) qK, qD, hE _ _ U (U.calling g mk a) _ _ (Vm.Alike.refl U.vm) (Or.inr rfl) (fun _ _ h => h) (Nat.le_refl _) (fun _ _ _ => rfl) qE⟩
  · exact hE A _ s U s.heap U.heap hW.alike (Or.inl hW) (fun q _ h => hF q h) (by rw [hU]; exact hS.1) (fun q h1 h2 => by rw [hU]; exact hS.2.1 q h1 h2) hE1
  · obtain ⟨hP1, hK1, hD1⟩ := hB
    rw [ht] at hP1
    obtain ⟨hP2, hD2⟩ := va_join hP hD isC isR hC hR2 hnR hdis hk1 hF hP1 hD1
    exact K u hw1 H1 locs1 ls hP2 hD2 hS1 hl
theorem gk_callVI (G : gk_G p s m args meth c own nL cc ret Ts D tys A) {post : S → Prop} {wo : S → va_W} {y : MethodName} {bytes : ByteArray} {maxL idx mc1 ms1 : Nat} {b : Nat}  {rt : Option FieldType} {ws ws' : List Cond} {rm : Room} {As : List Value} {wc wr : va_W} {E : (Nat → Prop) → State → Heap → Prop} {st0 : List Value}
    (hM : gk_V l y ws rm D tys E (.ref b :: As) wc mc1 ms1 post wo) (hT : GoodIn Ts ws) (hw : ws = Cond.code y bytes maxL none :: ws') (n : Nat) (hini : (Cond.initialized y.cls).before args s = true) (hl1 : (Cond.methodLink own idx y).before args s = true) (hin : (Cond.instanceMethod y).before args s = true) (hy1 : y.name = "<init>") (hd : y.cls ≠ "java/lang/invoke/MethodHandle" ∧ y.cls ≠ "java/lang/invoke/VarHandle" ∧ (parseMethodDescriptor y.desc).map (fun d => d.parameters.length) = some n) (hrc : rm.cells = mc1) (hrs : rm.slots = ms1) (hR : rm.frames + 1 ≤ R.frames ∧ 8 + (maxL + 11) + rm.locals ≤ R.locals) (hn : As.length = n) 
    (hE : gk_Ok E) (hE1 : E A s s.heap) (isC : List Nat) (hC : isC.map (fun i => w[i]?) = wc.map some) (hnC : va_nd isC = true) (isR : List Nat) (hR2 : isR.map (fun i => w[i]?) = wr.map some) (hnR : va_nd isR = true) (hdis : ∀ i ∈ isR, i ∉ isC) (hst : st0 = As.reverse ++ .ref b :: st) (hroom : (st.map fun v => v.category).sum ≤ 8) (d : decode cc pc = .ok (.invokespecial idx, 3)) (hcs : cells + mc1 ≤ R.cells ∧ slots + ms1 ≤ R.slots)
    (K : ∀ (u : S), post u → gk_C p l e R s m args below meth c nL D A Q (cells + mc1) (slots + ms1) (wr ++ wo u) lv (pc + 3) (st)) : gk_C p l e R s m args below meth c nL D A Q cells slots w lv pc st0 := by
  intro H locs ls hP hD hS hl
  have hPc : va_P D vwCl wc H := hP.sub isC (gk_fm isC hC)
  have hDc : va_D A wc := hD.sub isC hnC hC
  have hF := va_free hD hS G.2.2.2.2.2.2.1 isC hC
  refine va_callv (va_runI (As := As) (rest := st) ⟨G.1, G.2.1, G.2.2.1, G.2.2.2.1, G.2.2.2.2.1⟩ (hM H.size) (cwI n G.2.2.2.2.1 hT hw hrc hrs hini hl1 hin hy1 hd hR) ⟨fun a U g mk q => ?_, fun U hU hW => ⟨rfl, by rw [hU], by rw [hU]; exact hPc, va_K.moved hW.alike G.2.2.2.2.2.1, hDc.weaken (fun _ _ _ _ => trivial), ?_⟩⟩ rfl hn hl.1 hst (lv_room hroom) d hcs) hS (fun q _ h => hF q h) hF (fun u t H1 locs1 ht hvm hw1 hB hz1 hk1 hS1 => ?_)
  · obtain ⟨q0, q1, qP, qK, qD, qE⟩ := q
    exact ⟨q0, q1, qP, va_K.moved (u := U) (U := U.calling g mk a) (Vm.Alike.refl U.vm) qK, qD, hE _ _ U (U.calling g mk a) _ _ (Vm.Alike.refl U.vm) (Or.inr rfl) (fun _ _ h => h) (Nat.le_refl _) (fun _ _ _ => rfl) qE⟩
  · exact hE A _ s U s.heap U.heap hW.alike (Or.inl hW) (fun q _ h => hF q h) (by rw [hU]; exact hS.1) (fun q h1 h2 => by rw [hU]; exact hS.2.1 q h1 h2) hE1
  · obtain ⟨hP1, hK1, hD1⟩ := hB
    rw [ht] at hP1
    obtain ⟨hP2, hD2⟩ := va_join hP hD isC isR hC hR2 hnR hdis hk1 hF hP1 hD1
    exact K u hw1 H1 locs1 ls hP2 hD2 hS1 hl
end GS
end
section
/-! what of the reference's parts the class needs too -/
def gm_rg (p : Int32) (lo hi : Nat) : Prop := ∃ v, lo ≤ v ∧ v < hi ∧ p = nI v
def gm_plc (M : gm_M) (j : Nat) : Int32 := if M 8 j = 0 then nI (gm_cnt M j (M 11 0)) else -1
def gm_ru (M : gm_M) (r o : Nat) : gm_M := gm_set (gm_set M 14 0 r) 15 0 o
def gm_lw (M : gm_M) (r o : Nat) : Nat := gm_late (gm_hrs (gm_ru M r o) 200) 200 (M 11 0)
theorem gm_ru_ne (M : gm_M) (r o i : Nat) {k : Nat} (h4 : k ≠ 14) (h5 : k ≠ 15) : gm_ru M r o k i = M k i := by
  unfold gm_ru; rw [gm_set_k _ _ h5, gm_set_k _ _ h4]
theorem gm_late_le {M : gm_M} {o c : Nat} : ∀ n : Nat, (∀ i, i < n → M 8 i ≤ c) → gm_late M o n ≤ n * (o + c)
  | 0, _ => by show 0 ≤ _; exact Nat.zero_le _
  | n + 1, h => by
    have ih := gm_late_le (M := M) (o := o) (c := c) n (fun i hi => h i (Nat.lt_succ_of_lt hi))
    have hn := h n (Nat.lt_succ_self n)
    show gm_late M o n + (if M 8 n = 0 then o else M 8 n - 1 - M 6 n) ≤ _
    rw [Nat.add_mul, Nat.one_mul]
    split <;> omega
theorem gm_late_lt {M : gm_M} {o : Nat} (wf : gm_wf M) (ho : o ≤ 200) (hh : M 9 0 < 2000000) : gm_late M o (M 11 0) < 2 ^ 30 := by
  have h := gm_late_le (M := M) (o := o) (c := 2000000) (M 11 0) (fun i hi => by have := (wf.2.2.2.2.2.2.1 i hi).2.2.2.2.2.2; omega)
  have h16 := wf.2.1
  have : M 11 0 * (o + 2000000) ≤ 16 * (o + 2000000) := Nat.mul_le_mul_right _ h16
  omega
theorem gm_ru_wf {M : gm_M} {r o : Nat} (wf : gm_wf M) (hr : r ≤ 2) (ho : o ≤ 1) : gm_wf (gm_ru M r o) := by
  obtain ⟨w1, w2, w3, w4, w5, w6, w7, w8⟩ := wf
  have e : ∀ k i, k ≠ 14 → k ≠ 15 → gm_ru M r o k i = M k i := fun k i h1 h2 => gm_ru_ne M r o i h1 h2
  have e11 : gm_ru M r o 11 0 = M 11 0 := e 11 0 (by decide) (by decide)
  have e10 : gm_ru M r o 10 0 = M 10 0 := e 10 0 (by decide) (by decide)
  refine ⟨by rw [e10]; exact w1, by rw [e11]; exact w2, ?_, ?_, fun i hi => ?_, fun i hi => ?_, fun i hi => ?_, fun i j hi hj => ?_⟩
  · unfold gm_ru; rw [gm_set_k _ _ (by decide), gm_set_at]; exact hr
  · unfold gm_ru; rw [gm_set_at]; exact ho
  · rw [e 0 i (by decide) (by decide)]; exact w5 i hi
  · rw [e10] at hi; rw [e 1 i (by decide) (by decide)]; exact w6 i hi
  · rw [e11] at hi
    rw [e 4 i (by decide) (by decide), e 5 i (by decide) (by decide), e 6 i (by decide) (by decide), e 7 i (by decide) (by decide), e 8 i (by decide) (by decide), e10, e 9 0 (by decide) (by decide)]
    exact w7 i hi
  · rw [e11] at hi hj
    rw [e 7 i (by decide) (by decide), e 7 j (by decide) (by decide)]
    exact w8 i j hi hj
theorem gm_lw_lt {M : gm_M} {r o : Nat} (wf : gm_wf M) (hr : r ≤ 2) (ho : o ≤ 1) (hh : M 9 0 < 1999000) : gm_lw M r o < 2 ^ 30 := by
  have e11 : gm_hrs (gm_ru M r o) 200 11 0 = M 11 0 := (gm_hrs_ne _ 0 (by decide) (by decide) (by decide) (by decide) (by decide) (by decide) (by decide) 200).trans (gm_ru_ne M r o 0 (by decide) (by decide))
  have h := gm_late_lt (o := 200) (gm_hrs_wf (gm_ru_wf wf hr ho) 200) (Nat.le_refl _) (by rw [gm_hrs_9, gm_ru_ne M r o 0 (by decide) (by decide)]; omega)
  rw [e11] at h
  exact h
theorem gm_ru_rest {M : gm_M} {r o : Nat} (h : gm_rest M) : gm_rest (gm_ru M r o) := by
  intro i hi
  rw [gm_ru_ne _ _ _ _ (by decide) (by decide)] at hi
  rw [gm_ru_ne _ _ _ _ (by decide) (by decide), gm_ru_ne _ _ _ _ (by decide) (by decide)]
  exact h i hi
end
section
/-! THE CLASS'S STATE: its cells, and its methods' contracts. Written by wip/p35/gen_x0.py -/
def gs_V (q : Nat → Nat) (F : Nat → Int32) : List Value := [.ref (q 0), .ref (q 1), .ref (q 2), .ref (q 3), .ref (q 4), .ref (q 5), .ref (q 6), .ref (q 7), .ref (q 8), .int (F 9), .int (F 10), .int (F 11), .int (F 12), .int (F 13), .int (F 14), .int (F 15)]
def gs_W (cI cZ : ClassId) (h : Nat) (q : Nat → Nat) (F : Nat → Int32) (B : Nat → Nat → Int32) : va_W := [(h, .inr (0, gs_V q F)), (q 0, .inl (cI, 12, .inl (B 0))), (q 1, .inl (cI, 4, .inl (B 1))), (q 2, .inl (cI, 4, .inl (B 2))), (q 3, .inl (cZ, 4, .inl (B 3))), (q 4, .inl (cI, 16, .inl (B 4))), (q 5, .inl (cI, 16, .inl (B 5))), (q 6, .inl (cI, 16, .inl (B 6))), (q 7, .inl (cI, 16, .inl (B 7))), (q 8, .inl (cI, 16, .inl (B 8)))]
abbrev g_T (cI cZ cJ : ClassId) : List (ClassId × FieldType) := [(cI, .int), (cZ, .boolean), (cJ, .array .int)]
theorem gk_nz {v : Int32} (h : v = 0 ∨ v = 1) : narrow .boolean (.int v) = .int v := by rcases h with rfl | rfl <;> rfl

set_option maxRecDepth 100000 in
set_option maxHeartbeats 1000000 in
/-- nothing is left -/
theorem c0_isGround (l : Launch) (D : va_G) (cI cZ cJ : ClassId) (h : Nat) (q : Nat → Nat) (F : Nat → Int32) (B : Nat → Nat → Int32) (M : gm_M) (j : Nat) (wf : gm_wf M) (hr : gc_rep F B M) (hj : j < M 11 0) : gk_I l yX0_isGround wsX0_isGround ({ frames := 0, cells := 0, slots := 0, locals := 0 } : Room) D (g_T cI cZ cJ) gk_E0 [.ref h, .int (nI j)] (gs_W cI cZ h q F B) 0 0 (fun (r : Int32) (u : Unit) => r = gm_b (M 5 j = 0)) (fun u => (gs_W cI cZ h q F B)) := by
  refine gk_I_of (ty := .boolean) (cc := cX0_isGround) (nL := 2) (by decide +kernel) rfl (Nat.le_of_ble_eq_true rfl) ?_
  intro p e s m below meth c A Q hnm hE G RET
  obtain ⟨hz1, hz2, hz3, hz4, hz5, hz6, hz7, hz8⟩ := id wf
  have hj7 := hz7 j hj
  have hinX0 : ∀ w ∈ wsX00, w ∈ wsX0_isGround := fun w h9 => (List.mem_cons_of_mem _ (List.mem_append_right _ h9))
  have k28 := G.2.2.2.2.1 (.fieldLink RX0 28 "GustMill$State" "lefts" "[I") (List.mem_cons_of_mem _ (List.mem_append_left _ (List.mem_of_getElem? (i := 0) rfl)))
  refine gk_aload_n G dX0_isGround_0 0 rfl ?_
  refine gk_get (v' := .ref (q 5)) G hinX0 (q0 := 0) rfl rfl 5 (by decide) k28 rfl rfl dX0_isGround_1 ?_
  refine gk_iload_n G dX0_isGround_4 1 rfl ?_
  refine gk_iald (v := nI (M 5 j)) G (q0 := 6) (t0 := 0) rfl rfl j rfl (by omega) (by decide) (hr.2.2.2.2.2.1 j (by omega)) dX0_isGround_5 ?_
  refine gk_if_ne (tgt := 13) G dX0_isGround_6 (by decide) (fun c_6 => ?_) (fun c_6 => ?_)
  · replace c_6 := (not_congr (nI_eq (a := M 5 j) (b := 0) (by omega) (by omega))).mp c_6
    refine gk_iconst (v := nI 0) G dX0_isGround_13 (by decide) ?_
    exact RET _ _ _ _ _ _ () dX0_isGround_14 rfl (by first | exact (gm_b1 c_6).symm | exact (gm_b0 c_6).symm) rfl (Nat.le_of_ble_eq_true rfl) (Nat.le_of_ble_eq_true rfl)
  · replace c_6 := (nI_eq (a := M 5 j) (b := 0) (by omega) (by omega)).mp c_6
    refine gk_iconst (v := nI 1) G dX0_isGround_9 (by decide) ?_
    refine gk_goto (tgt := 14) G dX0_isGround_10 (by decide) ?_
    exact RET _ _ _ _ _ _ () dX0_isGround_14 rfl (by first | exact (gm_b1 c_6).symm | exact (gm_b0 c_6).symm) rfl (Nat.le_of_ble_eq_true rfl) (Nat.le_of_ble_eq_true rfl)
theorem gm_kd {M : gm_M} {i j a b : Nat} (ha : a < 2 ^ 30) (hb : b < 2 ^ 30) (hi : gm_key M i = a) (hj : gm_key M j = b) : (nI a - nI b < 0 ↔ gm_key M i < gm_key M j) ∧ (nI a - nI b = 0 ↔ gm_key M i = gm_key M j) := by
  have ht := pk_sub_toInt ha hb
  rw [hi, hj]
  constructor
  · rw [Int32.lt_iff_toInt_lt, ht, Int32.toInt_zero]; omega
  · constructor
    · intro q
      have := congrArg Int32.toInt q
      rw [ht, Int32.toInt_zero] at this
      omega
    · intro q
      subst q
      have := pk_sub (Nat.le_refl a)
      rw [this, Nat.sub_self]; rfl
theorem gm_kd0 {M : gm_M} {i j : Nat} (hi : gm_key M i = 0) (hj : gm_key M j = 0) : (nI 0 < 0 ↔ gm_key M i < gm_key M j) ∧ (nI 0 = 0 ↔ gm_key M i = gm_key M j) := by
  rw [hi, hj]; exact ⟨⟨fun q => absurd q (by decide), fun q => absurd q (by omega)⟩, ⟨fun _ => rfl, fun _ => rfl⟩⟩

set_option maxRecDepth 100000 in
set_option maxHeartbeats 1000000 in
/-- the one comes ahead of the other by the rule -/
theorem c0_isAhead (l : Launch) (D : va_G) (cI cZ cJ : ClassId) (h : Nat) (q : Nat → Nat) (F : Nat → Int32) (B : Nat → Nat → Int32) (M : gm_M) (i j : Nat) (wf : gm_wf M) (hr : gc_rep F B M) (hi : i < M 11 0) (hj : j < M 11 0) : gk_I l yX0_isAhead wsX0_isAhead ({ frames := 0, cells := 0, slots := 0, locals := 0 } : Room) D (g_T cI cZ cJ) gk_E0 [.ref h, .int (nI i), .int (nI j)] (gs_W cI cZ h q F B) 0 0 (fun (r : Int32) (u : Unit) => r = gm_b (gm_trn M i < gm_trn M j)) (fun u => (gs_W cI cZ h q F B)) := by
  refine gk_I_of (ty := .boolean) (cc := cX0_isAhead) (nL := 4) (by decide +kernel) rfl (Nat.le_of_ble_eq_true rfl) ?_
  intro p e s m below meth c A Q hnm hE G RET
  obtain ⟨hz1, hz2, hz3, hz4, hz5, hz6, hz7, hz8⟩ := id wf
  have hi7 := hz7 i hi
  have hj7 := hz7 j hj
  have hinX0 : ∀ w ∈ wsX00, w ∈ wsX0_isAhead := fun w h9 => (List.mem_cons_of_mem _ (List.mem_append_right _ h9))
  have k28 := G.2.2.2.2.1 (.fieldLink RX0 28 "GustMill$State" "lefts" "[I") (List.mem_cons_of_mem _ (List.mem_append_left _ (List.mem_of_getElem? (i := 2) rfl)))
  have k31 := G.2.2.2.2.1 (.fieldLink RX0 31 "GustMill$State" "untils" "[I") (List.mem_cons_of_mem _ (List.mem_append_left _ (List.mem_of_getElem? (i := 1) rfl)))
  have k56 := G.2.2.2.2.1 (.fieldLink RX0 56 "GustMill$State" "rule" "I") (List.mem_cons_of_mem _ (List.mem_append_left _ (List.mem_of_getElem? (i := 0) rfl)))
  have J49 : ∀ x : Int32, (x < 0 ↔ gm_key M i < gm_key M j) ∧ (x = 0 ↔ gm_key M i = gm_key M j) → gk_C p l e ({ frames := 0, cells := 0, slots := 0, locals := 0 } : Room) s m ([.ref h, .int (nI i), .int (nI j)] : List Value).toArray below meth c 4 D A Q 0 0 (gs_W cI cZ h q F B) [(0, .ref h), (1, .int (nI i)), (2, .int (nI j)), (3, .int (x))] 49 [] := by
    intro x hx
    refine gk_iload_n G dX0_isAhead_49 3 rfl ?_
    refine gk_if_lt (tgt := 62) G dX0_isAhead_50 (by decide) (fun c_50 => ?_) (fun c_50 => ?_)
    · replace c_50 := hx.1.mp c_50
      refine gk_iconst (v := nI 1) G dX0_isAhead_62 (by decide) ?_
      refine gk_goto (tgt := 67) G dX0_isAhead_63 (by decide) ?_
      exact RET _ _ _ _ _ _ () dX0_isAhead_67 rfl (by unfold gm_trn; first | exact (gm_b1 (by omega)).symm | exact (gm_b0 (by omega)).symm) rfl (Nat.le_of_ble_eq_true rfl) (Nat.le_of_ble_eq_true rfl)
    · replace c_50 := (not_congr hx.1).mp c_50
      refine gk_iload_n G dX0_isAhead_53 3 rfl ?_
      refine gk_if_ne (tgt := 66) G dX0_isAhead_54 (by decide) (fun c_54 => ?_) (fun c_54 => ?_)
      · replace c_54 := (not_congr hx.2).mp c_54
        refine gk_iconst (v := nI 0) G dX0_isAhead_66 (by decide) ?_
        exact RET _ _ _ _ _ _ () dX0_isAhead_67 rfl (by unfold gm_trn; first | exact (gm_b1 (by omega)).symm | exact (gm_b0 (by omega)).symm) rfl (Nat.le_of_ble_eq_true rfl) (Nat.le_of_ble_eq_true rfl)
      · replace c_54 := hx.2.mp c_54
        refine gk_iload_n G dX0_isAhead_57 1 rfl ?_
        refine gk_iload_n G dX0_isAhead_58 2 rfl ?_
        refine gk_icmp_ge (tgt := 66) G dX0_isAhead_59 (by decide) (fun c_59 => ?_) (fun c_59 => ?_)
        · replace c_59 := (nI_leI (a := j) (b := i) (by omega) (by omega)).mp c_59
          refine gk_iconst (v := nI 0) G dX0_isAhead_66 (by decide) ?_
          exact RET _ _ _ _ _ _ () dX0_isAhead_67 rfl (by unfold gm_trn; first | exact (gm_b1 (by omega)).symm | exact (gm_b0 (by omega)).symm) rfl (Nat.le_of_ble_eq_true rfl) (Nat.le_of_ble_eq_true rfl)
        · replace c_59 := (not_congr (nI_leI (a := j) (b := i) (by omega) (by omega))).mp c_59
          refine gk_iconst (v := nI 1) G dX0_isAhead_62 (by decide) ?_
          refine gk_goto (tgt := 67) G dX0_isAhead_63 (by decide) ?_
          exact RET _ _ _ _ _ _ () dX0_isAhead_67 rfl (by unfold gm_trn; first | exact (gm_b1 (by omega)).symm | exact (gm_b0 (by omega)).symm) rfl (Nat.le_of_ble_eq_true rfl) (Nat.le_of_ble_eq_true rfl)
  refine gk_iconst (v := nI 0) G dX0_isAhead_0 (by decide) ?_
  refine gk_istore_n (lv' := [(3, .int (nI 0)), (0, .ref h), (1, .int (nI i)), (2, .int (nI j))]) G dX0_isAhead_1 rfl (by decide) rfl ?_
  refine gk_aload_n G dX0_isAhead_2 1 rfl ?_
  refine gk_get (v' := .int (nI (M 14 0))) G hinX0 (q0 := 0) rfl rfl 14 (by decide) k56 rfl (congrArg Value.int (hr.1.2.2.2.2.2.1)) dX0_isAhead_3 ?_
  refine gk_iconst (v := nI 1) G dX0_isAhead_6 (by decide) ?_
  refine gk_icmp_ne (tgt := 27) G dX0_isAhead_7 (by decide) (fun c_7 => ?_) (fun c_7 => ?_)
  · replace c_7 := (not_congr (nI_eq (a := M 14 0) (b := 1) (by omega) (by omega))).mp c_7
    refine gk_aload_n G dX0_isAhead_27 1 rfl ?_
    refine gk_get (v' := .int (nI (M 14 0))) G hinX0 (q0 := 0) rfl rfl 14 (by decide) k56 rfl (congrArg Value.int (hr.1.2.2.2.2.2.1)) dX0_isAhead_28 ?_
    refine gk_iconst (v := nI 2) G dX0_isAhead_31 (by decide) ?_
    refine gk_icmp_ne (tgt := 49) G dX0_isAhead_32 (by decide) (fun c_32 => ?_) (fun c_32 => ?_)
    · replace c_32 := (not_congr (nI_eq (a := M 14 0) (b := 2) (by omega) (by omega))).mp c_32
      exact gk_lsub [1,2,3,0] rfl (J49 (nI 0) (gm_kd0 (by unfold gm_key; rw [if_pos (by omega)]) (by unfold gm_key; rw [if_pos (by omega)])))
    · replace c_32 := (nI_eq (a := M 14 0) (b := 2) (by omega) (by omega)).mp c_32
      refine gk_aload_n G dX0_isAhead_35 1 rfl ?_
      refine gk_get (v' := .ref (q 5)) G hinX0 (q0 := 0) rfl rfl 5 (by decide) k28 rfl rfl dX0_isAhead_36 ?_
      refine gk_iload_n G dX0_isAhead_39 2 rfl ?_
      refine gk_iald (v := nI (M 5 i)) G (q0 := 6) (t0 := 0) rfl rfl i rfl (by omega) (by decide) (hr.2.2.2.2.2.1 i (by omega)) dX0_isAhead_40 ?_
      refine gk_aload_n G dX0_isAhead_41 1 rfl ?_
      refine gk_get (v' := .ref (q 5)) G hinX0 (q0 := 0) rfl rfl 5 (by decide) k28 rfl rfl dX0_isAhead_42 ?_
      refine gk_iload_n G dX0_isAhead_45 3 rfl ?_
      refine gk_iald (v := nI (M 5 j)) G (q0 := 6) (t0 := 0) rfl rfl j rfl (by omega) (by decide) (hr.2.2.2.2.2.1 j (by omega)) dX0_isAhead_46 ?_
      refine gk_isub (v := nI (M 5 i) - nI (M 5 j)) G dX0_isAhead_47 rfl ?_
      refine gk_istore_n (lv' := [(3, .int (nI (M 5 i) - nI (M 5 j))), (0, .ref h), (1, .int (nI i)), (2, .int (nI j))]) G dX0_isAhead_48 rfl (by decide) rfl ?_
      exact gk_lsub [1,2,3,0] rfl (J49 _ (gm_kd (a := M 5 i) (b := M 5 j) (by omega) (by omega) (by unfold gm_key; rw [if_neg (by omega), if_neg (by omega)]) (by unfold gm_key; rw [if_neg (by omega), if_neg (by omega)])))
  · replace c_7 := (nI_eq (a := M 14 0) (b := 1) (by omega) (by omega)).mp c_7
    refine gk_aload_n G dX0_isAhead_10 1 rfl ?_
    refine gk_get (v' := .ref (q 6)) G hinX0 (q0 := 0) rfl rfl 6 (by decide) k31 rfl rfl dX0_isAhead_11 ?_
    refine gk_iload_n G dX0_isAhead_14 2 rfl ?_
    refine gk_iald (v := nI (M 6 i)) G (q0 := 7) (t0 := 0) rfl rfl i rfl (by omega) (by decide) (hr.2.2.2.2.2.2.1 i (by omega)) dX0_isAhead_15 ?_
    refine gk_aload_n G dX0_isAhead_16 1 rfl ?_
    refine gk_get (v' := .ref (q 6)) G hinX0 (q0 := 0) rfl rfl 6 (by decide) k31 rfl rfl dX0_isAhead_17 ?_
    refine gk_iload_n G dX0_isAhead_20 3 rfl ?_
    refine gk_iald (v := nI (M 6 j)) G (q0 := 7) (t0 := 0) rfl rfl j rfl (by omega) (by decide) (hr.2.2.2.2.2.2.1 j (by omega)) dX0_isAhead_21 ?_
    refine gk_isub (v := nI (M 6 i) - nI (M 6 j)) G dX0_isAhead_22 rfl ?_
    refine gk_istore_n (lv' := [(3, .int (nI (M 6 i) - nI (M 6 j))), (0, .ref h), (1, .int (nI i)), (2, .int (nI j))]) G dX0_isAhead_23 rfl (by decide) rfl ?_
    refine gk_goto (tgt := 49) G dX0_isAhead_24 (by decide) ?_
    exact gk_lsub [1,2,3,0] rfl (J49 _ (gm_kd (a := M 6 i) (b := M 6 j) (by omega) (by omega) (by unfold gm_key; rw [if_neg (by omega), if_pos (by omega)]) (by unfold gm_key; rw [if_neg (by omega), if_pos (by omega)])))
set_option maxRecDepth 100000 in
set_option maxHeartbeats 1000000 in
theorem c0_countAhead (l : Launch) (D : va_G) (cI cZ cJ : ClassId) (h : Nat) (q : Nat → Nat) (F : Nat → Int32) (B : Nat → Nat → Int32) (M : gm_M) (j : Nat) (wf : gm_wf M) (hr : gc_rep F B M) (hrest : gm_rest M) (hj : j < M 11 0) : gk_I l yX0_countAhead wsX0_countAhead ({ frames := 1, cells := 0, slots := 0, locals := 23 } : Room) D (g_T cI cZ cJ) gk_E0 [.ref h, .int (nI j)] (gs_W cI cZ h q F B) 0 0 (fun (r : Int32) (u : Unit) => r = nI (gm_cnt M j (M 11 0))) (fun u => (gs_W cI cZ h q F B)) := by
  refine gk_I_of (ty := .int) (cc := cX0_countAhead) (nL := 4) (by decide +kernel) rfl (Nat.le_of_ble_eq_true rfl) ?_
  intro p e s m below meth c A Q hnm hE G RET
  obtain ⟨hz1, hz2, hz3, hz4, hz5, hz6, hz7, hz8⟩ := id wf
  have hinX0 : ∀ w ∈ wsX00, w ∈ wsX0_countAhead := fun w h9 => (List.mem_cons_of_mem _ (List.mem_append_right _ h9))
  have k47 := G.2.2.2.2.1 (.fieldLink RX0 47 "GustMill$State" "sackCount" "I") (List.mem_cons_of_mem _ (List.mem_append_left _ (List.mem_of_getElem? (i := 0) rfl)))
  have L4 : ∀ (n : Nat) (k : Nat), M 11 0 - k < n → (k ≤ M 11 0) → gk_C p l e ({ frames := 1, cells := 0, slots := 0, locals := 23 } : Room) s m ([.ref h, .int (nI j)] : List Value).toArray below meth c 4 D A Q 0 0 (gs_W cI cZ h q F B) [(0, .ref h), (1, .int (nI j)), (2, .int (nI (gm_cnt M j k))), (3, .int (nI k))] 4 [] := by
    intro n
    induction n with
    | zero => intro k h0; exact absurd h0 (Nat.not_lt_zero _)
    | succ n ih =>
      intro k h0 w0
      refine gk_iload_n G dX0_countAhead_4 3 rfl ?_
      refine gk_aload_n G dX0_countAhead_5 0 rfl ?_
      refine gk_get (v' := .int (nI (M 11 0))) G hinX0 (q0 := 0) rfl rfl 11 (by decide) k47 rfl (congrArg Value.int (hr.1.2.2.1)) dX0_countAhead_6 ?_
      refine gk_icmp_ge (tgt := 38) G dX0_countAhead_9 (by decide) (fun c_9 => ?_) (fun c_9 => ?_)
      · replace c_9 := (nI_leI (a := M 11 0) (b := k) (by omega) (by omega)).mp c_9
        refine gk_iload_n G dX0_countAhead_38 2 rfl ?_
        exact RET _ _ _ _ _ _ () dX0_countAhead_39 rfl (by rw [show k = M 11 0 by omega]) rfl (Nat.le_of_ble_eq_true rfl) (Nat.le_of_ble_eq_true rfl)
      · replace c_9 := (not_congr (nI_leI (a := M 11 0) (b := k) (by omega) (by omega))).mp c_9
        have hk5 := hrest k (by omega)
        have hk7 := hz7 k (by omega)
        refine gk_aload_n G dX0_countAhead_12 0 rfl ?_
        refine gk_iload_n G dX0_countAhead_13 3 rfl ?_
        refine gk_callIV (wr := []) G (c0_isGround l D cI cZ cJ h q F B M k wf hr (by omega)) gX0_countAhead_X0_isGround rfl 1 (by decide +kernel) rfl rfl ⟨(Nat.le_of_ble_eq_true rfl), (Nat.le_of_ble_eq_true rfl)⟩ rfl (q0 := 0) rfl (T := TX0) (N := 16) rfl gk_ok0 trivial [0, 1, 2, 3, 4, 5, 6, 7, 8, 9] rfl (by decide) [] rfl (by decide) (by decide) rfl (Nat.le_of_ble_eq_true rfl) dX0_countAhead_14 ⟨(Nat.le_of_ble_eq_true rfl), (Nat.le_of_ble_eq_true rfl)⟩ (fun r14 u14 hp14 => ?_)
        obtain rfl : r14 = gm_b (M 5 k = 0) := hp14
        show gk_C p l e ({ frames := 1, cells := 0, slots := 0, locals := 23 } : Room) s m ([.ref h, .int (nI j)] : List Value).toArray below meth c 4 D A Q 0 0 (gs_W cI cZ h q F B) [(0, .ref h), (1, .int (nI j)), (2, .int (nI (gm_cnt M j k))), (3, .int (nI k))] 17 [.int (gm_b (M 5 k = 0))]
        refine gk_if_ne (tgt := 32) G dX0_countAhead_17 (by decide) (fun c_17 => ?_) (fun c_17 => ?_)
        · replace c_17 := gm_b_ne.mp c_17
          refine gk_iinc (j := 3) (v := nI (k + 1)) (lv' := [(3, .int (nI (k + 1))), (0, .ref h), (1, .int (nI j)), (2, .int (nI (gm_cnt M j k)))]) G dX0_countAhead_32 rfl (nI_add k 1) (by decide) rfl ?_
          refine gk_goto (tgt := 4) G dX0_countAhead_35 (by decide) ?_
          have e9 : gm_cnt M j (k + 1) = gm_cnt M j k := by
            show gm_cnt M j k + (if M 8 k = 0 ∧ gm_trn M k < gm_trn M j then 1 else 0) = _
            split <;> omega
          have t9 := ih (k + 1) (by omega) (by omega)
          rw [e9] at t9
          exact gk_lsub [1,2,3,0] rfl t9
        · replace c_17 := gm_b_eq.mp c_17
          refine gk_aload_n G dX0_countAhead_20 0 rfl ?_
          refine gk_iload_n G dX0_countAhead_21 3 rfl ?_
          refine gk_iload_n G dX0_countAhead_22 1 rfl ?_
          refine gk_callIV (wr := []) G (c0_isAhead l D cI cZ cJ h q F B M k j wf hr (by omega) hj) gX0_countAhead_X0_isAhead rfl 2 (by decide +kernel) rfl rfl ⟨(Nat.le_of_ble_eq_true rfl), (Nat.le_of_ble_eq_true rfl)⟩ rfl (q0 := 0) rfl (T := TX0) (N := 16) rfl gk_ok0 trivial [0, 1, 2, 3, 4, 5, 6, 7, 8, 9] rfl (by decide) [] rfl (by decide) (by decide) rfl (Nat.le_of_ble_eq_true rfl) dX0_countAhead_23 ⟨(Nat.le_of_ble_eq_true rfl), (Nat.le_of_ble_eq_true rfl)⟩ (fun r23 u23 hp23 => ?_)
          obtain rfl : r23 = gm_b (gm_trn M k < gm_trn M j) := hp23
          show gk_C p l e ({ frames := 1, cells := 0, slots := 0, locals := 23 } : Room) s m ([.ref h, .int (nI j)] : List Value).toArray below meth c 4 D A Q 0 0 (gs_W cI cZ h q F B) [(0, .ref h), (1, .int (nI j)), (2, .int (nI (gm_cnt M j k))), (3, .int (nI k))] 26 [.int (gm_b (gm_trn M k < gm_trn M j))]
          refine gk_if_eq (tgt := 32) G dX0_countAhead_26 (by decide) (fun c_26 => ?_) (fun c_26 => ?_)
          · replace c_26 := gm_b_eq.mp c_26
            refine gk_iinc (j := 3) (v := nI (k + 1)) (lv' := [(3, .int (nI (k + 1))), (0, .ref h), (1, .int (nI j)), (2, .int (nI (gm_cnt M j k)))]) G dX0_countAhead_32 rfl (nI_add k 1) (by decide) rfl ?_
            refine gk_goto (tgt := 4) G dX0_countAhead_35 (by decide) ?_
            have e9 : gm_cnt M j (k + 1) = gm_cnt M j k := by
              show gm_cnt M j k + (if M 8 k = 0 ∧ gm_trn M k < gm_trn M j then 1 else 0) = _
              split <;> omega
            have t9 := ih (k + 1) (by omega) (by omega)
            rw [e9] at t9
            exact gk_lsub [1,2,3,0] rfl t9
          · replace c_26 := gm_b_ne.mp c_26
            refine gk_iinc (j := 2) (v := nI (gm_cnt M j k + 1)) (lv' := [(2, .int (nI (gm_cnt M j k + 1))), (0, .ref h), (1, .int (nI j)), (3, .int (nI k))]) G dX0_countAhead_29 rfl (nI_add (gm_cnt M j k) 1) (by decide) rfl ?_
            refine gk_iinc (j := 3) (v := nI (k + 1)) (lv' := [(3, .int (nI (k + 1))), (2, .int (nI (gm_cnt M j k + 1))), (0, .ref h), (1, .int (nI j))]) G dX0_countAhead_32 rfl (nI_add k 1) (by decide) rfl ?_
            refine gk_goto (tgt := 4) G dX0_countAhead_35 (by decide) ?_
            have e9 : gm_cnt M j (k + 1) = gm_cnt M j k + 1 := by
              show gm_cnt M j k + (if M 8 k = 0 ∧ gm_trn M k < gm_trn M j then 1 else 0) = _
              split <;> omega
            have t9 := ih (k + 1) (by omega) (by omega)
            rw [e9] at t9
            exact gk_lsub [2,3,1,0] rfl t9
  refine gk_iconst (v := nI 0) G dX0_countAhead_0 (by decide) ?_
  refine gk_istore_n (lv' := [(2, .int (nI 0)), (0, .ref h), (1, .int (nI j))]) G dX0_countAhead_1 rfl (by decide) rfl ?_
  refine gk_iconst (v := nI 0) G dX0_countAhead_2 (by decide) ?_
  refine gk_istore_n (lv' := [(3, .int (nI 0)), (2, .int (nI 0)), (0, .ref h), (1, .int (nI j))]) G dX0_countAhead_3 rfl (by decide) rfl ?_
  exact gk_lsub [2,3,1,0] rfl (L4 (M 11 0 + 1) 0 (by omega) (by omega))
set_option maxRecDepth 100000 in
set_option maxHeartbeats 1000000 in
theorem c0_firstByRule (l : Launch) (D : va_G) (cI cZ cJ : ClassId) (h : Nat) (q : Nat → Nat) (F : Nat → Int32) (B : Nat → Nat → Int32) (M : gm_M) (f : Nat) (wf : gm_wf M) (hr : gc_rep F B M) (hrest : gm_rest M) (hf : f ≤ 1) : gk_I l yX0_firstByRule wsX0_firstByRule ({ frames := 1, cells := 0, slots := 0, locals := 23 } : Room) D (g_T cI cZ cJ) gk_E0 [.ref h, .int (nI f)] (gs_W cI cZ h q F B) 0 0 (fun (r : Int32) (u : Unit) => r = gm_e (gm_nxt M f (M 11 0))) (fun u => (gs_W cI cZ h q F B)) := by
  refine gk_I_of (ty := .int) (cc := cX0_firstByRule) (nL := 5) (by decide +kernel) rfl (Nat.le_of_ble_eq_true rfl) ?_
  intro p e s m below meth c A Q hnm hE G RET
  obtain ⟨hz1, hz2, hz3, hz4, hz5, hz6, hz7, hz8⟩ := id wf
  have hinX0 : ∀ w ∈ wsX00, w ∈ wsX0_firstByRule := fun w h9 => (List.mem_cons_of_mem _ (List.mem_append_right _ h9))
  have k34 := G.2.2.2.2.1 (.fieldLink RX0 34 "GustMill$State" "stonesUnder" "[I") (List.mem_cons_of_mem _ (List.mem_append_left _ (List.mem_of_getElem? (i := 1) rfl)))
  have k47 := G.2.2.2.2.1 (.fieldLink RX0 47 "GustMill$State" "sackCount" "I") (List.mem_cons_of_mem _ (List.mem_append_left _ (List.mem_of_getElem? (i := 0) rfl)))
  have L4 : ∀ (n : Nat) (k : Nat), M 11 0 - k < n → (k ≤ M 11 0) → gk_C p l e ({ frames := 1, cells := 0, slots := 0, locals := 23 } : Room) s m ([.ref h, .int (nI f)] : List Value).toArray below meth c 5 D A Q 0 0 (gs_W cI cZ h q F B) [(0, .ref h), (1, .int (nI f)), (2, .int (gm_e (gm_nxt M f k))), (3, .int (nI k))] 4 [] := by
    intro n
    induction n with
    | zero => intro k h0; exact absurd h0 (Nat.not_lt_zero _)
    | succ n ih =>
      intro k h0 w0
      refine gk_iload_n G dX0_firstByRule_4 3 rfl ?_
      refine gk_aload_n G dX0_firstByRule_5 0 rfl ?_
      refine gk_get (v' := .int (nI (M 11 0))) G hinX0 (q0 := 0) rfl rfl 11 (by decide) k47 rfl (congrArg Value.int (hr.1.2.2.1)) dX0_firstByRule_6 ?_
      refine gk_icmp_ge (tgt := 68) G dX0_firstByRule_9 (by decide) (fun c_9 => ?_) (fun c_9 => ?_)
      · replace c_9 := (nI_leI (a := M 11 0) (b := k) (by omega) (by omega)).mp c_9
        refine gk_iload_n G dX0_firstByRule_68 2 rfl ?_
        exact RET _ _ _ _ _ _ () dX0_firstByRule_69 rfl (by rw [show k = M 11 0 by omega]) rfl (Nat.le_of_ble_eq_true rfl) (Nat.le_of_ble_eq_true rfl)
      · replace c_9 := (not_congr (nI_leI (a := M 11 0) (b := k) (by omega) (by omega))).mp c_9
        have hk5 := hrest k (by omega)
        have hk7 := hz7 k (by omega)
        have hkn := gm_nxt_le M f k
        refine gk_aload_n G dX0_firstByRule_12 0 rfl ?_
        refine gk_iload_n G dX0_firstByRule_13 3 rfl ?_
        refine gk_callIV (wr := []) G (c0_isGround l D cI cZ cJ h q F B M k wf hr (by omega)) gX0_firstByRule_X0_isGround rfl 1 (by decide +kernel) rfl rfl ⟨(Nat.le_of_ble_eq_true rfl), (Nat.le_of_ble_eq_true rfl)⟩ rfl (q0 := 0) rfl (T := TX0) (N := 16) rfl gk_ok0 trivial [0, 1, 2, 3, 4, 5, 6, 7, 8, 9] rfl (by decide) [] rfl (by decide) (by decide) rfl (Nat.le_of_ble_eq_true rfl) dX0_firstByRule_14 ⟨(Nat.le_of_ble_eq_true rfl), (Nat.le_of_ble_eq_true rfl)⟩ (fun r14 u14 hp14 => ?_)
        obtain rfl : r14 = gm_b (M 5 k = 0) := hp14
        show gk_C p l e ({ frames := 1, cells := 0, slots := 0, locals := 23 } : Room) s m ([.ref h, .int (nI f)] : List Value).toArray below meth c 5 D A Q 0 0 (gs_W cI cZ h q F B) [(0, .ref h), (1, .int (nI f)), (2, .int (gm_e (gm_nxt M f k))), (3, .int (nI k))] 17 [.int (gm_b (M 5 k = 0))]
        refine gk_if_ne (tgt := 38) G dX0_firstByRule_17 (by decide) (fun c_17 => ?_) (fun c_17 => ?_)
        · replace c_17 := gm_b_ne.mp c_17
          refine gk_iconst (v := nI 0) G dX0_firstByRule_38 (by decide) ?_
          refine gk_istore (lv' := [(4, .int (nI 0)), (0, .ref h), (1, .int (nI f)), (2, .int (gm_e (gm_nxt M f k))), (3, .int (nI k))]) G dX0_firstByRule_39 (by decide) rfl ?_
          refine gk_iload G dX0_firstByRule_41 0 rfl ?_
          refine gk_if_eq (tgt := 62) G dX0_firstByRule_43 (by decide) (fun c_43 => ?_) (fun c_43 => ?_)
          · replace c_43 := (nI_eq (a := 0) (b := 0) (by omega) (by omega)).mp c_43
            refine gk_iinc (j := 4) (v := nI (k + 1)) (lv' := [(3, .int (nI (k + 1))), (4, .int (nI 0)), (0, .ref h), (1, .int (nI f)), (2, .int (gm_e (gm_nxt M f k)))]) G dX0_firstByRule_62 rfl (nI_add k 1) (by decide) rfl ?_
            refine gk_goto (tgt := 4) G dX0_firstByRule_65 (by decide) ?_
            have e9 : gm_e (gm_nxt M f (k + 1)) = gm_e (gm_nxt M f k) := by
              show gm_e (if M 8 k = 0 ∧ (f = 0 ∨ M 7 k = 0) ∧ (gm_nxt M f k = 0 ∨ gm_trn M k < gm_trn M (gm_nxt M f k - 1)) then k + 1 else gm_nxt M f k) = _
              rw [if_neg (by first | exact fun q => hk5 c_17 q.1 | exact fun q => q.2.1.elim c_21 c_31 | exact fun q => q.2.2.elim c_48 c_57)]
            have t9 := ih (k + 1) (by omega) (by omega)
            rw [e9] at t9
            exact gk_lsub [2,3,4,0] rfl t9
          · replace c_43 := (not_congr (nI_eq (a := 0) (b := 0) (by omega) (by omega))).mp c_43
            exact absurd rfl c_43
        · replace c_17 := gm_b_eq.mp c_17
          have hd0 : M 8 k = 0 := by
            by_cases h9 : M 8 k = 0
            · exact h9
            · exact absurd (hk7.2.2.2.2.2.1 h9).2 c_17
          refine gk_iload_n G dX0_firstByRule_20 1 rfl ?_
          refine gk_if_eq (tgt := 34) G dX0_firstByRule_21 (by decide) (fun c_21 => ?_) (fun c_21 => ?_)
          · replace c_21 := (nI_eq (a := f) (b := 0) (by omega) (by omega)).mp c_21
            refine gk_iconst (v := nI 1) G dX0_firstByRule_34 (by decide) ?_
            refine gk_goto (tgt := 39) G dX0_firstByRule_35 (by decide) ?_
            refine gk_istore (lv' := [(4, .int (nI 1)), (0, .ref h), (1, .int (nI f)), (2, .int (gm_e (gm_nxt M f k))), (3, .int (nI k))]) G dX0_firstByRule_39 (by decide) rfl ?_
            refine gk_iload G dX0_firstByRule_41 0 rfl ?_
            refine gk_if_eq (tgt := 62) G dX0_firstByRule_43 (by decide) (fun c_43 => ?_) (fun c_43 => ?_)
            · replace c_43 := (nI_eq (a := 1) (b := 0) (by omega) (by omega)).mp c_43
              exact absurd c_43 (by omega)
            · replace c_43 := (not_congr (nI_eq (a := 1) (b := 0) (by omega) (by omega))).mp c_43
              refine gk_iload_n G dX0_firstByRule_46 3 rfl ?_
              refine gk_iconst (v := -1) G dX0_firstByRule_47 (by decide) ?_
              refine gk_icmp_eq (tgt := 60) G dX0_firstByRule_48 (by decide) (fun c_48 => ?_) (fun c_48 => ?_)
              · replace c_48 := (gm_e_none (a := gm_nxt M f k) (by omega)).mp c_48
                refine gk_iload_n G dX0_firstByRule_60 4 rfl ?_
                refine gk_istore_n (lv' := [(2, .int (nI k)), (4, .int (nI 1)), (0, .ref h), (1, .int (nI f)), (3, .int (nI k))]) G dX0_firstByRule_61 rfl (by decide) rfl ?_
                refine gk_iinc (j := 4) (v := nI (k + 1)) (lv' := [(3, .int (nI (k + 1))), (2, .int (nI k)), (4, .int (nI 1)), (0, .ref h), (1, .int (nI f))]) G dX0_firstByRule_62 rfl (nI_add k 1) (by decide) rfl ?_
                refine gk_goto (tgt := 4) G dX0_firstByRule_65 (by decide) ?_
                have e9 : gm_e (gm_nxt M f (k + 1)) = nI k := by
                  show gm_e (if M 8 k = 0 ∧ (f = 0 ∨ M 7 k = 0) ∧ (gm_nxt M f k = 0 ∨ gm_trn M k < gm_trn M (gm_nxt M f k - 1)) then k + 1 else gm_nxt M f k) = _
                  rw [if_pos ⟨hd0, by first | exact Or.inl c_21 | exact Or.inr c_31, by first | exact Or.inl c_48 | exact Or.inr c_57⟩]; exact gm_eS k
                have t9 := ih (k + 1) (by omega) (by omega)
                rw [e9] at t9
                exact gk_lsub [3,4,1,0] rfl t9
              · replace c_48 := (not_congr (gm_e_none (a := gm_nxt M f k) (by omega))).mp c_48
                refine gk_aload_n G dX0_firstByRule_51 1 rfl ?_
                refine gk_iload_n G dX0_firstByRule_52 4 rfl ?_
                refine gk_iload_n G dX0_firstByRule_53 3 rfl ?_
                refine gk_callIV (wr := []) G (c0_isAhead l D cI cZ cJ h q F B M k (gm_nxt M f k - 1) wf hr (by omega) (by omega)) gX0_firstByRule_X0_isAhead rfl 2 (by decide +kernel) rfl rfl ⟨(Nat.le_of_ble_eq_true rfl), (Nat.le_of_ble_eq_true rfl)⟩ rfl (q0 := 0) rfl (T := TX0) (N := 16) rfl gk_ok0 trivial [0, 1, 2, 3, 4, 5, 6, 7, 8, 9] rfl (by decide) [] rfl (by decide) (by decide) (by rw [gm_e_pred c_48]; rfl) (Nat.le_of_ble_eq_true rfl) dX0_firstByRule_54 ⟨(Nat.le_of_ble_eq_true rfl), (Nat.le_of_ble_eq_true rfl)⟩ (fun r54 u54 hp54 => ?_)
                obtain rfl : r54 = gm_b (gm_trn M k < gm_trn M (gm_nxt M f k - 1)) := hp54
                show gk_C p l e ({ frames := 1, cells := 0, slots := 0, locals := 23 } : Room) s m ([.ref h, .int (nI f)] : List Value).toArray below meth c 5 D A Q 0 0 (gs_W cI cZ h q F B) [(4, .int (nI 1)), (0, .ref h), (1, .int (nI f)), (2, .int (gm_e (gm_nxt M f k))), (3, .int (nI k))] 57 [.int (gm_b (gm_trn M k < gm_trn M (gm_nxt M f k - 1)))]
                refine gk_if_eq (tgt := 62) G dX0_firstByRule_57 (by decide) (fun c_57 => ?_) (fun c_57 => ?_)
                · replace c_57 := gm_b_eq.mp c_57
                  refine gk_iinc (j := 4) (v := nI (k + 1)) (lv' := [(3, .int (nI (k + 1))), (4, .int (nI 1)), (0, .ref h), (1, .int (nI f)), (2, .int (gm_e (gm_nxt M f k)))]) G dX0_firstByRule_62 rfl (nI_add k 1) (by decide) rfl ?_
                  refine gk_goto (tgt := 4) G dX0_firstByRule_65 (by decide) ?_
                  have e9 : gm_e (gm_nxt M f (k + 1)) = gm_e (gm_nxt M f k) := by
                    show gm_e (if M 8 k = 0 ∧ (f = 0 ∨ M 7 k = 0) ∧ (gm_nxt M f k = 0 ∨ gm_trn M k < gm_trn M (gm_nxt M f k - 1)) then k + 1 else gm_nxt M f k) = _
                    rw [if_neg (by first | exact fun q => hk5 c_17 q.1 | exact fun q => q.2.1.elim c_21 c_31 | exact fun q => q.2.2.elim c_48 c_57)]
                  have t9 := ih (k + 1) (by omega) (by omega)
                  rw [e9] at t9
                  exact gk_lsub [2,3,4,0] rfl t9
                · replace c_57 := gm_b_ne.mp c_57
                  refine gk_iload_n G dX0_firstByRule_60 4 rfl ?_
                  refine gk_istore_n (lv' := [(2, .int (nI k)), (4, .int (nI 1)), (0, .ref h), (1, .int (nI f)), (3, .int (nI k))]) G dX0_firstByRule_61 rfl (by decide) rfl ?_
                  refine gk_iinc (j := 4) (v := nI (k + 1)) (lv' := [(3, .int (nI (k + 1))), (2, .int (nI k)), (4, .int (nI 1)), (0, .ref h), (1, .int (nI f))]) G dX0_firstByRule_62 rfl (nI_add k 1) (by decide) rfl ?_
                  refine gk_goto (tgt := 4) G dX0_firstByRule_65 (by decide) ?_
                  have e9 : gm_e (gm_nxt M f (k + 1)) = nI k := by
                    show gm_e (if M 8 k = 0 ∧ (f = 0 ∨ M 7 k = 0) ∧ (gm_nxt M f k = 0 ∨ gm_trn M k < gm_trn M (gm_nxt M f k - 1)) then k + 1 else gm_nxt M f k) = _
                    rw [if_pos ⟨hd0, by first | exact Or.inl c_21 | exact Or.inr c_31, by first | exact Or.inl c_48 | exact Or.inr c_57⟩]; exact gm_eS k
                  have t9 := ih (k + 1) (by omega) (by omega)
                  rw [e9] at t9
                  exact gk_lsub [3,4,1,0] rfl t9
          · replace c_21 := (not_congr (nI_eq (a := f) (b := 0) (by omega) (by omega))).mp c_21
            refine gk_aload_n G dX0_firstByRule_24 0 rfl ?_
            refine gk_get (v' := .ref (q 7)) G hinX0 (q0 := 0) rfl rfl 7 (by decide) k34 rfl rfl dX0_firstByRule_25 ?_
            refine gk_iload_n G dX0_firstByRule_28 3 rfl ?_
            refine gk_iald (v := gm_e (M 7 k)) G (q0 := 8) (t0 := 0) rfl rfl k rfl (by omega) (by decide) (hr.2.2.2.2.2.2.2.1 k (by omega)) dX0_firstByRule_29 ?_
            refine gk_iconst (v := -1) G dX0_firstByRule_30 (by decide) ?_
            refine gk_icmp_ne (tgt := 38) G dX0_firstByRule_31 (by decide) (fun c_31 => ?_) (fun c_31 => ?_)
            · replace c_31 := (not_congr (gm_e_none (a := M 7 k) (by omega))).mp c_31
              refine gk_iconst (v := nI 0) G dX0_firstByRule_38 (by decide) ?_
              refine gk_istore (lv' := [(4, .int (nI 0)), (0, .ref h), (1, .int (nI f)), (2, .int (gm_e (gm_nxt M f k))), (3, .int (nI k))]) G dX0_firstByRule_39 (by decide) rfl ?_
              refine gk_iload G dX0_firstByRule_41 0 rfl ?_
              refine gk_if_eq (tgt := 62) G dX0_firstByRule_43 (by decide) (fun c_43 => ?_) (fun c_43 => ?_)
              · replace c_43 := (nI_eq (a := 0) (b := 0) (by omega) (by omega)).mp c_43
                refine gk_iinc (j := 4) (v := nI (k + 1)) (lv' := [(3, .int (nI (k + 1))), (4, .int (nI 0)), (0, .ref h), (1, .int (nI f)), (2, .int (gm_e (gm_nxt M f k)))]) G dX0_firstByRule_62 rfl (nI_add k 1) (by decide) rfl ?_
                refine gk_goto (tgt := 4) G dX0_firstByRule_65 (by decide) ?_
                have e9 : gm_e (gm_nxt M f (k + 1)) = gm_e (gm_nxt M f k) := by
                  show gm_e (if M 8 k = 0 ∧ (f = 0 ∨ M 7 k = 0) ∧ (gm_nxt M f k = 0 ∨ gm_trn M k < gm_trn M (gm_nxt M f k - 1)) then k + 1 else gm_nxt M f k) = _
                  rw [if_neg (by first | exact fun q => hk5 c_17 q.1 | exact fun q => q.2.1.elim c_21 c_31 | exact fun q => q.2.2.elim c_48 c_57)]
                have t9 := ih (k + 1) (by omega) (by omega)
                rw [e9] at t9
                exact gk_lsub [2,3,4,0] rfl t9
              · replace c_43 := (not_congr (nI_eq (a := 0) (b := 0) (by omega) (by omega))).mp c_43
                exact absurd rfl c_43
            · replace c_31 := (gm_e_none (a := M 7 k) (by omega)).mp c_31
              refine gk_iconst (v := nI 1) G dX0_firstByRule_34 (by decide) ?_
              refine gk_goto (tgt := 39) G dX0_firstByRule_35 (by decide) ?_
              refine gk_istore (lv' := [(4, .int (nI 1)), (0, .ref h), (1, .int (nI f)), (2, .int (gm_e (gm_nxt M f k))), (3, .int (nI k))]) G dX0_firstByRule_39 (by decide) rfl ?_
              refine gk_iload G dX0_firstByRule_41 0 rfl ?_
              refine gk_if_eq (tgt := 62) G dX0_firstByRule_43 (by decide) (fun c_43 => ?_) (fun c_43 => ?_)
              · replace c_43 := (nI_eq (a := 1) (b := 0) (by omega) (by omega)).mp c_43
                exact absurd c_43 (by omega)
              · replace c_43 := (not_congr (nI_eq (a := 1) (b := 0) (by omega) (by omega))).mp c_43
                refine gk_iload_n G dX0_firstByRule_46 3 rfl ?_
                refine gk_iconst (v := -1) G dX0_firstByRule_47 (by decide) ?_
                refine gk_icmp_eq (tgt := 60) G dX0_firstByRule_48 (by decide) (fun c_48 => ?_) (fun c_48 => ?_)
                · replace c_48 := (gm_e_none (a := gm_nxt M f k) (by omega)).mp c_48
                  refine gk_iload_n G dX0_firstByRule_60 4 rfl ?_
                  refine gk_istore_n (lv' := [(2, .int (nI k)), (4, .int (nI 1)), (0, .ref h), (1, .int (nI f)), (3, .int (nI k))]) G dX0_firstByRule_61 rfl (by decide) rfl ?_
                  refine gk_iinc (j := 4) (v := nI (k + 1)) (lv' := [(3, .int (nI (k + 1))), (2, .int (nI k)), (4, .int (nI 1)), (0, .ref h), (1, .int (nI f))]) G dX0_firstByRule_62 rfl (nI_add k 1) (by decide) rfl ?_
                  refine gk_goto (tgt := 4) G dX0_firstByRule_65 (by decide) ?_
                  have e9 : gm_e (gm_nxt M f (k + 1)) = nI k := by
                    show gm_e (if M 8 k = 0 ∧ (f = 0 ∨ M 7 k = 0) ∧ (gm_nxt M f k = 0 ∨ gm_trn M k < gm_trn M (gm_nxt M f k - 1)) then k + 1 else gm_nxt M f k) = _
                    rw [if_pos ⟨hd0, by first | exact Or.inl c_21 | exact Or.inr c_31, by first | exact Or.inl c_48 | exact Or.inr c_57⟩]; exact gm_eS k
                  have t9 := ih (k + 1) (by omega) (by omega)
                  rw [e9] at t9
                  exact gk_lsub [3,4,1,0] rfl t9
                · replace c_48 := (not_congr (gm_e_none (a := gm_nxt M f k) (by omega))).mp c_48
                  refine gk_aload_n G dX0_firstByRule_51 1 rfl ?_
                  refine gk_iload_n G dX0_firstByRule_52 4 rfl ?_
                  refine gk_iload_n G dX0_firstByRule_53 3 rfl ?_
                  refine gk_callIV (wr := []) G (c0_isAhead l D cI cZ cJ h q F B M k (gm_nxt M f k - 1) wf hr (by omega) (by omega)) gX0_firstByRule_X0_isAhead rfl 2 (by decide +kernel) rfl rfl ⟨(Nat.le_of_ble_eq_true rfl), (Nat.le_of_ble_eq_true rfl)⟩ rfl (q0 := 0) rfl (T := TX0) (N := 16) rfl gk_ok0 trivial [0, 1, 2, 3, 4, 5, 6, 7, 8, 9] rfl (by decide) [] rfl (by decide) (by decide) (by rw [gm_e_pred c_48]; rfl) (Nat.le_of_ble_eq_true rfl) dX0_firstByRule_54 ⟨(Nat.le_of_ble_eq_true rfl), (Nat.le_of_ble_eq_true rfl)⟩ (fun r54 u54 hp54 => ?_)
                  obtain rfl : r54 = gm_b (gm_trn M k < gm_trn M (gm_nxt M f k - 1)) := hp54
                  show gk_C p l e ({ frames := 1, cells := 0, slots := 0, locals := 23 } : Room) s m ([.ref h, .int (nI f)] : List Value).toArray below meth c 5 D A Q 0 0 (gs_W cI cZ h q F B) [(4, .int (nI 1)), (0, .ref h), (1, .int (nI f)), (2, .int (gm_e (gm_nxt M f k))), (3, .int (nI k))] 57 [.int (gm_b (gm_trn M k < gm_trn M (gm_nxt M f k - 1)))]
                  refine gk_if_eq (tgt := 62) G dX0_firstByRule_57 (by decide) (fun c_57 => ?_) (fun c_57 => ?_)
                  · replace c_57 := gm_b_eq.mp c_57
                    refine gk_iinc (j := 4) (v := nI (k + 1)) (lv' := [(3, .int (nI (k + 1))), (4, .int (nI 1)), (0, .ref h), (1, .int (nI f)), (2, .int (gm_e (gm_nxt M f k)))]) G dX0_firstByRule_62 rfl (nI_add k 1) (by decide) rfl ?_
                    refine gk_goto (tgt := 4) G dX0_firstByRule_65 (by decide) ?_
                    have e9 : gm_e (gm_nxt M f (k + 1)) = gm_e (gm_nxt M f k) := by
                      show gm_e (if M 8 k = 0 ∧ (f = 0 ∨ M 7 k = 0) ∧ (gm_nxt M f k = 0 ∨ gm_trn M k < gm_trn M (gm_nxt M f k - 1)) then k + 1 else gm_nxt M f k) = _
                      rw [if_neg (by first | exact fun q => hk5 c_17 q.1 | exact fun q => q.2.1.elim c_21 c_31 | exact fun q => q.2.2.elim c_48 c_57)]
                    have t9 := ih (k + 1) (by omega) (by omega)
                    rw [e9] at t9
                    exact gk_lsub [2,3,4,0] rfl t9
                  · replace c_57 := gm_b_ne.mp c_57
                    refine gk_iload_n G dX0_firstByRule_60 4 rfl ?_
                    refine gk_istore_n (lv' := [(2, .int (nI k)), (4, .int (nI 1)), (0, .ref h), (1, .int (nI f)), (3, .int (nI k))]) G dX0_firstByRule_61 rfl (by decide) rfl ?_
                    refine gk_iinc (j := 4) (v := nI (k + 1)) (lv' := [(3, .int (nI (k + 1))), (2, .int (nI k)), (4, .int (nI 1)), (0, .ref h), (1, .int (nI f))]) G dX0_firstByRule_62 rfl (nI_add k 1) (by decide) rfl ?_
                    refine gk_goto (tgt := 4) G dX0_firstByRule_65 (by decide) ?_
                    have e9 : gm_e (gm_nxt M f (k + 1)) = nI k := by
                      show gm_e (if M 8 k = 0 ∧ (f = 0 ∨ M 7 k = 0) ∧ (gm_nxt M f k = 0 ∨ gm_trn M k < gm_trn M (gm_nxt M f k - 1)) then k + 1 else gm_nxt M f k) = _
                      rw [if_pos ⟨hd0, by first | exact Or.inl c_21 | exact Or.inr c_31, by first | exact Or.inl c_48 | exact Or.inr c_57⟩]; exact gm_eS k
                    have t9 := ih (k + 1) (by omega) (by omega)
                    rw [e9] at t9
                    exact gk_lsub [3,4,1,0] rfl t9
  refine gk_iconst (v := -1) G dX0_firstByRule_0 (by decide) ?_
  refine gk_istore_n (lv' := [(2, .int (-1)), (0, .ref h), (1, .int (nI f))]) G dX0_firstByRule_1 rfl (by decide) rfl ?_
  refine gk_iconst (v := nI 0) G dX0_firstByRule_2 (by decide) ?_
  refine gk_istore_n (lv' := [(3, .int (nI 0)), (2, .int (-1)), (0, .ref h), (1, .int (nI f))]) G dX0_firstByRule_3 rfl (by decide) rfl ?_
  have t0 := L4 (M 11 0 + 1) 0 (by omega) (by omega)
  have e0 : gm_e (gm_nxt M f 0) = -1 := gm_e0
  rw [e0] at t0
  exact gk_lsub [2,3,1,0] rfl t0
end
section
set_option maxRecDepth 100000 in
set_option maxHeartbeats 1000000 in
theorem c0_floorMod (l : Launch) (D : va_G) (cI cZ cJ : ClassId) (a b : Nat) (ha : a < 2 ^ 31) (hb0 : 0 < b) (hb : b < 2 ^ 31) : gk_I l yJ9_floorMod_7cf53 wsJ9_floorMod_7cf53 ({ frames := 0, cells := 0, slots := 0, locals := 0 } : Room) D (g_T cI cZ cJ) gk_E0 [.int (nI a), .int (nI b)] ([] : va_W) 0 0 (fun (r : Int32) (u : Unit) => r = nI (a % b)) (fun u => ([] : va_W)) := by
  refine gk_IF_of (ty := .int) (cc := cJ9_floorMod_7cf53) (nL := 3) (by decide +kernel) rfl (Nat.le_of_ble_eq_true rfl) ?_
  intro p e s m below meth c A Q hnm hE G RET
  refine gk_iload_n G dJ9_floorMod_7cf53_0 0 rfl ?_
  refine gk_iload_n G dJ9_floorMod_7cf53_1 1 rfl ?_
  refine gk_irem (v := nI (a % b)) G dJ9_floorMod_7cf53_2 (fun q => by rw [gm_0 hb] at q; omega) (pk_rem ha hb0 hb) ?_
  refine gk_istore_n (lv' := [(2, .int (nI (a % b))), (0, .int (nI a)), (1, .int (nI b))]) G dJ9_floorMod_7cf53_3 rfl (by decide) rfl ?_
  refine gk_iload_n G dJ9_floorMod_7cf53_4 1 rfl ?_
  refine gk_iload_n G dJ9_floorMod_7cf53_5 2 rfl ?_
  refine gk_ixor (v := (nI a) ^^^ (nI b)) G dJ9_floorMod_7cf53_6 rfl ?_
  refine gk_if_ge (tgt := 18) G dJ9_floorMod_7cf53_7 (by decide) (fun c_7 => ?_) (fun c_7 => ?_)
  · refine gk_iload_n G dJ9_floorMod_7cf53_18 0 rfl ?_
    exact RET _ _ _ _ _ _ () dJ9_floorMod_7cf53_19 rfl rfl rfl (Nat.le_of_ble_eq_true rfl) (Nat.le_of_ble_eq_true rfl)
  · exact absurd (gm_xpos ha hb) c_7
set_option maxRecDepth 100000 in
set_option maxHeartbeats 1000000 in
theorem c0_windOfHour (l : Launch) (D : va_G) (cI cZ cJ : ClassId) (h : Nat) (q : Nat → Nat) (F : Nat → Int32) (B : Nat → Nat → Int32) (M : gm_M) (wf : gm_wf M) (hr : gc_rep F B M) (hh : M 9 0 < 2000000) : gk_I l yX0_windOfHour wsX0_windOfHour ({ frames := 1, cells := 0, slots := 0, locals := 22 } : Room) D (g_T cI cZ cJ) gk_E0 [.ref h] (gs_W cI cZ h q F B) 0 0 (fun (r : Int32) (u : Unit) => r = nI (gm_wnd M)) (fun u => (gs_W cI cZ h q F B)) := by
  refine gk_I_of (ty := .int) (cc := cX0_windOfHour) (nL := 1) (by decide +kernel) rfl (Nat.le_of_ble_eq_true rfl) ?_
  intro p e s m below meth c A Q hnm hE G RET
  obtain ⟨hz1, hz2, hz3, hz4, hz5, hz6, hz7, hz8⟩ := id wf
  have hmod : M 9 0 % 12 < 12 := Nat.mod_lt _ (by decide)
  have hinX0 : ∀ w ∈ wsX00, w ∈ wsX0_windOfHour := fun w h9 => (List.mem_cons_of_mem _ (List.mem_append_right _ h9))
  have k9 := G.2.2.2.2.1 (.fieldLink RX0 9 "GustMill$State" "winds" "[I") (List.mem_cons_of_mem _ (List.mem_append_left _ (List.mem_of_getElem? (i := 0) rfl)))
  have k40 := G.2.2.2.2.1 (.fieldLink RX0 40 "GustMill$State" "hour" "I") (List.mem_cons_of_mem _ (List.mem_append_left _ (List.mem_of_getElem? (i := 1) rfl)))
  refine gk_aload_n G dX0_windOfHour_0 0 rfl ?_
  refine gk_get (v' := .ref (q 0)) G hinX0 (q0 := 0) rfl rfl 0 (by decide) k9 rfl rfl dX0_windOfHour_1 ?_
  refine gk_aload_n G dX0_windOfHour_4 0 rfl ?_
  refine gk_get (v' := .int (nI (M 9 0))) G hinX0 (q0 := 0) rfl rfl 9 (by decide) k40 rfl (congrArg Value.int (hr.1.1)) dX0_windOfHour_5 ?_
  refine gk_bipush (v := nI 12) G dX0_windOfHour_8 (by decide) ?_
  refine gk_callIS (wc := []) (wr := (gs_W cI cZ h q F B)) (isC := []) (isR := [0, 1, 2, 3, 4, 5, 6, 7, 8, 9]) G (c0_floorMod l D cI cZ cJ (M 9 0) 12 (by omega) (by decide) (by decide)) gX0_windOfHour_J9_floorMod_7cf53 rfl 2 (by decide +kernel) rfl rfl ⟨(Nat.le_of_ble_eq_true rfl), (Nat.le_of_ble_eq_true rfl)⟩ rfl gk_ok0 trivial rfl (by decide) rfl (by decide) (by decide) rfl (Nat.le_of_ble_eq_true rfl) dX0_windOfHour_10 ⟨(Nat.le_of_ble_eq_true rfl), (Nat.le_of_ble_eq_true rfl)⟩ (fun r10 u10 hp10 => ?_)
  obtain rfl : r10 = nI ((M 9 0) % 12) := hp10
  show gk_C p l e ({ frames := 1, cells := 0, slots := 0, locals := 22 } : Room) s m ([.ref h] : List Value).toArray below meth c 1 D A Q 0 0 (gs_W cI cZ h q F B) [(0, .ref h)] 13 [.int (nI ((M 9 0) % 12)), .ref (q 0)]
  refine gk_iald (v := nI (M 0 ((M 9 0) % 12))) G (q0 := 1) (t0 := 0) rfl rfl ((M 9 0) % 12) rfl (by omega) (by decide) (hr.2.1 ((M 9 0) % 12) (by omega)) dX0_windOfHour_13 ?_
  exact RET _ _ _ _ _ _ () dX0_windOfHour_14 rfl rfl rfl (Nat.le_of_ble_eq_true rfl) (Nat.le_of_ble_eq_true rfl)
set_option maxRecDepth 100000 in
set_option maxHeartbeats 1000000 in
theorem c0_hoursLate (l : Launch) (D : va_G) (cI cZ cJ : ClassId) (h : Nat) (q : Nat → Nat) (F : Nat → Int32) (B : Nat → Nat → Int32) (M : gm_M) (wf : gm_wf M) (hr : gc_rep F B M) (hrest : gm_rest M) (hh : M 9 0 < 2000000) : gk_I l yX0_hoursLate wsX0_hoursLate ({ frames := 1, cells := 0, slots := 0, locals := 21 } : Room) D (g_T cI cZ cJ) gk_E0 [.ref h] (gs_W cI cZ h q F B) 0 0 (fun (r : Int32) (u : Unit) => r = nI (gm_late M 0 (M 11 0))) (fun u => (gs_W cI cZ h q F B)) := by
  refine gk_I_of (ty := .int) (cc := cX0_hoursLate) (nL := 3) (by decide +kernel) rfl (Nat.le_of_ble_eq_true rfl) ?_
  intro p e s m below meth c A Q hnm hE G RET
  obtain ⟨hz1, hz2, hz3, hz4, hz5, hz6, hz7, hz8⟩ := id wf
  have hinX0 : ∀ w ∈ wsX00, w ∈ wsX0_hoursLate := fun w h9 => (List.mem_cons_of_mem _ (List.mem_append_right _ h9))
  have k31 := G.2.2.2.2.1 (.fieldLink RX0 31 "GustMill$State" "untils" "[I") (List.mem_cons_of_mem _ (List.mem_append_left _ (List.mem_of_getElem? (i := 2) rfl)))
  have k37 := G.2.2.2.2.1 (.fieldLink RX0 37 "GustMill$State" "groundHours" "[I") (List.mem_cons_of_mem _ (List.mem_append_left _ (List.mem_of_getElem? (i := 1) rfl)))
  have k47 := G.2.2.2.2.1 (.fieldLink RX0 47 "GustMill$State" "sackCount" "I") (List.mem_cons_of_mem _ (List.mem_append_left _ (List.mem_of_getElem? (i := 0) rfl)))
  have L4 : ∀ (n : Nat) (k : Nat), M 11 0 - k < n → (k ≤ M 11 0) → gk_C p l e ({ frames := 1, cells := 0, slots := 0, locals := 21 } : Room) s m ([.ref h] : List Value).toArray below meth c 3 D A Q 0 0 (gs_W cI cZ h q F B) [(0, .ref h), (1, .int (nI (gm_late M 0 k))), (2, .int (nI k))] 4 [] := by
    intro n
    induction n with
    | zero => intro k h0; exact absurd h0 (Nat.not_lt_zero _)
    | succ n ih =>
      intro k h0 w0
      refine gk_iload_n G dX0_hoursLate_4 2 rfl ?_
      refine gk_aload_n G dX0_hoursLate_5 0 rfl ?_
      refine gk_get (v' := .int (nI (M 11 0))) G hinX0 (q0 := 0) rfl rfl 11 (by decide) k47 rfl (congrArg Value.int (hr.1.2.2.1)) dX0_hoursLate_6 ?_
      refine gk_icmp_ge (tgt := 46) G dX0_hoursLate_9 (by decide) (fun c_9 => ?_) (fun c_9 => ?_)
      · replace c_9 := (nI_leI (a := M 11 0) (b := k) (by omega) (by omega)).mp c_9
        refine gk_iload_n G dX0_hoursLate_46 1 rfl ?_
        exact RET _ _ _ _ _ _ () dX0_hoursLate_47 rfl (by rw [show k = M 11 0 by omega]) rfl (Nat.le_of_ble_eq_true rfl) (Nat.le_of_ble_eq_true rfl)
      · replace c_9 := (not_congr (nI_leI (a := M 11 0) (b := k) (by omega) (by omega))).mp c_9
        have hk5 := hrest k (by omega)
        have hk7 := hz7 k (by omega)
        refine gk_aload_n G dX0_hoursLate_12 0 rfl ?_
        refine gk_iload_n G dX0_hoursLate_13 2 rfl ?_
        refine gk_callIV (wr := []) G (c0_isGround l D cI cZ cJ h q F B M k wf hr (by omega)) gX0_hoursLate_X0_isGround rfl 1 (by decide +kernel) rfl rfl ⟨(Nat.le_of_ble_eq_true rfl), (Nat.le_of_ble_eq_true rfl)⟩ rfl (q0 := 0) rfl (T := TX0) (N := 16) rfl gk_ok0 trivial [0, 1, 2, 3, 4, 5, 6, 7, 8, 9] rfl (by decide) [] rfl (by decide) (by decide) rfl (Nat.le_of_ble_eq_true rfl) dX0_hoursLate_14 ⟨(Nat.le_of_ble_eq_true rfl), (Nat.le_of_ble_eq_true rfl)⟩ (fun r14 u14 hp14 => ?_)
        obtain rfl : r14 = gm_b (M 5 k = 0) := hp14
        show gk_C p l e ({ frames := 1, cells := 0, slots := 0, locals := 21 } : Room) s m ([.ref h] : List Value).toArray below meth c 3 D A Q 0 0 (gs_W cI cZ h q F B) [(0, .ref h), (1, .int (nI (gm_late M 0 k))), (2, .int (nI k))] 17 [.int (gm_b (M 5 k = 0))]
        refine gk_if_eq (tgt := 40) G dX0_hoursLate_17 (by decide) (fun c_17 => ?_) (fun c_17 => ?_)
        · replace c_17 := gm_b_eq.mp c_17
          refine gk_iinc (j := 2) (v := nI (k + 1)) (lv' := [(2, .int (nI (k + 1))), (0, .ref h), (1, .int (nI (gm_late M 0 k)))]) G dX0_hoursLate_40 rfl (nI_add k 1) (by decide) rfl ?_
          refine gk_goto (tgt := 4) G dX0_hoursLate_43 (by decide) ?_
          have e9 : gm_late M 0 (k + 1) = gm_late M 0 k := by
            show gm_late M 0 k + (if M 8 k = 0 then 0 else M 8 k - 1 - M 6 k) = _
            rw [if_pos (Decidable.byContradiction (fun h9 => c_17 (hk7.2.2.2.2.2.1 h9).2))]; rfl
          have t9 := ih (k + 1) (by omega) (by omega)
          rw [e9] at t9
          exact gk_lsub [1,2,0] rfl t9
        · replace c_17 := gm_b_ne.mp c_17
          refine gk_iload_n G dX0_hoursLate_20 1 rfl ?_
          refine gk_iconst (v := nI 0) G dX0_hoursLate_21 (by decide) ?_
          refine gk_aload_n G dX0_hoursLate_22 0 rfl ?_
          refine gk_get (v' := .ref (q 8)) G hinX0 (q0 := 0) rfl rfl 8 (by decide) k37 rfl rfl dX0_hoursLate_23 ?_
          refine gk_iload_n G dX0_hoursLate_26 2 rfl ?_
          refine gk_iald (v := gm_e (M 8 k)) G (q0 := 9) (t0 := 0) rfl rfl k rfl (by omega) (by decide) (hr.2.2.2.2.2.2.2.2 k (by omega)) dX0_hoursLate_27 ?_
          refine gk_aload_n G dX0_hoursLate_28 0 rfl ?_
          refine gk_get (v' := .ref (q 6)) G hinX0 (q0 := 0) rfl rfl 6 (by decide) k31 rfl rfl dX0_hoursLate_29 ?_
          refine gk_iload_n G dX0_hoursLate_32 2 rfl ?_
          refine gk_iald (v := nI (M 6 k)) G (q0 := 7) (t0 := 0) rfl rfl k rfl (by omega) (by decide) (hr.2.2.2.2.2.2.1 k (by omega)) dX0_hoursLate_33 ?_
          refine gk_isub (v := (gm_e (M 8 k)) - (nI (M 6 k))) G dX0_hoursLate_34 rfl ?_
          refine gk_mmax (v := nI (M 8 k - 1 - M 6 k)) G (G.2.2.2.2.1 (.methodLink RX0 112 Lib.Math.max.name) (List.mem_cons_of_mem _ (List.mem_append_left _ (List.mem_of_getElem? (i := 3) rfl)))) (G.2.2.2.2.1 (.static Lib.Math.max.name) (List.mem_cons_of_mem _ (List.mem_append_left _ (List.mem_of_getElem? (i := 4) rfl)))) (G.2.2.2.2.1 (.initialized "java/lang/Math") (List.mem_cons_of_mem _ (List.mem_append_left _ (List.mem_of_getElem? (i := 5) rfl)))) (G.2.2.2.2.1 (.code Lib.Math.max.name Lib.Math.max.code 2 (some .int)) (List.mem_cons_of_mem _ (List.mem_append_left _ (List.mem_of_getElem? (i := 6) rfl)))) (Nat.le_of_ble_eq_true rfl) (Nat.le_of_ble_eq_true rfl) (Nat.le_of_ble_eq_true rfl) (Nat.le_of_ble_eq_true rfl) (gm_max0 (hk5 c_17) (by omega) (by omega)) dX0_hoursLate_35 ?_
          refine gk_iadd (v := nI ((gm_late M 0 k) + (M 8 k - 1 - M 6 k))) G dX0_hoursLate_38 (nI_add (gm_late M 0 k) (M 8 k - 1 - M 6 k)) ?_
          refine gk_istore_n (lv' := [(1, .int (nI ((gm_late M 0 k) + (M 8 k - 1 - M 6 k)))), (0, .ref h), (2, .int (nI k))]) G dX0_hoursLate_39 rfl (by decide) rfl ?_
          refine gk_iinc (j := 2) (v := nI (k + 1)) (lv' := [(2, .int (nI (k + 1))), (1, .int (nI ((gm_late M 0 k) + (M 8 k - 1 - M 6 k)))), (0, .ref h)]) G dX0_hoursLate_40 rfl (nI_add k 1) (by decide) rfl ?_
          refine gk_goto (tgt := 4) G dX0_hoursLate_43 (by decide) ?_
          have e9 : gm_late M 0 (k + 1) = (gm_late M 0 k) + (M 8 k - 1 - M 6 k) := by
            show gm_late M 0 k + (if M 8 k = 0 then 0 else M 8 k - 1 - M 6 k) = _
            rw [if_neg (hk5 c_17)]
          have t9 := ih (k + 1) (by omega) (by omega)
          rw [e9] at t9
          exact gk_lsub [2,1,0] rfl t9
  refine gk_iconst (v := nI 0) G dX0_hoursLate_0 (by decide) ?_
  refine gk_istore_n (lv' := [(1, .int (nI 0)), (0, .ref h)]) G dX0_hoursLate_1 rfl (by decide) rfl ?_
  refine gk_iconst (v := nI 0) G dX0_hoursLate_2 (by decide) ?_
  refine gk_istore_n (lv' := [(2, .int (nI 0)), (1, .int (nI 0)), (0, .ref h)]) G dX0_hoursLate_3 rfl (by decide) rfl ?_
  exact gk_lsub [2,1,0] rfl (L4 (M 11 0 + 1) 0 (by omega) (by omega))
end
section
set_option maxRecDepth 100000 in
set_option maxHeartbeats 1000000 in
theorem c0_clearStone (l : Launch) (D : va_G) (cI cZ cJ : ClassId) (h : Nat) (q : Nat → Nat) (F : Nat → Int32) (B : Nat → Nat → Int32) (M : gm_M) (j : Nat) (h10 : M 10 0 ≤ 4) (h11 : M 11 0 ≤ 16) (hap : gm_ap M) (hr : gc_rep F B M) (hj : j < M 10 0) : gk_V l yX0_clearStone wsX0_clearStone ({ frames := 0, cells := 0, slots := 0, locals := 0 } : Room) D (g_T cI cZ cJ) gk_E0 [.ref h, .int (nI j)] (gs_W cI cZ h q F B) 0 0 (fun (u : (Nat → Int32) × (Nat → Nat → Int32)) => gc_rep u.1 u.2 (gm_clr M j)) (fun u => (gs_W cI cZ h q u.1 u.2)) := by
  refine gk_V_of (cc := cX0_clearStone) (nL := 3) (by decide +kernel) rfl (Nat.le_of_ble_eq_true rfl) ?_
  intro p e s m below meth c A Q hnm hE G RET
  have hwl := gm_who_le M j (M 11 0)
  have hinX0 : ∀ w ∈ wsX00, w ∈ wsX0_clearStone := fun w h9 => (List.mem_cons_of_mem _ (List.mem_append_right _ h9))
  have k18 := G.2.2.2.2.1 (.fieldLink RX0 18 "GustMill$State" "sacksUpon" "[I") (List.mem_cons_of_mem _ (List.mem_append_left _ (List.mem_of_getElem? (i := 0) rfl)))
  have k34 := G.2.2.2.2.1 (.fieldLink RX0 34 "GustMill$State" "stonesUnder" "[I") (List.mem_cons_of_mem _ (List.mem_append_left _ (List.mem_of_getElem? (i := 1) rfl)))
  refine gk_aload_n G dX0_clearStone_0 0 rfl ?_
  refine gk_get (v' := .ref (q 2)) G hinX0 (q0 := 0) rfl rfl 2 (by decide) k18 rfl rfl dX0_clearStone_1 ?_
  refine gk_iload_n G dX0_clearStone_4 1 rfl ?_
  refine gk_iald (v := gm_e (gm_who M j (M 11 0))) G (q0 := 3) (t0 := 0) rfl rfl j rfl (by omega) (by decide) (hr.2.2.2.1 j (by omega)) dX0_clearStone_5 ?_
  refine gk_istore_n (lv' := [(2, .int (gm_e (gm_who M j (M 11 0)))), (0, .ref h), (1, .int (nI j))]) G dX0_clearStone_6 rfl (by decide) rfl ?_
  refine gk_iload_n G dX0_clearStone_7 0 rfl ?_
  refine gk_iconst (v := -1) G dX0_clearStone_8 (by decide) ?_
  refine gk_icmp_eq (tgt := 26) G dX0_clearStone_9 (by decide) (fun c_9 => ?_) (fun c_9 => ?_)
  · replace c_9 := (gm_e_none (a := gm_who M j (M 11 0)) (by omega)).mp c_9
    exact RET _ _ _ _ _ (F, B) dX0_clearStone_26 (gc_rep_clr0 hr c_9) rfl (Nat.le_of_ble_eq_true rfl) (Nat.le_of_ble_eq_true rfl)
  · replace c_9 := (not_congr (gm_e_none (a := gm_who M j (M 11 0)) (by omega))).mp c_9
    refine gk_aload_n G dX0_clearStone_12 1 rfl ?_
    refine gk_get (v' := .ref (q 7)) G hinX0 (q0 := 0) rfl rfl 7 (by decide) k34 rfl rfl dX0_clearStone_13 ?_
    refine gk_iload_n G dX0_clearStone_16 0 rfl ?_
    refine gk_iconst (v := -1) G dX0_clearStone_17 (by decide) ?_
    refine gk_topi (fun v18 ev18 => ?_)
    refine gk_iast (w' := (gs_W cI cZ h q F (gc_up B 7 (upd (B 7) (gm_who M j (M 11 0) - 1) v18)))) G (q0 := 8) (t0 := 0) rfl rfl (gm_who M j (M 11 0) - 1) (gm_e_pred c_9) (by omega) (by decide) rfl dX0_clearStone_18 ?_
    generalize eB18 : gc_up B 7 (upd (B 7) (gm_who M j (M 11 0) - 1) v18) = B18
    refine gk_aload_n G dX0_clearStone_19 1 rfl ?_
    refine gk_get (v' := .ref (q 2)) G hinX0 (q0 := 0) rfl rfl 2 (by decide) k18 rfl rfl dX0_clearStone_20 ?_
    refine gk_iload_n G dX0_clearStone_23 2 rfl ?_
    refine gk_iconst (v := -1) G dX0_clearStone_24 (by decide) ?_
    refine gk_topi (fun v25 ev25 => ?_)
    refine gk_iast (w' := (gs_W cI cZ h q F (gc_up B18 2 (upd (B18 2) j v25)))) G (q0 := 3) (t0 := 0) rfl rfl j rfl (by omega) (by decide) rfl dX0_clearStone_25 ?_
    generalize eB25 : gc_up B18 2 (upd (B18 2) j v25) = B25
    exact RET _ _ _ _ _ (F, B25) dX0_clearStone_26 (by subst eB25; subst eB18; subst ev25; subst ev18; rw [gc_up_ne _ _ (show (2 : Nat) ≠ 7 by decide)]; exact gc_rep_clr hap hr hj c_9) rfl (Nat.le_of_ble_eq_true rfl) (Nat.le_of_ble_eq_true rfl)
end
section
theorem gm_cnt_le (M : gm_M) (s : Nat) : ∀ n : Nat, gm_cnt M s n ≤ n
  | 0 => Nat.le_refl 0
  | n + 1 => by
    have := gm_cnt_le M s n
    show gm_cnt M s n + (if M 8 n = 0 ∧ gm_trn M n < gm_trn M s then 1 else 0) ≤ n + 1
    split <;> omega
set_option maxRecDepth 100000 in
set_option maxHeartbeats 1000000 in
theorem c0_takeOffUnwanted (l : Launch) (D : va_G) (cI cZ cJ : ClassId) (h : Nat) (q : Nat → Nat) (F : Nat → Int32) (B : Nat → Nat → Int32) (M : gm_M) (wf : gm_wf M) (hr : gc_rep F B M) (hrest : gm_rest M) : gk_V l yX0_takeOffUnwanted wsX0_takeOffUnwanted ({ frames := 2, cells := 0, slots := 0, locals := 46 } : Room) D (g_T cI cZ cJ) gk_E0 [.ref h] (gs_W cI cZ h q F B) 0 0 (fun (u : (Nat → Int32) × (Nat → Nat → Int32)) => gc_rep u.1 u.2 (gm_tkp M (M 11 0))) (fun u => (gs_W cI cZ h q u.1 u.2)) := by
  refine gk_V_of (cc := cX0_takeOffUnwanted) (nL := 3) (by decide +kernel) rfl (Nat.le_of_ble_eq_true rfl) ?_
  intro p e s m below meth c A Q hnm hE G RET
  obtain ⟨hz1, hz2, hz3, hz4, hz5, hz6, hz7, hz8⟩ := id wf
  have hinX0 : ∀ w ∈ wsX00, w ∈ wsX0_takeOffUnwanted := fun w h9 => (List.mem_cons_of_mem _ (List.mem_append_right _ h9))
  have k18 := G.2.2.2.2.1 (.fieldLink RX0 18 "GustMill$State" "sacksUpon" "[I") (List.mem_cons_of_mem _ (List.mem_append_left _ (List.mem_of_getElem? (i := 1) rfl)))
  have k44 := G.2.2.2.2.1 (.fieldLink RX0 44 "GustMill$State" "stoneCount" "I") (List.mem_cons_of_mem _ (List.mem_append_left _ (List.mem_of_getElem? (i := 0) rfl)))
  have L2 : ∀ (n : Nat) (k : Nat) (F1 : Nat → Int32) (B1 : Nat → Nat → Int32), M 10 0 - k < n → (k ≤ M 10 0) → (gc_rep F1 B1 (gm_tkc M k)) → gk_C p l e ({ frames := 2, cells := 0, slots := 0, locals := 46 } : Room) s m ([.ref h] : List Value).toArray below meth c 3 D A Q 0 0 (gs_W cI cZ h q F1 B1) [(0, .ref h), (1, .int (nI k))] 2 [] := by
    intro n
    induction n with
    | zero => intro k F1 B1 h0; exact absurd h0 (Nat.not_lt_zero _)
    | succ n ih =>
      intro k F1 B1 h0 w0 w1
      have hr1 := w1
      have wf1 := gm_tkc_wf k wf
      have rest1 := gm_tkc_rest k hrest
      have e10 : gm_tkc M k 10 0 = M 10 0 := gm_tkc_ne M k 0 (by decide)
      have e11 : gm_tkc M k 11 0 = M 11 0 := gm_tkc_ne M k 0 (by decide)
      have hwl := gm_who_le (gm_tkc M k) k (gm_tkc M k 11 0)
      have ew : gm_who (gm_tkc M k) k (gm_tkc M k 11 0) = gm_who M k (M 11 0) := by rw [e11, gm_tkc_who]
      refine gk_iload_n G dX0_takeOffUnwanted_2 1 rfl ?_
      refine gk_aload_n G dX0_takeOffUnwanted_3 0 rfl ?_
      refine gk_get (v' := .int (nI ((gm_tkc M k) 10 0))) G hinX0 (q0 := 0) rfl rfl 10 (by decide) k44 rfl (congrArg Value.int (hr1.1.2.1)) dX0_takeOffUnwanted_4 ?_
      refine gk_icmp_ge (tgt := 45) G dX0_takeOffUnwanted_7 (by decide) (fun c_7 => ?_) (fun c_7 => ?_)
      · replace c_7 := (nI_leI (a := (gm_tkc M k) 10 0) (b := k) (by omega) (by omega)).mp c_7
        exact RET _ _ _ _ _ (F1, B1) dX0_takeOffUnwanted_45 (gc_rep_same (by rw [show M 10 0 = k by omega]; exact hr1) (gm_tkc_all wf)) rfl (Nat.le_of_ble_eq_true rfl) (Nat.le_of_ble_eq_true rfl)
      · replace c_7 := (not_congr (nI_leI (a := (gm_tkc M k) 10 0) (b := k) (by omega) (by omega))).mp c_7
        refine gk_aload_n G dX0_takeOffUnwanted_10 0 rfl ?_
        refine gk_get (v' := .ref (q 2)) G hinX0 (q0 := 0) rfl rfl 2 (by decide) k18 rfl rfl dX0_takeOffUnwanted_11 ?_
        refine gk_iload_n G dX0_takeOffUnwanted_14 1 rfl ?_
        refine gk_iald (v := gm_e (gm_who (gm_tkc M k) k ((gm_tkc M k) 11 0))) G (q0 := 3) (t0 := 0) rfl rfl k rfl (by omega) (by decide) (hr1.2.2.2.1 k (by omega)) dX0_takeOffUnwanted_15 ?_
        refine gk_istore_n (lv' := [(2, .int (gm_e (gm_who (gm_tkc M k) k ((gm_tkc M k) 11 0)))), (0, .ref h), (1, .int (nI k))]) G dX0_takeOffUnwanted_16 rfl (by decide) rfl ?_
        refine gk_iload_n G dX0_takeOffUnwanted_17 0 rfl ?_
        refine gk_iconst (v := -1) G dX0_takeOffUnwanted_18 (by decide) ?_
        refine gk_icmp_eq (tgt := 39) G dX0_takeOffUnwanted_19 (by decide) (fun c_19 => ?_) (fun c_19 => ?_)
        · replace c_19 := (gm_e_none (a := gm_who (gm_tkc M k) k ((gm_tkc M k) 11 0)) (by omega)).mp c_19
          have w0 : gm_who M k (M 11 0) = 0 := by rw [← ew]; exact c_19
          have r9 := gc_rep_same hr1 (gm_tkc_skip (fun i hi h7 => absurd h7 (gm_who_no _ w0 i hi)))
          refine gk_iinc (j := 2) (v := nI (k + 1)) (lv' := [(1, .int (nI (k + 1))), (2, .int (gm_e (gm_who (gm_tkc M k) k ((gm_tkc M k) 11 0)))), (0, .ref h)]) G dX0_takeOffUnwanted_39 rfl (nI_add k 1) (by decide) rfl ?_
          refine gk_goto (tgt := 2) G dX0_takeOffUnwanted_42 (by decide) ?_
          exact gk_lsub [2,0] rfl (ih (k + 1) _ _ (by omega) (by omega) r9)
        · replace c_19 := (not_congr (gm_e_none (a := gm_who (gm_tkc M k) k ((gm_tkc M k) 11 0)) (by omega))).mp c_19
          have w0 : gm_who M k (M 11 0) ≠ 0 := by rw [← ew]; exact c_19
          have hon := gm_who_on _ w0
          have only : ∀ i, i < M 11 0 → M 7 i = k + 1 → i = gm_who M k (M 11 0) - 1 := fun i hi h7 => hz8 i _ hi (by omega) (by omega) (by omega)
          have hcnt : gm_cnt (gm_tkc M k) (gm_who (gm_tkc M k) k (gm_tkc M k 11 0) - 1) (gm_tkc M k 11 0) = gm_cnt M (gm_who M k (M 11 0) - 1) (M 11 0) := by rw [gm_tkc_cnt, ew, e11]
          have hcl := gm_cnt_le M (gm_who M k (M 11 0) - 1) (M 11 0)
          refine gk_aload_n G dX0_takeOffUnwanted_22 1 rfl ?_
          refine gk_iload_n G dX0_takeOffUnwanted_23 0 rfl ?_
          refine gk_callIV (wr := []) G (c0_countAhead l D cI cZ cJ h q F1 B1 (gm_tkc M k) (gm_who (gm_tkc M k) k ((gm_tkc M k) 11 0) - 1) wf1 hr1 rest1 (by omega)) gX0_takeOffUnwanted_X0_countAhead rfl 1 (by decide +kernel) rfl rfl ⟨(Nat.le_of_ble_eq_true rfl), (Nat.le_of_ble_eq_true rfl)⟩ rfl (q0 := 0) rfl (T := TX0) (N := 16) rfl gk_ok0 trivial [0, 1, 2, 3, 4, 5, 6, 7, 8, 9] rfl (by decide) [] rfl (by decide) (by decide) (by rw [gm_e_pred c_19]; rfl) (Nat.le_of_ble_eq_true rfl) dX0_takeOffUnwanted_24 ⟨(Nat.le_of_ble_eq_true rfl), (Nat.le_of_ble_eq_true rfl)⟩ (fun r24 u24 hp24 => ?_)
          obtain rfl : r24 = nI (gm_cnt (gm_tkc M k) (gm_who (gm_tkc M k) k ((gm_tkc M k) 11 0) - 1) ((gm_tkc M k) 11 0)) := hp24
          show gk_C p l e ({ frames := 2, cells := 0, slots := 0, locals := 46 } : Room) s m ([.ref h] : List Value).toArray below meth c 3 D A Q 0 0 (gs_W cI cZ h q F1 B1) [(2, .int (gm_e (gm_who (gm_tkc M k) k ((gm_tkc M k) 11 0)))), (0, .ref h), (1, .int (nI k))] 27 [.int (nI (gm_cnt (gm_tkc M k) (gm_who (gm_tkc M k) k ((gm_tkc M k) 11 0) - 1) ((gm_tkc M k) 11 0)))]
          refine gk_aload_n G dX0_takeOffUnwanted_27 1 rfl ?_
          refine gk_get (v' := .int (nI ((gm_tkc M k) 10 0))) G hinX0 (q0 := 0) rfl rfl 10 (by decide) k44 rfl (congrArg Value.int (hr1.1.2.1)) dX0_takeOffUnwanted_28 ?_
          refine gk_icmp_lt (tgt := 39) G dX0_takeOffUnwanted_31 (by decide) (fun c_31 => ?_) (fun c_31 => ?_)
          · replace c_31 := (nI_ltI (a := gm_cnt (gm_tkc M k) (gm_who (gm_tkc M k) k ((gm_tkc M k) 11 0) - 1) ((gm_tkc M k) 11 0)) (b := (gm_tkc M k) 10 0) (by omega) (by omega)).mp c_31
            have r9 := gc_rep_same hr1 (gm_tkc_skip (fun i hi h7 => by rw [only i hi h7]; omega))
            refine gk_iinc (j := 2) (v := nI (k + 1)) (lv' := [(1, .int (nI (k + 1))), (2, .int (gm_e (gm_who (gm_tkc M k) k ((gm_tkc M k) 11 0)))), (0, .ref h)]) G dX0_takeOffUnwanted_39 rfl (nI_add k 1) (by decide) rfl ?_
            refine gk_goto (tgt := 2) G dX0_takeOffUnwanted_42 (by decide) ?_
            exact gk_lsub [2,0] rfl (ih (k + 1) _ _ (by omega) (by omega) r9)
          · replace c_31 := (not_congr (nI_ltI (a := gm_cnt (gm_tkc M k) (gm_who (gm_tkc M k) k ((gm_tkc M k) 11 0) - 1) ((gm_tkc M k) 11 0)) (b := (gm_tkc M k) 10 0) (by omega) (by omega))).mp c_31
            refine gk_aload_n G dX0_takeOffUnwanted_34 1 rfl ?_
            refine gk_iload_n G dX0_takeOffUnwanted_35 2 rfl ?_
            have hcn := c_31
            refine gk_callVV (wr := []) G (c0_clearStone l D cI cZ cJ h q F1 B1 (gm_tkc M k) k (by omega) (by omega) (gm_wf_ap wf1) hr1 (by omega)) gX0_takeOffUnwanted_X0_clearStone rfl 1 (by decide +kernel) rfl rfl ⟨(Nat.le_of_ble_eq_true rfl), (Nat.le_of_ble_eq_true rfl)⟩ rfl (q0 := 0) rfl (T := TX0) (N := 16) rfl gk_ok0 trivial [0, 1, 2, 3, 4, 5, 6, 7, 8, 9] rfl (by decide) [] rfl (by decide) (by decide) rfl (Nat.le_of_ble_eq_true rfl) dX0_takeOffUnwanted_36 ⟨(Nat.le_of_ble_eq_true rfl), (Nat.le_of_ble_eq_true rfl)⟩ (fun u36 hp36 => ?_)
            obtain ⟨F36, B36⟩ := u36
            have hr36 : gc_rep F36 B36 (gm_clr (gm_tkc M k) k) := hp36
            show gk_C p l e ({ frames := 2, cells := 0, slots := 0, locals := 46 } : Room) s m ([.ref h] : List Value).toArray below meth c 3 D A Q 0 0 (gs_W cI cZ h q F36 B36) [(2, .int (gm_e (gm_who (gm_tkc M k) k ((gm_tkc M k) 11 0)))), (0, .ref h), (1, .int (nI k))] 39 []
            refine gk_iinc (j := 2) (v := nI (k + 1)) (lv' := [(1, .int (nI (k + 1))), (2, .int (gm_e (gm_who (gm_tkc M k) k ((gm_tkc M k) 11 0)))), (0, .ref h)]) G dX0_takeOffUnwanted_39 rfl (nI_add k 1) (by decide) rfl ?_
            refine gk_goto (tgt := 2) G dX0_takeOffUnwanted_42 (by decide) ?_
            have r9 := gc_rep_same hr36 (gm_tkc_clr (fun i hi h7 => by rw [only i hi h7]; omega))
            exact gk_lsub [2,0] rfl (ih (k + 1) _ _ (by omega) (by omega) r9)
  refine gk_iconst (v := nI 0) G dX0_takeOffUnwanted_0 (by decide) ?_
  refine gk_istore_n (lv' := [(1, .int (nI 0)), (0, .ref h)]) G dX0_takeOffUnwanted_1 rfl (by decide) rfl ?_
  exact gk_lsub [1,0] rfl (L2 (M 10 0 + 1) 0 F B (by omega) (by omega) (gc_rep_same hr (gm_tkc_0 M)))
end
section
set_option maxRecDepth 100000 in
set_option maxHeartbeats 1000000 in
theorem c0_fillStones (l : Launch) (D : va_G) (cI cZ cJ : ClassId) (h : Nat) (q : Nat → Nat) (F : Nat → Int32) (B : Nat → Nat → Int32) (M : gm_M) (wf : gm_wf M) (hr : gc_rep F B M) (hrest : gm_rest M) : gk_V l yX0_fillStones wsX0_fillStones ({ frames := 2, cells := 0, slots := 0, locals := 47 } : Room) D (g_T cI cZ cJ) gk_E0 [.ref h] (gs_W cI cZ h q F B) 0 0 (fun (u : (Nat → Int32) × (Nat → Nat → Int32)) => gc_rep u.1 u.2 (gm_fil M (M 10 0)) ∧ ∀ i, i < M 10 0 → u.2 3 i = nI (gm_fil M (M 10 0) 3 i)) (fun u => (gs_W cI cZ h q u.1 u.2)) := by
  refine gk_V_of (cc := cX0_fillStones) (nL := 3) (by decide +kernel) rfl (Nat.le_of_ble_eq_true rfl) ?_
  intro p e s m below meth c A Q hnm hE G RET
  obtain ⟨hz1, hz2, hz3, hz4, hz5, hz6, hz7, hz8⟩ := id wf
  have hinX0 : ∀ w ∈ wsX00, w ∈ wsX0_fillStones := fun w h9 => (List.mem_cons_of_mem _ (List.mem_append_right _ h9))
  have k18 := G.2.2.2.2.1 (.fieldLink RX0 18 "GustMill$State" "sacksUpon" "[I") (List.mem_cons_of_mem _ (List.mem_append_left _ (List.mem_of_getElem? (i := 1) rfl)))
  have k21 := G.2.2.2.2.1 (.fieldLink RX0 21 "GustMill$State" "isFresh" "[Z") (List.mem_cons_of_mem _ (List.mem_append_left _ (List.mem_of_getElem? (i := 2) rfl)))
  have k34 := G.2.2.2.2.1 (.fieldLink RX0 34 "GustMill$State" "stonesUnder" "[I") (List.mem_cons_of_mem _ (List.mem_append_left _ (List.mem_of_getElem? (i := 3) rfl)))
  have k44 := G.2.2.2.2.1 (.fieldLink RX0 44 "GustMill$State" "stoneCount" "I") (List.mem_cons_of_mem _ (List.mem_append_left _ (List.mem_of_getElem? (i := 0) rfl)))
  have k53 := G.2.2.2.2.1 (.fieldLink RX0 53 "GustMill$State" "changeCount" "I") (List.mem_cons_of_mem _ (List.mem_append_left _ (List.mem_of_getElem? (i := 4) rfl)))
  have L2 : ∀ (n : Nat) (k : Nat) (F1 : Nat → Int32) (B1 : Nat → Nat → Int32), M 10 0 - k < n → (k ≤ M 10 0) → (gc_rep F1 B1 (gm_fil M k)) → (∀ i, i < k → B1 3 i = nI (gm_fil M k 3 i)) → gk_C p l e ({ frames := 2, cells := 0, slots := 0, locals := 47 } : Room) s m ([.ref h] : List Value).toArray below meth c 3 D A Q 0 0 (gs_W cI cZ h q F1 B1) [(0, .ref h), (1, .int (nI k))] 2 [] := by
    intro n
    induction n with
    | zero => intro k F1 B1 h0; exact absurd h0 (Nat.not_lt_zero _)
    | succ n ih =>
      intro k F1 B1 h0 w0 w1 w2
      have hr1 := w1
      have hfr1 := w2
      have wf1 := gm_fil_wf wf k w0
      have rest1 := gm_fil_rest hrest k
      have e10 : gm_fil M k 10 0 = M 10 0 := gm_fil_ne M 0 (by decide) (by decide) (by decide) k
      have e11 : gm_fil M k 11 0 = M 11 0 := gm_fil_ne M 0 (by decide) (by decide) (by decide) k
      have hwl := gm_who_le (gm_fil M k) k (gm_fil M k 11 0)
      have hnl := gm_nxt_le (gm_fil M k) 1 (gm_fil M k 11 0)
      refine gk_iload_n G dX0_fillStones_2 1 rfl ?_
      refine gk_aload_n G dX0_fillStones_3 0 rfl ?_
      refine gk_get (v' := .int (nI ((gm_fil M k) 10 0))) G hinX0 (q0 := 0) rfl rfl 10 (by decide) k44 rfl (congrArg Value.int (hr1.1.2.1)) dX0_fillStones_4 ?_
      refine gk_icmp_ge (tgt := 81) G dX0_fillStones_7 (by decide) (fun c_7 => ?_) (fun c_7 => ?_)
      · replace c_7 := (nI_leI (a := (gm_fil M k) 10 0) (b := k) (by omega) (by omega)).mp c_7
        exact RET _ _ _ _ _ (F1, B1) dX0_fillStones_81 (by rw [show M 10 0 = k by omega]; exact ⟨hr1, hfr1⟩) rfl (Nat.le_of_ble_eq_true rfl) (Nat.le_of_ble_eq_true rfl)
      · replace c_7 := (not_congr (nI_leI (a := (gm_fil M k) 10 0) (b := k) (by omega) (by omega))).mp c_7
        have J29 : ∀ z : Nat, z ≤ (gm_fil M k) 11 0 → ((gm_who (gm_fil M k) k ((gm_fil M k) 11 0) ≠ 0 → z = 0) ∧ (gm_who (gm_fil M k) k ((gm_fil M k) 11 0) = 0 → z = gm_nxt (gm_fil M k) 1 ((gm_fil M k) 11 0))) → gk_C p l e ({ frames := 2, cells := 0, slots := 0, locals := 47 } : Room) s m ([.ref h] : List Value).toArray below meth c 3 D A Q 0 0 (gs_W cI cZ h q F1 B1) [(0, .ref h), (1, .int (nI k))] 29 [.int (gm_e z)] := by
          intro z hzl hz
          refine gk_istore_n (lv' := [(2, .int (gm_e z)), (0, .ref h), (1, .int (nI k))]) G dX0_fillStones_29 rfl (by decide) rfl ?_
          refine gk_aload_n G dX0_fillStones_30 1 rfl ?_
          refine gk_get (v' := .ref (q 3)) G hinX0 (q0 := 0) rfl rfl 3 (by decide) k21 rfl rfl dX0_fillStones_31 ?_
          refine gk_iload_n G dX0_fillStones_34 2 rfl ?_
          refine gk_iload_n G dX0_fillStones_35 0 rfl ?_
          refine gk_iconst (v := -1) G dX0_fillStones_36 (by decide) ?_
          refine gk_icmp_eq (tgt := 44) G dX0_fillStones_37 (by decide) (fun c_37 => ?_) (fun c_37 => ?_)
          · replace c_37 := (gm_e_none (a := z) (by omega)).mp c_37
            refine gk_iconst (v := nI 0) G dX0_fillStones_44 (by decide) ?_
            refine gk_topi (fun v45 ev45 => ?_)
            refine gk_zast (w' := (gs_W cI cZ h q F1 (gc_up B1 3 (upd (B1 3) k v45)))) G (q0 := 4) (t0 := 1) rfl rfl k rfl (by omega) (by decide) (by rw [ev45]; first | exact Or.inl rfl | exact Or.inr rfl) rfl dX0_fillStones_45 ?_
            generalize eB45 : gc_up B1 3 (upd (B1 3) k v45) = B45
            refine gk_iload_n G dX0_fillStones_46 0 rfl ?_
            refine gk_iconst (v := -1) G dX0_fillStones_47 (by decide) ?_
            refine gk_icmp_eq (tgt := 75) G dX0_fillStones_48 (by decide) (fun c_48 => ?_) (fun c_48 => ?_)
            · replace c_48 := (gm_e_none (a := z) (by omega)).mp c_48
              refine gk_iinc (j := 2) (v := nI (k + 1)) (lv' := [(1, .int (nI (k + 1))), (2, .int (gm_e z)), (0, .ref h)]) G dX0_fillStones_75 rfl (nI_add k 1) (by decide) rfl ?_
              refine gk_goto (tgt := 2) G dX0_fillStones_78 (by decide) ?_
              have fe : gm_fil M (k + 1) = gm_set (gm_fil M k) 3 k 0 := by
                show gm_fs (gm_fil M k) k = _
                by_cases h9 : gm_who (gm_fil M k) k ((gm_fil M k) 11 0) = 0
                · exact gm_fs_1 h9 (by rw [← hz.2 h9]; exact c_37)
                · exact gm_fs_0 h9
              have r9 : gc_rep F1 B45 (gm_fil M (k + 1)) := by
                rw [fe]
                subst eB45; subst ev45
                exact gc_rep_set3 _ _ _ hr1
              have f9 : ∀ i, i < k + 1 → B45 3 i = nI (gm_fil M (k + 1) 3 i) := fun i hi => by
                rw [fe]
                subst eB45; subst ev45
                rw [gc_up_at]
                by_cases hik : i = k
                · rw [hik, pk_us, gm_set_at]
                · rw [pk_un hik, gm_set_i _ _ hik]; exact hfr1 i (by omega)
              exact gk_lsub [2,0] rfl (ih (k + 1) _ _ (by omega) (by omega) r9 f9)
            · replace c_48 := (not_congr (gm_e_none (a := z) (by omega))).mp c_48
              exact absurd c_37 c_48
          · replace c_37 := (not_congr (gm_e_none (a := z) (by omega))).mp c_37
            refine gk_iconst (v := nI 1) G dX0_fillStones_40 (by decide) ?_
            refine gk_goto (tgt := 45) G dX0_fillStones_41 (by decide) ?_
            refine gk_topi (fun v45 ev45 => ?_)
            refine gk_zast (w' := (gs_W cI cZ h q F1 (gc_up B1 3 (upd (B1 3) k v45)))) G (q0 := 4) (t0 := 1) rfl rfl k rfl (by omega) (by decide) (by rw [ev45]; first | exact Or.inl rfl | exact Or.inr rfl) rfl dX0_fillStones_45 ?_
            generalize eB45 : gc_up B1 3 (upd (B1 3) k v45) = B45
            refine gk_iload_n G dX0_fillStones_46 0 rfl ?_
            refine gk_iconst (v := -1) G dX0_fillStones_47 (by decide) ?_
            refine gk_icmp_eq (tgt := 75) G dX0_fillStones_48 (by decide) (fun c_48 => ?_) (fun c_48 => ?_)
            · replace c_48 := (gm_e_none (a := z) (by omega)).mp c_48
              exact absurd c_48 c_37
            · replace c_48 := (not_congr (gm_e_none (a := z) (by omega))).mp c_48
              have zw : gm_who (gm_fil M k) k ((gm_fil M k) 11 0) = 0 := by
                by_cases h9 : gm_who (gm_fil M k) k ((gm_fil M k) 11 0) = 0
                · exact h9
                · exact absurd (hz.1 h9) c_37
              have zn : z = gm_nxt (gm_fil M k) 1 ((gm_fil M k) 11 0) := hz.2 zw
              have zok := gm_nxt_ok (M := (gm_fil M k)) (f := 1) _ (zn ▸ c_37)
              refine gk_aload_n G dX0_fillStones_51 1 rfl ?_
              refine gk_get (v' := .ref (q 2)) G hinX0 (q0 := 0) rfl rfl 2 (by decide) k18 rfl rfl dX0_fillStones_52 ?_
              refine gk_iload_n G dX0_fillStones_55 2 rfl ?_
              refine gk_iload_n G dX0_fillStones_56 0 rfl ?_
              refine gk_topi (fun v57 ev57 => ?_)
              refine gk_iast (w' := (gs_W cI cZ h q F1 (gc_up B45 2 (upd (B45 2) k v57)))) G (q0 := 3) (t0 := 0) rfl rfl k rfl (by omega) (by decide) rfl dX0_fillStones_57 ?_
              generalize eB57 : gc_up B45 2 (upd (B45 2) k v57) = B57
              refine gk_aload_n G dX0_fillStones_58 1 rfl ?_
              refine gk_get (v' := .ref (q 7)) G hinX0 (q0 := 0) rfl rfl 7 (by decide) k34 rfl rfl dX0_fillStones_59 ?_
              refine gk_iload_n G dX0_fillStones_62 0 rfl ?_
              refine gk_iload_n G dX0_fillStones_63 2 rfl ?_
              refine gk_topi (fun v64 ev64 => ?_)
              refine gk_iast (w' := (gs_W cI cZ h q F1 (gc_up B57 7 (upd (B57 7) (z - 1) v64)))) G (q0 := 8) (t0 := 0) rfl rfl (z - 1) (gm_e_pred c_37) (by omega) (by decide) rfl dX0_fillStones_64 ?_
              generalize eB64 : gc_up B57 7 (upd (B57 7) (z - 1) v64) = B64
              refine gk_aload_n G dX0_fillStones_65 1 rfl ?_
              refine gk_dup G dX0_fillStones_66 rfl ?_
              refine gk_get (v' := .int (nI ((gm_fil M k) 13 0))) G hinX0 (q0 := 0) rfl rfl 13 (by decide) k53 rfl (congrArg Value.int (hr1.1.2.2.2.2.1)) dX0_fillStones_67 ?_
              refine gk_iconst (v := nI 1) G dX0_fillStones_70 (by decide) ?_
              refine gk_iadd (v := nI (((gm_fil M k) 13 0) + 1)) G dX0_fillStones_71 (nI_add ((gm_fil M k) 13 0) 1) ?_
              refine gk_topi (fun v72 ev72 => ?_)
              refine gk_put (w' := (gs_W cI cZ h q (upd F1 13 v72) B64)) G hinX0 tyX0_ok nmX0 (q0 := 0) rfl rfl 13 (by decide) k53 rfl rfl rfl (Nat.le_of_ble_eq_true rfl) rfl dX0_fillStones_72 ?_
              generalize eF72 : upd F1 13 v72 = F72
              refine gk_iinc (j := 2) (v := nI (k + 1)) (lv' := [(1, .int (nI (k + 1))), (2, .int (gm_e z)), (0, .ref h)]) G dX0_fillStones_75 rfl (nI_add k 1) (by decide) rfl ?_
              refine gk_goto (tgt := 2) G dX0_fillStones_78 (by decide) ?_
              have fe : gm_fil M (k + 1) = gm_set (gm_put (gm_fil M k) k (z - 1)) 3 k 1 := by rw [zn]; exact gm_fs_2 zw (zn ▸ c_37)
              have r9 : gc_rep F72 B64 (gm_fil M (k + 1)) := by
                rw [fe]
                refine gc_rep_same ?_ (gm_same_set3 _ _ _)
                have r8 := gc_rep_put wf1 (gc_rep_b3 (upd (B1 3) k (nI 1)) hr1) (by omega) (show z - 1 < _ by omega) ((zn ▸ zok.2).resolve_left (by decide)) zw
                rw [← gm_e_pred c_37, gc_up_ne _ _ (show (7 : Nat) ≠ 3 by decide), gc_up_ne _ _ (show (2 : Nat) ≠ 3 by decide)] at r8
                subst eF72; subst ev72; subst eB64; subst eB57; subst eB45; subst ev64; subst ev57; subst ev45; rw [gc_up_ne _ _ (show (7 : Nat) ≠ 2 by decide), gc_up_ne _ _ (show (7 : Nat) ≠ 3 by decide), gc_up_ne _ _ (show (2 : Nat) ≠ 3 by decide)]
                exact r8
              have f9 : ∀ i, i < k + 1 → B64 3 i = nI (gm_fil M (k + 1) 3 i) := fun i hi => by
                rw [fe]
                subst eB64; subst eB57; subst eB45; subst ev64; subst ev57; subst ev45
                rw [gc_up_ne _ _ (show (3 : Nat) ≠ 7 by decide), gc_up_ne _ _ (show (3 : Nat) ≠ 2 by decide), gc_up_at]
                by_cases hik : i = k
                · rw [hik, pk_us, gm_set_at]
                · rw [pk_un hik, gm_set_i _ _ hik, gm_put_ne _ _ _ _ (by decide) (by decide)]; exact hfr1 i (by omega)
              exact gk_lsub [2,0] rfl (ih (k + 1) _ _ (by omega) (by omega) r9 f9)
        refine gk_aload_n G dX0_fillStones_10 0 rfl ?_
        refine gk_get (v' := .ref (q 2)) G hinX0 (q0 := 0) rfl rfl 2 (by decide) k18 rfl rfl dX0_fillStones_11 ?_
        refine gk_iload_n G dX0_fillStones_14 1 rfl ?_
        refine gk_iald (v := gm_e (gm_who (gm_fil M k) k ((gm_fil M k) 11 0))) G (q0 := 3) (t0 := 0) rfl rfl k rfl (by omega) (by decide) (hr1.2.2.2.1 k (by omega)) dX0_fillStones_15 ?_
        refine gk_iconst (v := -1) G dX0_fillStones_16 (by decide) ?_
        refine gk_icmp_ne (tgt := 28) G dX0_fillStones_17 (by decide) (fun c_17 => ?_) (fun c_17 => ?_)
        · replace c_17 := (not_congr (gm_e_none (a := gm_who (gm_fil M k) k ((gm_fil M k) 11 0)) (by omega))).mp c_17
          refine gk_iconst (v := -1) G dX0_fillStones_28 (by decide) ?_
          have t9 := J29 0 (by omega) ⟨fun _ => rfl, fun q => absurd q c_17⟩
          rw [gm_e0] at t9
          exact gk_lsub [0,1] rfl t9
        · replace c_17 := (gm_e_none (a := gm_who (gm_fil M k) k ((gm_fil M k) 11 0)) (by omega)).mp c_17
          refine gk_aload_n G dX0_fillStones_20 0 rfl ?_
          refine gk_iconst (v := nI 1) G dX0_fillStones_21 (by decide) ?_
          refine gk_callIV (wr := []) G (c0_firstByRule l D cI cZ cJ h q F1 B1 (gm_fil M k) 1 wf1 hr1 rest1 (by omega)) gX0_fillStones_X0_firstByRule rfl 1 (by decide +kernel) rfl rfl ⟨(Nat.le_of_ble_eq_true rfl), (Nat.le_of_ble_eq_true rfl)⟩ rfl (q0 := 0) rfl (T := TX0) (N := 16) rfl gk_ok0 trivial [0, 1, 2, 3, 4, 5, 6, 7, 8, 9] rfl (by decide) [] rfl (by decide) (by decide) rfl (Nat.le_of_ble_eq_true rfl) dX0_fillStones_22 ⟨(Nat.le_of_ble_eq_true rfl), (Nat.le_of_ble_eq_true rfl)⟩ (fun r22 u22 hp22 => ?_)
          obtain rfl : r22 = gm_e (gm_nxt (gm_fil M k) 1 ((gm_fil M k) 11 0)) := hp22
          show gk_C p l e ({ frames := 2, cells := 0, slots := 0, locals := 47 } : Room) s m ([.ref h] : List Value).toArray below meth c 3 D A Q 0 0 (gs_W cI cZ h q F1 B1) [(0, .ref h), (1, .int (nI k))] 25 [.int (gm_e (gm_nxt (gm_fil M k) 1 ((gm_fil M k) 11 0)))]
          refine gk_goto (tgt := 29) G dX0_fillStones_25 (by decide) ?_
          exact gk_lsub [0,1] rfl (J29 (gm_nxt (gm_fil M k) 1 ((gm_fil M k) 11 0)) (by omega) ⟨fun q => absurd c_17 q, fun _ => rfl⟩)
  refine gk_iconst (v := nI 0) G dX0_fillStones_0 (by decide) ?_
  refine gk_istore_n (lv' := [(1, .int (nI 0)), (0, .ref h)]) G dX0_fillStones_1 rfl (by decide) rfl ?_
  exact gk_lsub [1,0] rfl (L2 (M 10 0 + 1) 0 F B (by omega) (by omega) hr (fun i hi => absurd hi (Nat.not_lt_zero i)))
end
section
set_option maxRecDepth 100000 in
set_option maxHeartbeats 1000000 in
theorem c0_grind (l : Launch) (D : va_G) (cI cZ cJ : ClassId) (h : Nat) (q : Nat → Nat) (F : Nat → Int32) (B : Nat → Nat → Int32) (M : gm_M) (wf : gm_wf M) (hr : gc_rep F B M) (hh : M 9 0 < 2000000) (hfr : ∀ i, i < M 10 0 → B 3 i = nI (M 3 i)) (hfr2 : ∀ i, i < M 10 0 → M 3 i ≤ 1) : gk_I l yX0_grind wsX0_grind ({ frames := 2, cells := 0, slots := 0, locals := 42 } : Room) D (g_T cI cZ cJ) gk_E0 [.ref h] (gs_W cI cZ h q F B) 0 0 (fun (r : Int32) (u : (Nat → Int32) × (Nat → Nat → Int32)) => r = nI (gm_grd (M 16 0 + gm_wnd M) M (M 10 0) 16 0 - M 16 0) ∧ gc_rep u.1 u.2 (gm_grd (M 16 0 + gm_wnd M) M (M 10 0))) (fun u => (gs_W cI cZ h q u.1 u.2)) := by
  refine gk_I_of (ty := .int) (cc := cX0_grind) (nL := 7) (by decide +kernel) rfl (Nat.le_of_ble_eq_true rfl) ?_
  intro p e s m below meth c A Q hnm hE G RET
  obtain ⟨hz1, hz2, hz3, hz4, hz5, hz6, hz7, hz8⟩ := id wf
  have hwnd : gm_wnd M ≤ 20 := hz5 _ (Nat.mod_lt _ (by decide))
  have hinX0 : ∀ w ∈ wsX00, w ∈ wsX0_grind := fun w h9 => (List.mem_cons_of_mem _ (List.mem_append_right _ h9))
  have k15 := G.2.2.2.2.1 (.fieldLink RX0 15 "GustMill$State" "sizes" "[I") (List.mem_cons_of_mem _ (List.mem_append_left _ (List.mem_of_getElem? (i := 3) rfl)))
  have k18 := G.2.2.2.2.1 (.fieldLink RX0 18 "GustMill$State" "sacksUpon" "[I") (List.mem_cons_of_mem _ (List.mem_append_left _ (List.mem_of_getElem? (i := 1) rfl)))
  have k21 := G.2.2.2.2.1 (.fieldLink RX0 21 "GustMill$State" "isFresh" "[Z") (List.mem_cons_of_mem _ (List.mem_append_left _ (List.mem_of_getElem? (i := 2) rfl)))
  have k28 := G.2.2.2.2.1 (.fieldLink RX0 28 "GustMill$State" "lefts" "[I") (List.mem_cons_of_mem _ (List.mem_append_left _ (List.mem_of_getElem? (i := 4) rfl)))
  have k44 := G.2.2.2.2.1 (.fieldLink RX0 44 "GustMill$State" "stoneCount" "I") (List.mem_cons_of_mem _ (List.mem_append_left _ (List.mem_of_getElem? (i := 0) rfl)))
  have L9 : ∀ (n : Nat) (k : Nat) (F1 : Nat → Int32) (B1 : Nat → Nat → Int32), M 10 0 - k < n → (k ≤ M 10 0) → (gc_rep F1 B1 (gm_grd (M 16 0 + gm_wnd M) M k)) → (∀ i, i < M 10 0 → B1 3 i = nI (M 3 i)) → gk_C p l e ({ frames := 2, cells := 0, slots := 0, locals := 42 } : Room) s m ([.ref h] : List Value).toArray below meth c 7 D A Q 0 0 (gs_W cI cZ h q F1 B1) [(0, .ref h), (1, .int (nI (gm_wnd M))), (2, .int (nI ((gm_grd (M 16 0 + gm_wnd M) M k) 16 0 - M 16 0))), (3, .int (nI k))] 9 [] := by
    intro n
    induction n with
    | zero => intro k F1 B1 h0; exact absurd h0 (Nat.not_lt_zero _)
    | succ n ih =>
      intro k F1 B1 h0 w0 w1 w2
      have hr1 := w1
      have hfr1 := w2
      have wf1 := gm_grd_wf (b := M 16 0 + gm_wnd M) wf k
      have e10 : (gm_grd (M 16 0 + gm_wnd M) M k) 10 0 = M 10 0 := gm_grd_ne _ M 0 (by decide) (by decide) k
      have e11 : (gm_grd (M 16 0 + gm_wnd M) M k) 11 0 = M 11 0 := gm_grd_ne _ M 0 (by decide) (by decide) k
      have e16 := gm_grd_16 (M 16 0 + gm_wnd M) M (by omega) k
      have hwl := gm_who_le (gm_grd (M 16 0 + gm_wnd M) M k) k ((gm_grd (M 16 0 + gm_wnd M) M k) 11 0)
      have e1 : (gm_grd (M 16 0 + gm_wnd M) M k) 1 k = M 1 k := gm_grd_ne _ M k (by decide) (by decide) k
      have e3 : (gm_grd (M 16 0 + gm_wnd M) M k) 3 k = M 3 k := gm_grd_ne _ M k (by decide) (by decide) k
      refine gk_iload_n G dX0_grind_9 3 rfl ?_
      refine gk_aload_n G dX0_grind_10 0 rfl ?_
      refine gk_get (v' := .int (nI ((gm_grd (M 16 0 + gm_wnd M) M k) 10 0))) G hinX0 (q0 := 0) rfl rfl 10 (by decide) k44 rfl (congrArg Value.int (hr1.1.2.1)) dX0_grind_11 ?_
      refine gk_icmp_ge (tgt := 102) G dX0_grind_14 (by decide) (fun c_14 => ?_) (fun c_14 => ?_)
      · replace c_14 := (nI_leI (a := (gm_grd (M 16 0 + gm_wnd M) M k) 10 0) (b := k) (by omega) (by omega)).mp c_14
        refine gk_iload_n G dX0_grind_102 2 rfl ?_
        exact RET _ _ _ _ _ _ (F1, B1) dX0_grind_103 rfl (by rw [show M 10 0 = k by omega]; exact ⟨rfl, hr1⟩) rfl (Nat.le_of_ble_eq_true rfl) (Nat.le_of_ble_eq_true rfl)
      · replace c_14 := (not_congr (nI_leI (a := (gm_grd (M 16 0 + gm_wnd M) M k) 10 0) (b := k) (by omega) (by omega))).mp c_14
        have h1k := hz6 k (by omega)
        have h3k := hfr2 k (by omega)
        refine gk_aload_n G dX0_grind_17 0 rfl ?_
        refine gk_get (v' := .ref (q 2)) G hinX0 (q0 := 0) rfl rfl 2 (by decide) k18 rfl rfl dX0_grind_18 ?_
        refine gk_iload_n G dX0_grind_21 3 rfl ?_
        refine gk_iald (v := gm_e (gm_who (gm_grd (M 16 0 + gm_wnd M) M k) k ((gm_grd (M 16 0 + gm_wnd M) M k) 11 0))) G (q0 := 3) (t0 := 0) rfl rfl k rfl (by omega) (by decide) (hr1.2.2.2.1 k (by omega)) dX0_grind_22 ?_
        refine gk_istore (lv' := [(4, .int (gm_e (gm_who (gm_grd (M 16 0 + gm_wnd M) M k) k ((gm_grd (M 16 0 + gm_wnd M) M k) 11 0)))), (0, .ref h), (1, .int (nI (gm_wnd M))), (2, .int (nI ((gm_grd (M 16 0 + gm_wnd M) M k) 16 0 - M 16 0))), (3, .int (nI k))]) G dX0_grind_23 (by decide) rfl ?_
        refine gk_iload G dX0_grind_25 0 rfl ?_
        refine gk_iconst (v := -1) G dX0_grind_27 (by decide) ?_
        refine gk_icmp_eq (tgt := 96) G dX0_grind_28 (by decide) (fun c_28 => ?_) (fun c_28 => ?_)
        · replace c_28 := (gm_e_none (a := gm_who (gm_grd (M 16 0 + gm_wnd M) M k) k ((gm_grd (M 16 0 + gm_wnd M) M k) 11 0)) (by omega)).mp c_28
          refine gk_iinc (j := 4) (v := nI (k + 1)) (lv' := [(3, .int (nI (k + 1))), (4, .int (gm_e (gm_who (gm_grd (M 16 0 + gm_wnd M) M k) k ((gm_grd (M 16 0 + gm_wnd M) M k) 11 0)))), (0, .ref h), (1, .int (nI (gm_wnd M))), (2, .int (nI ((gm_grd (M 16 0 + gm_wnd M) M k) 16 0 - M 16 0)))]) G dX0_grind_96 rfl (nI_add k 1) (by decide) rfl ?_
          refine gk_goto (tgt := 9) G dX0_grind_99 (by decide) ?_
          have ge : gm_grd (M 16 0 + gm_wnd M) M (k + 1) = (gm_grd (M 16 0 + gm_wnd M) M k) := gm_gs_0 c_28
          have t9 := ih (k + 1) F1 B1 (by omega) (by omega) (by rw [ge]; exact hr1) hfr1
          rw [ge] at t9
          exact gk_lsub [2,3,4,0] rfl t9
        · replace c_28 := (not_congr (gm_e_none (a := gm_who (gm_grd (M 16 0 + gm_wnd M) M k) k ((gm_grd (M 16 0 + gm_wnd M) M k) 11 0)) (by omega))).mp c_28
          have hlk := (wf1.2.2.2.2.2.2.1 (gm_who (gm_grd (M 16 0 + gm_wnd M) M k) k ((gm_grd (M 16 0 + gm_wnd M) M k) 11 0) - 1) (by omega)).2.1
          have hal : gm_amt (M 16 0 + gm_wnd M) (gm_grd (M 16 0 + gm_wnd M) M k) k (gm_who (gm_grd (M 16 0 + gm_wnd M) M k) k ((gm_grd (M 16 0 + gm_wnd M) M k) 11 0) - 1) ≤ (gm_grd (M 16 0 + gm_wnd M) M k) 5 (gm_who (gm_grd (M 16 0 + gm_wnd M) M k) k ((gm_grd (M 16 0 + gm_wnd M) M k) 11 0) - 1) := by unfold gm_amt; omega
          have J57 : gk_C p l e ({ frames := 2, cells := 0, slots := 0, locals := 42 } : Room) s m ([.ref h] : List Value).toArray below meth c 7 D A Q 0 0 (gs_W cI cZ h q F1 B1) [(4, .int (gm_e (gm_who (gm_grd (M 16 0 + gm_wnd M) M k) k ((gm_grd (M 16 0 + gm_wnd M) M k) 11 0)))), (3, .int (nI k)), (2, .int (nI ((gm_grd (M 16 0 + gm_wnd M) M k) 16 0 - M 16 0))), (1, .int (nI (gm_wnd M))), (0, .ref h)] 57 [.int (nI ((gm_grd (M 16 0 + gm_wnd M) M k) 1 k - (gm_grd (M 16 0 + gm_wnd M) M k) 3 k))] := by
            refine gk_istore (lv' := [(5, .int (nI ((gm_grd (M 16 0 + gm_wnd M) M k) 1 k - (gm_grd (M 16 0 + gm_wnd M) M k) 3 k))), (4, .int (gm_e (gm_who (gm_grd (M 16 0 + gm_wnd M) M k) k ((gm_grd (M 16 0 + gm_wnd M) M k) 11 0)))), (3, .int (nI k)), (2, .int (nI ((gm_grd (M 16 0 + gm_wnd M) M k) 16 0 - M 16 0))), (1, .int (nI (gm_wnd M))), (0, .ref h)]) G dX0_grind_57 (by decide) rfl ?_
            refine gk_iload G dX0_grind_59 0 rfl ?_
            refine gk_aload_n G dX0_grind_61 5 rfl ?_
            refine gk_get (v' := .ref (q 5)) G hinX0 (q0 := 0) rfl rfl 5 (by decide) k28 rfl rfl dX0_grind_62 ?_
            refine gk_iload G dX0_grind_65 1 rfl ?_
            refine gk_iald (v := nI ((gm_grd (M 16 0 + gm_wnd M) M k) 5 (gm_who (gm_grd (M 16 0 + gm_wnd M) M k) k ((gm_grd (M 16 0 + gm_wnd M) M k) 11 0) - 1))) G (q0 := 6) (t0 := 0) rfl rfl (gm_who (gm_grd (M 16 0 + gm_wnd M) M k) k ((gm_grd (M 16 0 + gm_wnd M) M k) 11 0) - 1) (gm_e_pred c_28) (by omega) (by decide) (hr1.2.2.2.2.2.1 (gm_who (gm_grd (M 16 0 + gm_wnd M) M k) k ((gm_grd (M 16 0 + gm_wnd M) M k) 11 0) - 1) (by omega)) dX0_grind_67 ?_
            refine gk_iload_n G dX0_grind_68 4 rfl ?_
            refine gk_iload_n G dX0_grind_69 3 rfl ?_
            refine gk_isub (v := nI (gm_wnd M - ((gm_grd (M 16 0 + gm_wnd M) M k) 16 0 - M 16 0))) G dX0_grind_70 (pk_sub (by omega)) ?_
            refine gk_mmin (v := nI (min ((gm_grd (M 16 0 + gm_wnd M) M k) 5 (gm_who (gm_grd (M 16 0 + gm_wnd M) M k) k ((gm_grd (M 16 0 + gm_wnd M) M k) 11 0) - 1)) (gm_wnd M - ((gm_grd (M 16 0 + gm_wnd M) M k) 16 0 - M 16 0)))) G (G.2.2.2.2.1 (.methodLink RX0 95 Lib.Math.min.name) (List.mem_cons_of_mem _ (List.mem_append_left _ (List.mem_of_getElem? (i := 5) rfl)))) (G.2.2.2.2.1 (.static Lib.Math.min.name) (List.mem_cons_of_mem _ (List.mem_append_left _ (List.mem_of_getElem? (i := 6) rfl)))) (G.2.2.2.2.1 (.initialized "java/lang/Math") (List.mem_cons_of_mem _ (List.mem_append_left _ (List.mem_of_getElem? (i := 7) rfl)))) (G.2.2.2.2.1 (.code Lib.Math.min.name Lib.Math.min.code 2 (some .int)) (List.mem_cons_of_mem _ (List.mem_append_left _ (List.mem_of_getElem? (i := 8) rfl)))) (Nat.le_of_ble_eq_true rfl) (Nat.le_of_ble_eq_true rfl) (Nat.le_of_ble_eq_true rfl) (Nat.le_of_ble_eq_true rfl) (gm_min (by omega) (by omega)) dX0_grind_71 ?_
            refine gk_mmin (v := nI (gm_amt (M 16 0 + gm_wnd M) (gm_grd (M 16 0 + gm_wnd M) M k) k (gm_who (gm_grd (M 16 0 + gm_wnd M) M k) k ((gm_grd (M 16 0 + gm_wnd M) M k) 11 0) - 1))) G (G.2.2.2.2.1 (.methodLink RX0 95 Lib.Math.min.name) (List.mem_cons_of_mem _ (List.mem_append_left _ (List.mem_of_getElem? (i := 5) rfl)))) (G.2.2.2.2.1 (.static Lib.Math.min.name) (List.mem_cons_of_mem _ (List.mem_append_left _ (List.mem_of_getElem? (i := 6) rfl)))) (G.2.2.2.2.1 (.initialized "java/lang/Math") (List.mem_cons_of_mem _ (List.mem_append_left _ (List.mem_of_getElem? (i := 7) rfl)))) (G.2.2.2.2.1 (.code Lib.Math.min.name Lib.Math.min.code 2 (some .int)) (List.mem_cons_of_mem _ (List.mem_append_left _ (List.mem_of_getElem? (i := 8) rfl)))) (Nat.le_of_ble_eq_true rfl) (Nat.le_of_ble_eq_true rfl) (Nat.le_of_ble_eq_true rfl) (Nat.le_of_ble_eq_true rfl) ((gm_min (by omega) (by omega)).trans (congrArg nI (by unfold gm_amt; omega))) dX0_grind_74 ?_
            refine gk_istore (lv' := [(6, .int (nI (gm_amt (M 16 0 + gm_wnd M) (gm_grd (M 16 0 + gm_wnd M) M k) k (gm_who (gm_grd (M 16 0 + gm_wnd M) M k) k ((gm_grd (M 16 0 + gm_wnd M) M k) 11 0) - 1)))), (5, .int (nI ((gm_grd (M 16 0 + gm_wnd M) M k) 1 k - (gm_grd (M 16 0 + gm_wnd M) M k) 3 k))), (4, .int (gm_e (gm_who (gm_grd (M 16 0 + gm_wnd M) M k) k ((gm_grd (M 16 0 + gm_wnd M) M k) 11 0)))), (3, .int (nI k)), (2, .int (nI ((gm_grd (M 16 0 + gm_wnd M) M k) 16 0 - M 16 0))), (1, .int (nI (gm_wnd M))), (0, .ref h)]) G dX0_grind_77 (by decide) rfl ?_
            refine gk_aload_n G dX0_grind_79 6 rfl ?_
            refine gk_get (v' := .ref (q 5)) G hinX0 (q0 := 0) rfl rfl 5 (by decide) k28 rfl rfl dX0_grind_80 ?_
            refine gk_iload G dX0_grind_83 2 rfl ?_
            refine gk_dup2 G dX0_grind_85 rfl rfl ?_
            refine gk_iald (v := nI ((gm_grd (M 16 0 + gm_wnd M) M k) 5 (gm_who (gm_grd (M 16 0 + gm_wnd M) M k) k ((gm_grd (M 16 0 + gm_wnd M) M k) 11 0) - 1))) G (q0 := 6) (t0 := 0) rfl rfl (gm_who (gm_grd (M 16 0 + gm_wnd M) M k) k ((gm_grd (M 16 0 + gm_wnd M) M k) 11 0) - 1) (gm_e_pred c_28) (by omega) (by decide) (hr1.2.2.2.2.2.1 (gm_who (gm_grd (M 16 0 + gm_wnd M) M k) k ((gm_grd (M 16 0 + gm_wnd M) M k) 11 0) - 1) (by omega)) dX0_grind_86 ?_
            refine gk_iload G dX0_grind_87 0 rfl ?_
            refine gk_isub (v := nI ((gm_grd (M 16 0 + gm_wnd M) M k) 5 (gm_who (gm_grd (M 16 0 + gm_wnd M) M k) k ((gm_grd (M 16 0 + gm_wnd M) M k) 11 0) - 1) - gm_amt (M 16 0 + gm_wnd M) (gm_grd (M 16 0 + gm_wnd M) M k) k (gm_who (gm_grd (M 16 0 + gm_wnd M) M k) k ((gm_grd (M 16 0 + gm_wnd M) M k) 11 0) - 1))) G dX0_grind_89 (pk_sub hal) ?_
            refine gk_topi (fun v90 ev90 => ?_)
            refine gk_iast (w' := (gs_W cI cZ h q F1 (gc_up B1 5 (upd (B1 5) (gm_who (gm_grd (M 16 0 + gm_wnd M) M k) k ((gm_grd (M 16 0 + gm_wnd M) M k) 11 0) - 1) v90)))) G (q0 := 6) (t0 := 0) rfl rfl (gm_who (gm_grd (M 16 0 + gm_wnd M) M k) k ((gm_grd (M 16 0 + gm_wnd M) M k) 11 0) - 1) (gm_e_pred c_28) (by omega) (by decide) rfl dX0_grind_90 ?_
            generalize eB90 : gc_up B1 5 (upd (B1 5) (gm_who (gm_grd (M 16 0 + gm_wnd M) M k) k ((gm_grd (M 16 0 + gm_wnd M) M k) 11 0) - 1) v90) = B90
            refine gk_iload_n G dX0_grind_91 4 rfl ?_
            refine gk_iload G dX0_grind_92 0 rfl ?_
            refine gk_iadd (v := nI ((gm_grd (M 16 0 + gm_wnd M) M k) 16 0 - M 16 0 + gm_amt (M 16 0 + gm_wnd M) (gm_grd (M 16 0 + gm_wnd M) M k) k (gm_who (gm_grd (M 16 0 + gm_wnd M) M k) k ((gm_grd (M 16 0 + gm_wnd M) M k) 11 0) - 1))) G dX0_grind_94 (nI_add _ _) ?_
            refine gk_istore_n (lv' := [(2, .int (nI ((gm_grd (M 16 0 + gm_wnd M) M k) 16 0 - M 16 0 + gm_amt (M 16 0 + gm_wnd M) (gm_grd (M 16 0 + gm_wnd M) M k) k (gm_who (gm_grd (M 16 0 + gm_wnd M) M k) k ((gm_grd (M 16 0 + gm_wnd M) M k) 11 0) - 1)))), (6, .int (nI (gm_amt (M 16 0 + gm_wnd M) (gm_grd (M 16 0 + gm_wnd M) M k) k (gm_who (gm_grd (M 16 0 + gm_wnd M) M k) k ((gm_grd (M 16 0 + gm_wnd M) M k) 11 0) - 1)))), (5, .int (nI ((gm_grd (M 16 0 + gm_wnd M) M k) 1 k - (gm_grd (M 16 0 + gm_wnd M) M k) 3 k))), (4, .int (gm_e (gm_who (gm_grd (M 16 0 + gm_wnd M) M k) k ((gm_grd (M 16 0 + gm_wnd M) M k) 11 0)))), (3, .int (nI k)), (1, .int (nI (gm_wnd M))), (0, .ref h)]) G dX0_grind_95 rfl (by decide) rfl ?_
            refine gk_iinc (j := 4) (v := nI (k + 1)) (lv' := [(3, .int (nI (k + 1))), (2, .int (nI ((gm_grd (M 16 0 + gm_wnd M) M k) 16 0 - M 16 0 + gm_amt (M 16 0 + gm_wnd M) (gm_grd (M 16 0 + gm_wnd M) M k) k (gm_who (gm_grd (M 16 0 + gm_wnd M) M k) k ((gm_grd (M 16 0 + gm_wnd M) M k) 11 0) - 1)))), (6, .int (nI (gm_amt (M 16 0 + gm_wnd M) (gm_grd (M 16 0 + gm_wnd M) M k) k (gm_who (gm_grd (M 16 0 + gm_wnd M) M k) k ((gm_grd (M 16 0 + gm_wnd M) M k) 11 0) - 1)))), (5, .int (nI ((gm_grd (M 16 0 + gm_wnd M) M k) 1 k - (gm_grd (M 16 0 + gm_wnd M) M k) 3 k))), (4, .int (gm_e (gm_who (gm_grd (M 16 0 + gm_wnd M) M k) k ((gm_grd (M 16 0 + gm_wnd M) M k) 11 0)))), (1, .int (nI (gm_wnd M))), (0, .ref h)]) G dX0_grind_96 rfl (nI_add k 1) (by decide) rfl ?_
            refine gk_goto (tgt := 9) G dX0_grind_99 (by decide) ?_
            have ge : gm_grd (M 16 0 + gm_wnd M) M (k + 1) = gm_les (gm_grd (M 16 0 + gm_wnd M) M k) (gm_who (gm_grd (M 16 0 + gm_wnd M) M k) k ((gm_grd (M 16 0 + gm_wnd M) M k) 11 0) - 1) (gm_amt (M 16 0 + gm_wnd M) (gm_grd (M 16 0 + gm_wnd M) M k) k (gm_who (gm_grd (M 16 0 + gm_wnd M) M k) k ((gm_grd (M 16 0 + gm_wnd M) M k) 11 0) - 1)) := gm_gs_1 c_28
            have r9 : gc_rep F1 B90 (gm_grd (M 16 0 + gm_wnd M) M (k + 1)) := by rw [ge]; subst eB90; subst ev90; exact gc_rep_les hr1 (by omega)
            have f9 : ∀ i, i < M 10 0 → B90 3 i = nI (M 3 i) := fun i hi => by subst eB90; rw [gc_up_ne _ _ (by decide)]; exact hfr1 i hi
            have v9 : (gm_grd (M 16 0 + gm_wnd M) M k) 16 0 - M 16 0 + gm_amt (M 16 0 + gm_wnd M) (gm_grd (M 16 0 + gm_wnd M) M k) k (gm_who (gm_grd (M 16 0 + gm_wnd M) M k) k ((gm_grd (M 16 0 + gm_wnd M) M k) 11 0) - 1) = gm_grd (M 16 0 + gm_wnd M) M (k + 1) 16 0 - M 16 0 := by rw [ge, gm_les_16]; omega
            have t9 := ih (k + 1) F1 _ (by omega) (by omega) r9 f9
            rw [← v9] at t9
            exact gk_lsub [6,5,1,0] rfl t9
          refine gk_aload_n G dX0_grind_31 1 rfl ?_
          refine gk_get (v' := .ref (q 3)) G hinX0 (q0 := 0) rfl rfl 3 (by decide) k21 rfl rfl dX0_grind_32 ?_
          refine gk_iload_n G dX0_grind_35 4 rfl ?_
          refine gk_zald (v := nI (M 3 k)) G (q0 := 4) (t0 := 1) rfl rfl k rfl (by omega) (by decide) (hfr1 k (by omega)) dX0_grind_36 ?_
          refine gk_if_eq (tgt := 51) G dX0_grind_37 (by decide) (fun c_37 => ?_) (fun c_37 => ?_)
          · replace c_37 := (nI_eq (a := M 3 k) (b := 0) (by omega) (by omega)).mp c_37
            refine gk_aload_n G dX0_grind_51 1 rfl ?_
            refine gk_get (v' := .ref (q 1)) G hinX0 (q0 := 0) rfl rfl 1 (by decide) k15 rfl rfl dX0_grind_52 ?_
            refine gk_iload_n G dX0_grind_55 4 rfl ?_
            refine gk_iald (v := nI ((gm_grd (M 16 0 + gm_wnd M) M k) 1 k)) G (q0 := 2) (t0 := 0) rfl rfl k rfl (by omega) (by decide) (hr1.2.2.1 k (by omega)) dX0_grind_56 ?_
            have t9 := J57
            rw [show (gm_grd (M 16 0 + gm_wnd M) M k) 1 k - (gm_grd (M 16 0 + gm_wnd M) M k) 3 k = (gm_grd (M 16 0 + gm_wnd M) M k) 1 k by rw [e3]; omega] at t9
            exact gk_lsub [0,4,3,2,1] rfl t9
          · replace c_37 := (not_congr (nI_eq (a := M 3 k) (b := 0) (by omega) (by omega))).mp c_37
            refine gk_aload_n G dX0_grind_40 1 rfl ?_
            refine gk_get (v' := .ref (q 1)) G hinX0 (q0 := 0) rfl rfl 1 (by decide) k15 rfl rfl dX0_grind_41 ?_
            refine gk_iload_n G dX0_grind_44 4 rfl ?_
            refine gk_iald (v := nI ((gm_grd (M 16 0 + gm_wnd M) M k) 1 k)) G (q0 := 2) (t0 := 0) rfl rfl k rfl (by omega) (by decide) (hr1.2.2.1 k (by omega)) dX0_grind_45 ?_
            refine gk_iconst (v := nI 1) G dX0_grind_46 (by decide) ?_
            refine gk_isub (v := nI ((gm_grd (M 16 0 + gm_wnd M) M k) 1 k - 1)) G dX0_grind_47 (pk_sub (by omega)) ?_
            refine gk_goto (tgt := 57) G dX0_grind_48 (by decide) ?_
            have t9 := J57
            rw [show (gm_grd (M 16 0 + gm_wnd M) M k) 1 k - (gm_grd (M 16 0 + gm_wnd M) M k) 3 k = (gm_grd (M 16 0 + gm_wnd M) M k) 1 k - 1 by rw [e3]; omega] at t9
            exact gk_lsub [0,4,3,2,1] rfl t9
  refine gk_aload_n G dX0_grind_0 0 rfl ?_
  refine gk_callIV (wr := []) G (c0_windOfHour l D cI cZ cJ h q F B M wf hr hh) gX0_grind_X0_windOfHour rfl 0 (by decide +kernel) rfl rfl ⟨(Nat.le_of_ble_eq_true rfl), (Nat.le_of_ble_eq_true rfl)⟩ rfl (q0 := 0) rfl (T := TX0) (N := 16) rfl gk_ok0 trivial [0, 1, 2, 3, 4, 5, 6, 7, 8, 9] rfl (by decide) [] rfl (by decide) (by decide) rfl (Nat.le_of_ble_eq_true rfl) dX0_grind_1 ⟨(Nat.le_of_ble_eq_true rfl), (Nat.le_of_ble_eq_true rfl)⟩ (fun r1 u1 hp1 => ?_)
  obtain rfl : r1 = nI (gm_wnd M) := hp1
  show gk_C p l e ({ frames := 2, cells := 0, slots := 0, locals := 42 } : Room) s m ([.ref h] : List Value).toArray below meth c 7 D A Q 0 0 (gs_W cI cZ h q F B) [(0, .ref h)] 4 [.int (nI (gm_wnd M))]
  refine gk_istore_n (lv' := [(1, .int (nI (gm_wnd M))), (0, .ref h)]) G dX0_grind_4 rfl (by decide) rfl ?_
  refine gk_iconst (v := nI 0) G dX0_grind_5 (by decide) ?_
  refine gk_istore_n (lv' := [(2, .int (nI 0)), (1, .int (nI (gm_wnd M))), (0, .ref h)]) G dX0_grind_6 rfl (by decide) rfl ?_
  refine gk_iconst (v := nI 0) G dX0_grind_7 (by decide) ?_
  refine gk_istore_n (lv' := [(3, .int (nI 0)), (2, .int (nI 0)), (1, .int (nI (gm_wnd M))), (0, .ref h)]) G dX0_grind_8 rfl (by decide) rfl ?_
  have t9 := L9 (M 10 0 + 1) 0 F B (by omega) (by omega) hr hfr
  rw [show gm_grd (M 16 0 + gm_wnd M) M 0 16 0 - M 16 0 = 0 from Nat.sub_self _] at t9
  exact gk_lsub [3,2,1,0] rfl t9
end
section
set_option maxRecDepth 100000 in
set_option maxHeartbeats 1000000 in
theorem c0_finishSacks (l : Launch) (D : va_G) (cI cZ cJ : ClassId) (h : Nat) (q : Nat → Nat) (F : Nat → Int32) (B : Nat → Nat → Int32) (M : gm_M) (wf : gm_wf M) (hr : gc_rep F B M) : gk_V l yX0_finishSacks wsX0_finishSacks ({ frames := 1, cells := 0, slots := 0, locals := 22 } : Room) D (g_T cI cZ cJ) gk_E0 [.ref h] (gs_W cI cZ h q F B) 0 0 (fun (u : (Nat → Int32) × (Nat → Nat → Int32)) => gc_rep u.1 u.2 (gm_fnp M (M 11 0))) (fun u => (gs_W cI cZ h q u.1 u.2)) := by
  refine gk_V_of (cc := cX0_finishSacks) (nL := 3) (by decide +kernel) rfl (Nat.le_of_ble_eq_true rfl) ?_
  intro p e s m below meth c A Q hnm hE G RET
  obtain ⟨hz1, hz2, hz3, hz4, hz5, hz6, hz7, hz8⟩ := id wf
  have hinX0 : ∀ w ∈ wsX00, w ∈ wsX0_finishSacks := fun w h9 => (List.mem_cons_of_mem _ (List.mem_append_right _ h9))
  have k18 := G.2.2.2.2.1 (.fieldLink RX0 18 "GustMill$State" "sacksUpon" "[I") (List.mem_cons_of_mem _ (List.mem_append_left _ (List.mem_of_getElem? (i := 1) rfl)))
  have k37 := G.2.2.2.2.1 (.fieldLink RX0 37 "GustMill$State" "groundHours" "[I") (List.mem_cons_of_mem _ (List.mem_append_left _ (List.mem_of_getElem? (i := 2) rfl)))
  have k40 := G.2.2.2.2.1 (.fieldLink RX0 40 "GustMill$State" "hour" "I") (List.mem_cons_of_mem _ (List.mem_append_left _ (List.mem_of_getElem? (i := 3) rfl)))
  have k44 := G.2.2.2.2.1 (.fieldLink RX0 44 "GustMill$State" "stoneCount" "I") (List.mem_cons_of_mem _ (List.mem_append_left _ (List.mem_of_getElem? (i := 0) rfl)))
  have k50 := G.2.2.2.2.1 (.fieldLink RX0 50 "GustMill$State" "groundCount" "I") (List.mem_cons_of_mem _ (List.mem_append_left _ (List.mem_of_getElem? (i := 4) rfl)))
  have L2 : ∀ (n : Nat) (k : Nat) (F1 : Nat → Int32) (B1 : Nat → Nat → Int32), M 10 0 - k < n → (k ≤ M 10 0) → (gc_rep F1 B1 (gm_fnc M k)) → gk_C p l e ({ frames := 1, cells := 0, slots := 0, locals := 22 } : Room) s m ([.ref h] : List Value).toArray below meth c 3 D A Q 0 0 (gs_W cI cZ h q F1 B1) [(0, .ref h), (1, .int (nI k))] 2 [] := by
    intro n
    induction n with
    | zero => intro k F1 B1 h0; exact absurd h0 (Nat.not_lt_zero _)
    | succ n ih =>
      intro k F1 B1 h0 w0 w1
      have hr1 := w1
      have wf1 := gm_fnc_wf wf k
      have ap1 := gm_fnc_ap k (gm_wf_ap wf)
      have e10 : gm_fnc M k 10 0 = M 10 0 := gm_fnc_ne M k 0 (by decide) (by decide)
      have e11 : gm_fnc M k 11 0 = M 11 0 := gm_fnc_ne M k 0 (by decide) (by decide)
      have e9 : gm_fnc M k 9 0 = M 9 0 := gm_fnc_ne M k 0 (by decide) (by decide)
      have hwl := gm_who_le (gm_fnc M k) k (gm_fnc M k 11 0)
      have ew : gm_who (gm_fnc M k) k (gm_fnc M k 11 0) = gm_who M k (M 11 0) := by rw [e11, gm_fnc_who]
      refine gk_iload_n G dX0_finishSacks_2 1 rfl ?_
      refine gk_aload_n G dX0_finishSacks_3 0 rfl ?_
      refine gk_get (v' := .int (nI ((gm_fnc M k) 10 0))) G hinX0 (q0 := 0) rfl rfl 10 (by decide) k44 rfl (congrArg Value.int (hr1.1.2.1)) dX0_finishSacks_4 ?_
      refine gk_icmp_ge (tgt := 61) G dX0_finishSacks_7 (by decide) (fun c_7 => ?_) (fun c_7 => ?_)
      · replace c_7 := (nI_leI (a := (gm_fnc M k) 10 0) (b := k) (by omega) (by omega)).mp c_7
        exact RET _ _ _ _ _ (F1, B1) dX0_finishSacks_61 (gc_rep_same (by rw [show M 10 0 = k by omega]; exact hr1) (gm_fnc_all (fun i hi => (hz7 i hi).2.2.2.2.1))) rfl (Nat.le_of_ble_eq_true rfl) (Nat.le_of_ble_eq_true rfl)
      · replace c_7 := (not_congr (nI_leI (a := (gm_fnc M k) 10 0) (b := k) (by omega) (by omega))).mp c_7
        refine gk_aload_n G dX0_finishSacks_10 0 rfl ?_
        refine gk_get (v' := .ref (q 2)) G hinX0 (q0 := 0) rfl rfl 2 (by decide) k18 rfl rfl dX0_finishSacks_11 ?_
        refine gk_iload_n G dX0_finishSacks_14 1 rfl ?_
        refine gk_iald (v := gm_e (gm_who (gm_fnc M k) k ((gm_fnc M k) 11 0))) G (q0 := 3) (t0 := 0) rfl rfl k rfl (by omega) (by decide) (hr1.2.2.2.1 k (by omega)) dX0_finishSacks_15 ?_
        refine gk_istore_n (lv' := [(2, .int (gm_e (gm_who (gm_fnc M k) k ((gm_fnc M k) 11 0)))), (0, .ref h), (1, .int (nI k))]) G dX0_finishSacks_16 rfl (by decide) rfl ?_
        refine gk_iload_n G dX0_finishSacks_17 0 rfl ?_
        refine gk_iconst (v := -1) G dX0_finishSacks_18 (by decide) ?_
        refine gk_icmp_eq (tgt := 55) G dX0_finishSacks_19 (by decide) (fun c_19 => ?_) (fun c_19 => ?_)
        · replace c_19 := (gm_e_none (a := gm_who (gm_fnc M k) k ((gm_fnc M k) 11 0)) (by omega)).mp c_19
          have w00 : gm_who M k (M 11 0) = 0 := by rw [← ew]; exact c_19
          have r9 := gc_rep_same hr1 (gm_fnc_skip (fun i hi h7 => absurd h7 (gm_who_no _ w00 i hi)))
          refine gk_iinc (j := 2) (v := nI (k + 1)) (lv' := [(1, .int (nI (k + 1))), (2, .int (gm_e (gm_who (gm_fnc M k) k ((gm_fnc M k) 11 0)))), (0, .ref h)]) G dX0_finishSacks_55 rfl (nI_add k 1) (by decide) rfl ?_
          refine gk_goto (tgt := 2) G dX0_finishSacks_58 (by decide) ?_
          exact gk_lsub [2,0] rfl (ih (k + 1) _ _ (by omega) (by omega) r9)
        · replace c_19 := (not_congr (gm_e_none (a := gm_who (gm_fnc M k) k ((gm_fnc M k) 11 0)) (by omega))).mp c_19
          have w00 : gm_who M k (M 11 0) ≠ 0 := by rw [← ew]; exact c_19
          have hon := gm_who_on _ w00
          have only : ∀ i, i < M 11 0 → M 7 i = k + 1 → i = gm_who M k (M 11 0) - 1 := fun i hi h7 => hz8 i _ hi (by omega) (by omega) (by omega)
          have e5 : (gm_fnc M k) 5 (gm_who (gm_fnc M k) k ((gm_fnc M k) 11 0) - 1) = M 5 (gm_who M k (M 11 0) - 1) := by rw [ew]; exact gm_fnc_ne M k _ (by decide) (by decide)
          have hw7 := hz7 (gm_who M k (M 11 0) - 1) (by omega)
          refine gk_aload_n G dX0_finishSacks_22 1 rfl ?_
          refine gk_iload_n G dX0_finishSacks_23 0 rfl ?_
          refine gk_callIV (wr := []) G (c0_isGround l D cI cZ cJ h q F1 B1 (gm_fnc M k) (gm_who (gm_fnc M k) k ((gm_fnc M k) 11 0) - 1) wf1 hr1 (by omega)) gX0_finishSacks_X0_isGround rfl 1 (by decide +kernel) rfl rfl ⟨(Nat.le_of_ble_eq_true rfl), (Nat.le_of_ble_eq_true rfl)⟩ rfl (q0 := 0) rfl (T := TX0) (N := 16) rfl gk_ok0 trivial [0, 1, 2, 3, 4, 5, 6, 7, 8, 9] rfl (by decide) [] rfl (by decide) (by decide) (by rw [gm_e_pred c_19]; rfl) (Nat.le_of_ble_eq_true rfl) dX0_finishSacks_24 ⟨(Nat.le_of_ble_eq_true rfl), (Nat.le_of_ble_eq_true rfl)⟩ (fun r24 u24 hp24 => ?_)
          obtain rfl : r24 = gm_b ((gm_fnc M k) 5 (gm_who (gm_fnc M k) k ((gm_fnc M k) 11 0) - 1) = 0) := hp24
          show gk_C p l e ({ frames := 1, cells := 0, slots := 0, locals := 22 } : Room) s m ([.ref h] : List Value).toArray below meth c 3 D A Q 0 0 (gs_W cI cZ h q F1 B1) [(2, .int (gm_e (gm_who (gm_fnc M k) k ((gm_fnc M k) 11 0)))), (0, .ref h), (1, .int (nI k))] 27 [.int (gm_b ((gm_fnc M k) 5 (gm_who (gm_fnc M k) k ((gm_fnc M k) 11 0) - 1) = 0))]
          refine gk_if_eq (tgt := 55) G dX0_finishSacks_27 (by decide) (fun c_27 => ?_) (fun c_27 => ?_)
          · replace c_27 := gm_b_eq.mp c_27
            have r9 := gc_rep_same hr1 (gm_fnc_skip (fun i hi h7 h5 => c_27 (by rw [e5, ← only i hi h7]; exact h5)))
            refine gk_iinc (j := 2) (v := nI (k + 1)) (lv' := [(1, .int (nI (k + 1))), (2, .int (gm_e (gm_who (gm_fnc M k) k ((gm_fnc M k) 11 0)))), (0, .ref h)]) G dX0_finishSacks_55 rfl (nI_add k 1) (by decide) rfl ?_
            refine gk_goto (tgt := 2) G dX0_finishSacks_58 (by decide) ?_
            exact gk_lsub [2,0] rfl (ih (k + 1) _ _ (by omega) (by omega) r9)
          · replace c_27 := gm_b_ne.mp c_27
            have h50 : M 5 (gm_who M k (M 11 0) - 1) = 0 := by rw [← e5]; exact c_27
            have h80 : (gm_fnc M k) 8 (gm_who (gm_fnc M k) k ((gm_fnc M k) 11 0) - 1) = 0 := by
              rw [ew, gm_fnc_8, if_neg (by omega)]
              by_cases h9 : M 8 (gm_who M k (M 11 0) - 1) = 0
              · exact h9
              · have := (hw7.2.2.2.2.2.1 h9).1; omega
            refine gk_aload_n G dX0_finishSacks_30 1 rfl ?_
            refine gk_get (v' := .ref (q 8)) G hinX0 (q0 := 0) rfl rfl 8 (by decide) k37 rfl rfl dX0_finishSacks_31 ?_
            refine gk_iload_n G dX0_finishSacks_34 0 rfl ?_
            refine gk_aload_n G dX0_finishSacks_35 1 rfl ?_
            refine gk_get (v' := .int (nI ((gm_fnc M k) 9 0))) G hinX0 (q0 := 0) rfl rfl 9 (by decide) k40 rfl (congrArg Value.int (hr1.1.1)) dX0_finishSacks_36 ?_
            refine gk_topi (fun v39 ev39 => ?_)
            refine gk_iast (w' := (gs_W cI cZ h q F1 (gc_up B1 8 (upd (B1 8) (gm_who (gm_fnc M k) k ((gm_fnc M k) 11 0) - 1) v39)))) G (q0 := 9) (t0 := 0) rfl rfl (gm_who (gm_fnc M k) k ((gm_fnc M k) 11 0) - 1) (gm_e_pred c_19) (by omega) (by decide) rfl dX0_finishSacks_39 ?_
            generalize eB39 : gc_up B1 8 (upd (B1 8) (gm_who (gm_fnc M k) k ((gm_fnc M k) 11 0) - 1) v39) = B39
            refine gk_aload_n G dX0_finishSacks_40 1 rfl ?_
            refine gk_dup G dX0_finishSacks_41 rfl ?_
            refine gk_get (v' := .int (nI (gm_gct (gm_fnc M k) ((gm_fnc M k) 11 0)))) G hinX0 (q0 := 0) rfl rfl 12 (by decide) k50 rfl (congrArg Value.int (hr1.1.2.2.2.1)) dX0_finishSacks_42 ?_
            refine gk_iconst (v := nI 1) G dX0_finishSacks_45 (by decide) ?_
            refine gk_iadd (v := nI ((gm_gct (gm_fnc M k) ((gm_fnc M k) 11 0)) + 1)) G dX0_finishSacks_46 (nI_add (gm_gct (gm_fnc M k) ((gm_fnc M k) 11 0)) 1) ?_
            refine gk_topi (fun v47 ev47 => ?_)
            refine gk_put (w' := (gs_W cI cZ h q (upd F1 12 v47) B39)) G hinX0 tyX0_ok nmX0 (q0 := 0) rfl rfl 12 (by decide) k50 rfl rfl rfl (Nat.le_of_ble_eq_true rfl) rfl dX0_finishSacks_47 ?_
            generalize eF47 : upd F1 12 v47 = F47
            refine gk_aload_n G dX0_finishSacks_50 1 rfl ?_
            refine gk_iload_n G dX0_finishSacks_51 2 rfl ?_
            have hr5 : gc_rep F47 B39 (gm_set (gm_fnc M k) 8 (gm_who (gm_fnc M k) k ((gm_fnc M k) 11 0) - 1) ((gm_fnc M k) 9 0 + 1)) := by subst eF47; subst eB39; subst ev47; subst ev39; exact gc_rep_set8 hr1 (by omega) h80
            have y10 : (gm_set (gm_fnc M k) 8 (gm_who (gm_fnc M k) k ((gm_fnc M k) 11 0) - 1) ((gm_fnc M k) 9 0 + 1)) 10 0 = M 10 0 := (gm_set_k _ _ (by decide)).trans e10
            have y11 : (gm_set (gm_fnc M k) 8 (gm_who (gm_fnc M k) k ((gm_fnc M k) 11 0) - 1) ((gm_fnc M k) 9 0 + 1)) 11 0 = M 11 0 := (gm_set_k _ _ (by decide)).trans e11
            have ap5 : gm_ap (gm_set (gm_fnc M k) 8 (gm_who (gm_fnc M k) k ((gm_fnc M k) 11 0) - 1) ((gm_fnc M k) 9 0 + 1)) := fun i j hi hj => by
              rw [y11] at hi hj
              rw [gm_set_k _ _ (by decide), gm_set_k _ _ (by decide)]
              exact ap1 i j (by omega) (by omega)
            refine gk_callVV (wr := []) G (c0_clearStone l D cI cZ cJ h q F47 B39 (gm_set (gm_fnc M k) 8 (gm_who (gm_fnc M k) k ((gm_fnc M k) 11 0) - 1) ((gm_fnc M k) 9 0 + 1)) k (by omega) (by omega) ap5 hr5 (by omega)) gX0_finishSacks_X0_clearStone rfl 1 (by decide +kernel) rfl rfl ⟨(Nat.le_of_ble_eq_true rfl), (Nat.le_of_ble_eq_true rfl)⟩ rfl (q0 := 0) rfl (T := TX0) (N := 16) rfl gk_ok0 trivial [0, 1, 2, 3, 4, 5, 6, 7, 8, 9] rfl (by decide) [] rfl (by decide) (by decide) rfl (Nat.le_of_ble_eq_true rfl) dX0_finishSacks_52 ⟨(Nat.le_of_ble_eq_true rfl), (Nat.le_of_ble_eq_true rfl)⟩ (fun u52 hp52 => ?_)
            obtain ⟨F52, B52⟩ := u52
            have hr52 : gc_rep F52 B52 (gm_clr (gm_set (gm_fnc M k) 8 (gm_who (gm_fnc M k) k ((gm_fnc M k) 11 0) - 1) ((gm_fnc M k) 9 0 + 1)) k) := hp52
            show gk_C p l e ({ frames := 1, cells := 0, slots := 0, locals := 22 } : Room) s m ([.ref h] : List Value).toArray below meth c 3 D A Q 0 0 (gs_W cI cZ h q F52 B52) [(2, .int (gm_e (gm_who (gm_fnc M k) k ((gm_fnc M k) 11 0)))), (0, .ref h), (1, .int (nI k))] 55 []
            refine gk_iinc (j := 2) (v := nI (k + 1)) (lv' := [(1, .int (nI (k + 1))), (2, .int (gm_e (gm_who (gm_fnc M k) k ((gm_fnc M k) 11 0)))), (0, .ref h)]) G dX0_finishSacks_55 rfl (nI_add k 1) (by decide) rfl ?_
            refine gk_goto (tgt := 2) G dX0_finishSacks_58 (by decide) ?_
            have r9 : gc_rep F52 B52 (gm_fnc M (k + 1)) := gc_rep_same hr52 (by rw [e9, ew]; exact gm_fnc_do (by omega) hon h50 (gm_wf_ap wf))
            exact gk_lsub [2,0] rfl (ih (k + 1) _ _ (by omega) (by omega) r9)
  refine gk_iconst (v := nI 0) G dX0_finishSacks_0 (by decide) ?_
  refine gk_istore_n (lv' := [(1, .int (nI 0)), (0, .ref h)]) G dX0_finishSacks_1 rfl (by decide) rfl ?_
  exact gk_lsub [1,0] rfl (L2 (M 10 0 + 1) 0 F B (by omega) (by omega) (gc_rep_same hr (gm_fnc_0 M)))
end
section
theorem gc_run1 {F : Nat → Int32} {B : Nat → Nat → Int32} {M : gm_M} {n : Nat} (hr : gc_rep F B (gm_hrs M n)) : gc_rep (upd F 9 (nI (M 9 0 + n))) B (gm_hrs M n) := by
  have h := gc_rep_9 (v := M 9 0 + n) hr
  rw [← gm_hrs_9 M n, gm_set_self] at h
  rw [← gm_hrs_9 M n]
  exact h
theorem gc_run2 {F : Nat → Int32} {B : Nat → Nat → Int32} {M : gm_M} {k n : Nat} (wf : gm_wf M) (hr : gc_rep F B (gm_hrs M k)) (hk : k ≤ n) (hg : gm_hrs M k 11 0 ≤ gm_gct (gm_hrs M k) (gm_hrs M k 11 0)) : gc_rep (upd F 9 (nI (M 9 0 + n))) B (gm_hrs M n) ∧ gm_hrs M n 16 0 = gm_hrs M k 16 0 := by
  obtain ⟨b, rfl⟩ : ∃ b, n = k + b := ⟨n - k, by omega⟩
  have ha : gm_all (gm_hrs M k) := gm_gct_all _ hg
  have hs := (gm_hrs_all (gm_hrs_wf wf k) ha b).1
  rw [← gm_hrs_add] at hs
  refine ⟨gc_rep_same ?_ hs, ?_⟩
  · rw [gm_hrs_9, show M 9 0 + (k + b) = M 9 0 + k + b by omega]
    exact gc_rep_9 hr
  · rw [hs 16 0 (by omega), gm_set_k _ _ (by decide)]

set_option maxRecDepth 100000 in
set_option maxHeartbeats 1000000 in
theorem c0_run (l : Launch) (D : va_G) (cI cZ cJ : ClassId) (h : Nat) (q : Nat → Nat) (F : Nat → Int32) (B : Nat → Nat → Int32) (M : gm_M) (n0 : Nat) (wf : gm_wf M) (hr : gc_rep F B M) (hrest : gm_rest M) (hh : M 9 0 + n0 < 2000000) : gk_I l yX0_run wsX0_run ({ frames := 3, cells := 0, slots := 0, locals := 69 } : Room) D (g_T cI cZ cJ) gk_E0 [.ref h, .int (nI n0)] (gs_W cI cZ h q F B) 0 0 (fun (r : Int32) (u : (Nat → Int32) × (Nat → Nat → Int32)) => r = nI (gm_hrs M n0 16 0 - M 16 0) ∧ gc_rep u.1 u.2 (gm_hrs M n0)) (fun u => (gs_W cI cZ h q u.1 u.2)) := by
  refine gk_I_of (ty := .int) (cc := cX0_run) (nL := 5) (by decide +kernel) rfl (Nat.le_of_ble_eq_true rfl) ?_
  intro p e s m below meth c A Q hnm hE G RET
  obtain ⟨hz1, hz2, hz3, hz4, hz5, hz6, hz7, hz8⟩ := id wf
  have hg0 := gm_gct_le M (M 11 0)
  have hinX0 : ∀ w ∈ wsX00, w ∈ wsX0_run := fun w h9 => (List.mem_cons_of_mem _ (List.mem_append_right _ h9))
  have k40 := G.2.2.2.2.1 (.fieldLink RX0 40 "GustMill$State" "hour" "I") (List.mem_cons_of_mem _ (List.mem_append_left _ (List.mem_append_left _ (List.mem_of_getElem? (i := 0) rfl))))
  have k47 := G.2.2.2.2.1 (.fieldLink RX0 47 "GustMill$State" "sackCount" "I") (List.mem_cons_of_mem _ (List.mem_append_left _ (List.mem_append_left _ (List.mem_of_getElem? (i := 2) rfl))))
  have k50 := G.2.2.2.2.1 (.fieldLink RX0 50 "GustMill$State" "groundCount" "I") (List.mem_cons_of_mem _ (List.mem_append_left _ (List.mem_append_left _ (List.mem_of_getElem? (i := 1) rfl))))
  have k59 := G.2.2.2.2.1 (.fieldLink RX0 59 "GustMill$State" "isTakingOff" "Z") (List.mem_cons_of_mem _ (List.mem_append_left _ (List.mem_append_left _ (List.mem_of_getElem? (i := 3) rfl))))
  have L12 : ∀ (n : Nat) (k : Nat) (F1 : Nat → Int32) (B1 : Nat → Nat → Int32), n0 - k < n → (k ≤ n0) → (gc_rep F1 B1 (gm_hrs M k)) → gk_C p l e ({ frames := 3, cells := 0, slots := 0, locals := 69 } : Room) s m ([.ref h, .int (nI n0)] : List Value).toArray below meth c 5 D A Q 0 0 (gs_W cI cZ h q F1 B1) [(0, .ref h), (1, .int (nI n0)), (2, .int (nI (M 9 0 + n0))), (3, .int (nI ((gm_hrs M k) 16 0 - M 16 0))), (4, .int (nI k))] 12 [] := by
    intro n
    induction n with
    | zero => intro k F1 B1 h0; exact absurd h0 (Nat.not_lt_zero _)
    | succ n ih =>
      intro k F1 B1 h0 w0 w1
      have hr1 := w1
      have wf1 := gm_hrs_wf wf k
      have rest1 := gm_hrs_rest wf hrest k
      have x9 := gm_hrs_9 M k
      have x16 := gm_hrs_16 M k
      have x11 : gm_hrs M k 11 0 = M 11 0 := gm_hrs_ne M 0 (by decide) (by decide) (by decide) (by decide) (by decide) (by decide) (by decide) k
      have xg := gm_gct_le (gm_hrs M k) (gm_hrs M k 11 0)
      have x15 := wf1.2.2.2.1
      refine gk_iload G dX0_run_12 4 rfl ?_
      refine gk_iload_n G dX0_run_14 1 rfl ?_
      refine gk_icmp_ge (tgt := 71) G dX0_run_15 (by decide) (fun c_15 => ?_) (fun c_15 => ?_)
      · replace c_15 := (nI_leI (a := n0) (b := k) (by omega) (by omega)).mp c_15
        refine gk_aload_n G dX0_run_71 0 rfl ?_
        refine gk_iload_n G dX0_run_72 2 rfl ?_
        refine gk_topi (fun v73 ev73 => ?_)
        refine gk_put (w' := (gs_W cI cZ h q (upd F1 9 v73) B1)) G hinX0 tyX0_ok nmX0 (q0 := 0) rfl rfl 9 (by decide) k40 rfl rfl rfl (Nat.le_of_ble_eq_true rfl) rfl dX0_run_73 ?_
        generalize eF73 : upd F1 9 v73 = F73
        refine gk_iload_n G dX0_run_76 3 rfl ?_
        exact RET _ _ _ _ _ _ (F73, B1) dX0_run_77 rfl (by subst eF73; subst ev73; obtain rfl : k = n0 := (by omega); exact ⟨rfl, gc_run1 hr1⟩) rfl (Nat.le_of_ble_eq_true rfl) (Nat.le_of_ble_eq_true rfl)
      · replace c_15 := (not_congr (nI_leI (a := n0) (b := k) (by omega) (by omega))).mp c_15
        refine gk_aload_n G dX0_run_18 0 rfl ?_
        refine gk_get (v' := .int (nI (gm_gct (gm_hrs M k) ((gm_hrs M k) 11 0)))) G hinX0 (q0 := 0) rfl rfl 12 (by decide) k50 rfl (congrArg Value.int (hr1.1.2.2.2.1)) dX0_run_19 ?_
        refine gk_aload_n G dX0_run_22 0 rfl ?_
        refine gk_get (v' := .int (nI ((gm_hrs M k) 11 0))) G hinX0 (q0 := 0) rfl rfl 11 (by decide) k47 rfl (congrArg Value.int (hr1.1.2.2.1)) dX0_run_23 ?_
        refine gk_icmp_ge (tgt := 71) G dX0_run_26 (by decide) (fun c_26 => ?_) (fun c_26 => ?_)
        · replace c_26 := (nI_leI (a := (gm_hrs M k) 11 0) (b := gm_gct (gm_hrs M k) ((gm_hrs M k) 11 0)) (by omega) (by omega)).mp c_26
          refine gk_aload_n G dX0_run_71 0 rfl ?_
          refine gk_iload_n G dX0_run_72 2 rfl ?_
          refine gk_topi (fun v73 ev73 => ?_)
          refine gk_put (w' := (gs_W cI cZ h q (upd F1 9 v73) B1)) G hinX0 tyX0_ok nmX0 (q0 := 0) rfl rfl 9 (by decide) k40 rfl rfl rfl (Nat.le_of_ble_eq_true rfl) rfl dX0_run_73 ?_
          generalize eF73 : upd F1 9 v73 = F73
          refine gk_iload_n G dX0_run_76 3 rfl ?_
          exact RET _ _ _ _ _ _ (F73, B1) dX0_run_77 rfl (by subst eF73; subst ev73; have t9 := gc_run2 wf hr1 w0 c_26; exact ⟨by rw [t9.2], t9.1⟩) rfl (Nat.le_of_ble_eq_true rfl) (Nat.le_of_ble_eq_true rfl)
        · replace c_26 := (not_congr (nI_leI (a := (gm_hrs M k) 11 0) (b := gm_gct (gm_hrs M k) ((gm_hrs M k) 11 0)) (by omega) (by omega))).mp c_26
          have J40 : ∀ (F2 : Nat → Int32) (B2 : Nat → Nat → Int32), gc_rep F2 B2 (gm_tk (gm_hrs M k)) → gk_C p l e ({ frames := 3, cells := 0, slots := 0, locals := 69 } : Room) s m ([.ref h, .int (nI n0)] : List Value).toArray below meth c 5 D A Q 0 0 (gs_W cI cZ h q F2 B2) [(0, .ref h), (1, .int (nI n0)), (2, .int (nI (M 9 0 + n0))), (3, .int (nI ((gm_hrs M k) 16 0 - M 16 0))), (4, .int (nI k))] 40 [] := by
            intro F2 B2 hr2
            have wf2 := gm_tk_wf wf1
            have rest2 := gm_tk_rest rest1
            refine gk_aload_n G dX0_run_40 0 rfl ?_
            refine gk_callVV (wr := []) G (c0_fillStones l D cI cZ cJ h q F2 B2 (gm_tk (gm_hrs M k)) wf2 hr2 rest2) gX0_run_X0_fillStones rfl 0 (by decide +kernel) rfl rfl ⟨(Nat.le_of_ble_eq_true rfl), (Nat.le_of_ble_eq_true rfl)⟩ rfl (q0 := 0) rfl (T := TX0) (N := 16) rfl gk_ok0 trivial [0, 1, 2, 3, 4, 5, 6, 7, 8, 9] rfl (by decide) [] rfl (by decide) (by decide) rfl (Nat.le_of_ble_eq_true rfl) dX0_run_41 ⟨(Nat.le_of_ble_eq_true rfl), (Nat.le_of_ble_eq_true rfl)⟩ (fun u41 hp41 => ?_)
            obtain ⟨F41, B41⟩ := u41
            have hr41 : gc_rep F41 B41 (gm_h1 (gm_hrs M k)) := (by have t9 := hp41.1; rw [gm_h1_eq] at t9; exact t9)
            have wf41 := gm_h1_wf wf1
            have y10 : gm_h1 (gm_hrs M k) 10 0 = (gm_hrs M k) 10 0 := gm_h1_ne _ 0 (by decide) (by decide) (by decide)
            have y9 : gm_h1 (gm_hrs M k) 9 0 = (gm_hrs M k) 9 0 := gm_h1_ne _ 0 (by decide) (by decide) (by decide)
            have y16 : gm_h1 (gm_hrs M k) 16 0 = (gm_hrs M k) 16 0 := gm_h1_ne _ 0 (by decide) (by decide) (by decide)
            have hf41 : ∀ i, i < gm_h1 (gm_hrs M k) 10 0 → B41 3 i = nI (gm_h1 (gm_hrs M k) 3 i) := fun i hi => by have t9 := hp41.2 i (by rw [gm_tk_ne _ 0 (by decide)]; omega); rw [gm_h1_eq] at t9; exact t9
            have hg41 : ∀ i, i < gm_h1 (gm_hrs M k) 10 0 → gm_h1 (gm_hrs M k) 3 i ≤ 1 := fun i hi => gm_fil_3 _ _ i (by rw [← y10]; exact hi)
            show gk_C p l e ({ frames := 3, cells := 0, slots := 0, locals := 69 } : Room) s m ([.ref h, .int (nI n0)] : List Value).toArray below meth c 5 D A Q 0 0 (gs_W cI cZ h q F41 B41) [(0, .ref h), (1, .int (nI n0)), (2, .int (nI (M 9 0 + n0))), (3, .int (nI ((gm_hrs M k) 16 0 - M 16 0))), (4, .int (nI k))] 44 []
            refine gk_iload_n G dX0_run_44 3 rfl ?_
            refine gk_aload_n G dX0_run_45 0 rfl ?_
            refine gk_callIV (wr := []) G (c0_grind l D cI cZ cJ h q F41 B41 (gm_h1 (gm_hrs M k)) wf41 hr41 (by omega) hf41 hg41) gX0_run_X0_grind rfl 0 (by decide +kernel) rfl rfl ⟨(Nat.le_of_ble_eq_true rfl), (Nat.le_of_ble_eq_true rfl)⟩ rfl (q0 := 0) rfl (T := TX0) (N := 16) rfl gk_ok0 trivial [0, 1, 2, 3, 4, 5, 6, 7, 8, 9] rfl (by decide) [] rfl (by decide) (by decide) rfl (Nat.le_of_ble_eq_true rfl) dX0_run_46 ⟨(Nat.le_of_ble_eq_true rfl), (Nat.le_of_ble_eq_true rfl)⟩ (fun r46 u46 hp46 => ?_)
            obtain ⟨F46, B46⟩ := u46
            have hr46 : gc_rep F46 B46 (gm_h2 (gm_hrs M k)) := (by have t9 := hp46.2; rw [gm_h2_eq] at t9; exact t9)
            obtain rfl : r46 = nI (gm_h2 (gm_hrs M k) 16 0 - (gm_hrs M k) 16 0) := (by have t9 := hp46.1; rw [gm_h2_eq, y16] at t9; exact t9)
            have z9 : gm_h2 (gm_hrs M k) 9 0 = (gm_hrs M k) 9 0 := gm_h2_ne _ 0 (by decide) (by decide) (by decide) (by decide) (by decide)
            have z16 := gm_h2_16 (gm_hrs M k)
            show gk_C p l e ({ frames := 3, cells := 0, slots := 0, locals := 69 } : Room) s m ([.ref h, .int (nI n0)] : List Value).toArray below meth c 5 D A Q 0 0 (gs_W cI cZ h q F46 B46) [(0, .ref h), (1, .int (nI n0)), (2, .int (nI (M 9 0 + n0))), (3, .int (nI ((gm_hrs M k) 16 0 - M 16 0))), (4, .int (nI k))] 49 [.int (nI (gm_h2 (gm_hrs M k) 16 0 - (gm_hrs M k) 16 0)), .int (nI ((gm_hrs M k) 16 0 - M 16 0))]
            refine gk_iadd (v := nI (((gm_hrs M k) 16 0 - M 16 0) + (gm_h2 (gm_hrs M k) 16 0 - (gm_hrs M k) 16 0))) G dX0_run_49 (nI_add _ _) ?_
            refine gk_istore_n (lv' := [(3, .int (nI (((gm_hrs M k) 16 0 - M 16 0) + (gm_h2 (gm_hrs M k) 16 0 - (gm_hrs M k) 16 0)))), (0, .ref h), (1, .int (nI n0)), (2, .int (nI (M 9 0 + n0))), (4, .int (nI k))]) G dX0_run_50 rfl (by decide) rfl ?_
            refine gk_aload_n G dX0_run_51 1 rfl ?_
            refine gk_dup G dX0_run_52 rfl ?_
            refine gk_get (v' := .int (nI ((gm_h2 (gm_hrs M k)) 9 0))) G hinX0 (q0 := 0) rfl rfl 9 (by decide) k40 rfl (congrArg Value.int (hr46.1.1)) dX0_run_53 ?_
            refine gk_iconst (v := nI 1) G dX0_run_56 (by decide) ?_
            refine gk_iadd (v := nI (((gm_h2 (gm_hrs M k)) 9 0) + 1)) G dX0_run_57 (nI_add ((gm_h2 (gm_hrs M k)) 9 0) 1) ?_
            refine gk_topi (fun v58 ev58 => ?_)
            refine gk_put (w' := (gs_W cI cZ h q (upd F46 9 v58) B46)) G hinX0 tyX0_ok nmX0 (q0 := 0) rfl rfl 9 (by decide) k40 rfl rfl rfl (Nat.le_of_ble_eq_true rfl) rfl dX0_run_58 ?_
            generalize eF58 : upd F46 9 v58 = F58
            refine gk_aload_n G dX0_run_61 1 rfl ?_
            have hr58 : gc_rep F58 B46 (gm_inc (gm_h2 (gm_hrs M k))) := by subst eF58; subst ev58; exact gc_rep_inc hr46
            have wf58 := gm_inc_wf (gm_h2_wf wf1)
            refine gk_callVV (wr := []) G (c0_finishSacks l D cI cZ cJ h q F58 B46 (gm_inc (gm_h2 (gm_hrs M k))) wf58 hr58) gX0_run_X0_finishSacks rfl 0 (by decide +kernel) rfl rfl ⟨(Nat.le_of_ble_eq_true rfl), (Nat.le_of_ble_eq_true rfl)⟩ rfl (q0 := 0) rfl (T := TX0) (N := 16) rfl gk_ok0 trivial [0, 1, 2, 3, 4, 5, 6, 7, 8, 9] rfl (by decide) [] rfl (by decide) (by decide) rfl (Nat.le_of_ble_eq_true rfl) dX0_run_62 ⟨(Nat.le_of_ble_eq_true rfl), (Nat.le_of_ble_eq_true rfl)⟩ (fun u62 hp62 => ?_)
            obtain ⟨F62, B62⟩ := u62
            have hr62 : gc_rep F62 B62 (gm_hour (gm_hrs M k)) := (by have t9 := hp62; rw [gm_hour_eq] at t9; exact t9)
            show gk_C p l e ({ frames := 3, cells := 0, slots := 0, locals := 69 } : Room) s m ([.ref h, .int (nI n0)] : List Value).toArray below meth c 5 D A Q 0 0 (gs_W cI cZ h q F62 B62) [(3, .int (nI (((gm_hrs M k) 16 0 - M 16 0) + (gm_h2 (gm_hrs M k) 16 0 - (gm_hrs M k) 16 0)))), (0, .ref h), (1, .int (nI n0)), (2, .int (nI (M 9 0 + n0))), (4, .int (nI k))] 65 []
            refine gk_iinc (j := 4) (v := nI (k + 1)) (lv' := [(4, .int (nI (k + 1))), (3, .int (nI (((gm_hrs M k) 16 0 - M 16 0) + (gm_h2 (gm_hrs M k) 16 0 - (gm_hrs M k) 16 0)))), (0, .ref h), (1, .int (nI n0)), (2, .int (nI (M 9 0 + n0)))]) G dX0_run_65 rfl (nI_add k 1) (by decide) rfl ?_
            refine gk_goto (tgt := 12) G dX0_run_68 (by decide) ?_
            have t9 := ih (k + 1) _ _ (by omega) (by omega) hr62
            rw [show gm_hrs M (k + 1) 16 0 - M 16 0 = ((gm_hrs M k) 16 0 - M 16 0) + (gm_h2 (gm_hrs M k) 16 0 - (gm_hrs M k) 16 0) by rw [show gm_hrs M (k + 1) = gm_hour (gm_hrs M k) from rfl, gm_hour_16]; omega] at t9
            exact gk_lsub [2,3,4,1,0] rfl t9
          refine gk_aload_n G dX0_run_29 0 rfl ?_
          refine gk_get (v' := .int (nI ((gm_hrs M k) 15 0))) G hinX0 (q0 := 0) rfl rfl 15 (by decide) k59 rfl (congrArg Value.int (hr1.1.2.2.2.2.2.2)) dX0_run_30 ?_
          refine gk_if_eq (tgt := 40) G dX0_run_33 (by decide) (fun c_33 => ?_) (fun c_33 => ?_)
          · replace c_33 := (nI_eq (a := (gm_hrs M k) 15 0) (b := 0) (by omega) (by omega)).mp c_33
            exact J40 F1 B1 (by rw [show gm_tk (gm_hrs M k) = (gm_hrs M k) from if_pos c_33]; exact hr1)
          · replace c_33 := (not_congr (nI_eq (a := (gm_hrs M k) 15 0) (b := 0) (by omega) (by omega))).mp c_33
            refine gk_aload_n G dX0_run_36 0 rfl ?_
            refine gk_callVV (wr := []) G (c0_takeOffUnwanted l D cI cZ cJ h q F1 B1 (gm_hrs M k) wf1 hr1 rest1) gX0_run_X0_takeOffUnwanted rfl 0 (by decide +kernel) rfl rfl ⟨(Nat.le_of_ble_eq_true rfl), (Nat.le_of_ble_eq_true rfl)⟩ rfl (q0 := 0) rfl (T := TX0) (N := 16) rfl gk_ok0 trivial [0, 1, 2, 3, 4, 5, 6, 7, 8, 9] rfl (by decide) [] rfl (by decide) (by decide) rfl (Nat.le_of_ble_eq_true rfl) dX0_run_37 ⟨(Nat.le_of_ble_eq_true rfl), (Nat.le_of_ble_eq_true rfl)⟩ (fun u37 hp37 => ?_)
            obtain ⟨F37, B37⟩ := u37
            have hr37 : gc_rep F37 B37 (gm_tkp (gm_hrs M k) ((gm_hrs M k) 11 0)) := hp37
            show gk_C p l e ({ frames := 3, cells := 0, slots := 0, locals := 69 } : Room) s m ([.ref h, .int (nI n0)] : List Value).toArray below meth c 5 D A Q 0 0 (gs_W cI cZ h q F37 B37) [(0, .ref h), (1, .int (nI n0)), (2, .int (nI (M 9 0 + n0))), (3, .int (nI ((gm_hrs M k) 16 0 - M 16 0))), (4, .int (nI k))] 40 []
            exact J40 _ _ (by rw [show gm_tk (gm_hrs M k) = gm_tkp (gm_hrs M k) ((gm_hrs M k) 11 0) from if_neg c_33]; exact hr37)
  refine gk_aload_n G dX0_run_0 0 rfl ?_
  refine gk_get (v' := .int (nI (M 9 0))) G hinX0 (q0 := 0) rfl rfl 9 (by decide) k40 rfl (congrArg Value.int (hr.1.1)) dX0_run_1 ?_
  refine gk_iload_n G dX0_run_4 1 rfl ?_
  refine gk_iadd (v := nI (M 9 0 + n0)) G dX0_run_5 (nI_add _ _) ?_
  refine gk_istore_n (lv' := [(2, .int (nI (M 9 0 + n0))), (0, .ref h), (1, .int (nI n0))]) G dX0_run_6 rfl (by decide) rfl ?_
  refine gk_iconst (v := nI 0) G dX0_run_7 (by decide) ?_
  refine gk_istore_n (lv' := [(3, .int (nI 0)), (2, .int (nI (M 9 0 + n0))), (0, .ref h), (1, .int (nI n0))]) G dX0_run_8 rfl (by decide) rfl ?_
  refine gk_iconst (v := nI 0) G dX0_run_9 (by decide) ?_
  refine gk_istore (lv' := [(4, .int (nI 0)), (3, .int (nI 0)), (2, .int (nI (M 9 0 + n0))), (0, .ref h), (1, .int (nI n0))]) G dX0_run_10 (by decide) rfl ?_
  have t9 := L12 (n0 + 1) 0 F B (by omega) (by omega) hr
  rw [show gm_hrs M 0 16 0 - M 16 0 = 0 from Nat.sub_self _] at t9
  exact gk_lsub [3,4,2,1,0] rfl t9
end
section
set_option maxRecDepth 100000 in
set_option maxHeartbeats 1000000 in
theorem c0_placeStone (l : Launch) (D : va_G) (cI cZ cJ : ClassId) (h : Nat) (q : Nat → Nat) (F : Nat → Int32) (B : Nat → Nat → Int32) (M : gm_M) (v : Nat) (wf : gm_wf M) (hr : gc_rep F B M) (h4 : M 10 0 < 4) : gk_I l yX0_placeStone wsX0_placeStone ({ frames := 0, cells := 0, slots := 0, locals := 0 } : Room) D (g_T cI cZ cJ) gk_E0 [.ref h, .int (nI v)] (gs_W cI cZ h q F B) 0 0 (fun (r : Int32) (u : (Nat → Int32) × (Nat → Nat → Int32)) => r = nI (M 10 0) ∧ gc_rep u.1 u.2 (gm_adds M v)) (fun u => (gs_W cI cZ h q u.1 u.2)) := by
  refine gk_I_of (ty := .int) (cc := cX0_placeStone) (nL := 3) (by decide +kernel) rfl (Nat.le_of_ble_eq_true rfl) ?_
  intro p e s m below meth c A Q hnm hE G RET
  obtain ⟨hz1, hz2, hz3, hz4, hz5, hz6, hz7, hz8⟩ := id wf
  have hinX0 : ∀ w ∈ wsX00, w ∈ wsX0_placeStone := fun w h9 => (List.mem_cons_of_mem _ (List.mem_append_right _ h9))
  have k15 := G.2.2.2.2.1 (.fieldLink RX0 15 "GustMill$State" "sizes" "[I") (List.mem_cons_of_mem _ (List.mem_append_left _ (List.mem_of_getElem? (i := 1) rfl)))
  have k18 := G.2.2.2.2.1 (.fieldLink RX0 18 "GustMill$State" "sacksUpon" "[I") (List.mem_cons_of_mem _ (List.mem_append_left _ (List.mem_of_getElem? (i := 2) rfl)))
  have k44 := G.2.2.2.2.1 (.fieldLink RX0 44 "GustMill$State" "stoneCount" "I") (List.mem_cons_of_mem _ (List.mem_append_left _ (List.mem_of_getElem? (i := 0) rfl)))
  refine gk_aload_n G dX0_placeStone_0 0 rfl ?_
  refine gk_get (v' := .int (nI (M 10 0))) G hinX0 (q0 := 0) rfl rfl 10 (by decide) k44 rfl (congrArg Value.int (hr.1.2.1)) dX0_placeStone_1 ?_
  refine gk_istore_n (lv' := [(2, .int (nI (M 10 0))), (0, .ref h), (1, .int (nI v))]) G dX0_placeStone_4 rfl (by decide) rfl ?_
  refine gk_aload_n G dX0_placeStone_5 1 rfl ?_
  refine gk_get (v' := .ref (q 1)) G hinX0 (q0 := 0) rfl rfl 1 (by decide) k15 rfl rfl dX0_placeStone_6 ?_
  refine gk_iload_n G dX0_placeStone_9 0 rfl ?_
  refine gk_iload_n G dX0_placeStone_10 2 rfl ?_
  refine gk_topi (fun v11 ev11 => ?_)
  refine gk_iast (w' := (gs_W cI cZ h q F (gc_up B 1 (upd (B 1) (M 10 0) v11)))) G (q0 := 2) (t0 := 0) rfl rfl (M 10 0) rfl (by omega) (by decide) rfl dX0_placeStone_11 ?_
  generalize eB11 : gc_up B 1 (upd (B 1) (M 10 0) v11) = B11
  refine gk_aload_n G dX0_placeStone_12 1 rfl ?_
  refine gk_get (v' := .ref (q 2)) G hinX0 (q0 := 0) rfl rfl 2 (by decide) k18 rfl rfl dX0_placeStone_13 ?_
  refine gk_iload_n G dX0_placeStone_16 0 rfl ?_
  refine gk_iconst (v := -1) G dX0_placeStone_17 (by decide) ?_
  refine gk_topi (fun v18 ev18 => ?_)
  refine gk_iast (w' := (gs_W cI cZ h q F (gc_up B11 2 (upd (B11 2) (M 10 0) v18)))) G (q0 := 3) (t0 := 0) rfl rfl (M 10 0) rfl (by omega) (by decide) rfl dX0_placeStone_18 ?_
  generalize eB18 : gc_up B11 2 (upd (B11 2) (M 10 0) v18) = B18
  refine gk_aload_n G dX0_placeStone_19 1 rfl ?_
  refine gk_iload_n G dX0_placeStone_20 0 rfl ?_
  refine gk_iconst (v := nI 1) G dX0_placeStone_21 (by decide) ?_
  refine gk_iadd (v := nI ((M 10 0) + 1)) G dX0_placeStone_22 (nI_add (M 10 0) 1) ?_
  refine gk_topi (fun v23 ev23 => ?_)
  refine gk_put (w' := (gs_W cI cZ h q (upd F 10 v23) B18)) G hinX0 tyX0_ok nmX0 (q0 := 0) rfl rfl 10 (by decide) k44 rfl rfl rfl (Nat.le_of_ble_eq_true rfl) rfl dX0_placeStone_23 ?_
  generalize eF23 : upd F 10 v23 = F23
  refine gk_iload_n G dX0_placeStone_26 0 rfl ?_
  exact RET _ _ _ _ _ _ (F23, B18) dX0_placeStone_27 rfl (by subst eF23; subst ev23; subst eB18; subst ev18; subst eB11; subst ev11; rw [gc_up_ne _ _ (show (2 : Nat) ≠ 1 by decide)]; exact ⟨rfl, gc_rep_adds wf hr⟩) rfl (Nat.le_of_ble_eq_true rfl) (Nat.le_of_ble_eq_true rfl)
set_option maxRecDepth 100000 in
set_option maxHeartbeats 1000000 in
theorem c0_storeSack (l : Launch) (D : va_G) (cI cZ cJ : ClassId) (h : Nat) (q : Nat → Nat) (F : Nat → Int32) (B : Nat → Nat → Int32) (M : gm_M) (b g t : Nat) (wf : gm_wf M) (hr : gc_rep F B M) (h16 : M 11 0 < 16) : gk_I l yX0_storeSack wsX0_storeSack ({ frames := 0, cells := 0, slots := 0, locals := 0 } : Room) D (g_T cI cZ cJ) gk_E0 [.ref h, .int (nI b), .int (nI g), .int (nI t)] (gs_W cI cZ h q F B) 0 0 (fun (r : Int32) (u : (Nat → Int32) × (Nat → Nat → Int32)) => r = nI (M 11 0) ∧ gc_rep u.1 u.2 (gm_add M b g t)) (fun u => (gs_W cI cZ h q u.1 u.2)) := by
  refine gk_I_of (ty := .int) (cc := cX0_storeSack) (nL := 5) (by decide +kernel) rfl (Nat.le_of_ble_eq_true rfl) ?_
  intro p e s m below meth c A Q hnm hE G RET
  obtain ⟨hz1, hz2, hz3, hz4, hz5, hz6, hz7, hz8⟩ := id wf
  have hinX0 : ∀ w ∈ wsX00, w ∈ wsX0_storeSack := fun w h9 => (List.mem_cons_of_mem _ (List.mem_append_right _ h9))
  have k25 := G.2.2.2.2.1 (.fieldLink RX0 25 "GustMill$State" "bakers" "[I") (List.mem_cons_of_mem _ (List.mem_append_left _ (List.mem_of_getElem? (i := 1) rfl)))
  have k28 := G.2.2.2.2.1 (.fieldLink RX0 28 "GustMill$State" "lefts" "[I") (List.mem_cons_of_mem _ (List.mem_append_left _ (List.mem_of_getElem? (i := 2) rfl)))
  have k31 := G.2.2.2.2.1 (.fieldLink RX0 31 "GustMill$State" "untils" "[I") (List.mem_cons_of_mem _ (List.mem_append_left _ (List.mem_of_getElem? (i := 3) rfl)))
  have k34 := G.2.2.2.2.1 (.fieldLink RX0 34 "GustMill$State" "stonesUnder" "[I") (List.mem_cons_of_mem _ (List.mem_append_left _ (List.mem_of_getElem? (i := 4) rfl)))
  have k37 := G.2.2.2.2.1 (.fieldLink RX0 37 "GustMill$State" "groundHours" "[I") (List.mem_cons_of_mem _ (List.mem_append_left _ (List.mem_of_getElem? (i := 5) rfl)))
  have k47 := G.2.2.2.2.1 (.fieldLink RX0 47 "GustMill$State" "sackCount" "I") (List.mem_cons_of_mem _ (List.mem_append_left _ (List.mem_of_getElem? (i := 0) rfl)))
  refine gk_aload_n G dX0_storeSack_0 0 rfl ?_
  refine gk_get (v' := .int (nI (M 11 0))) G hinX0 (q0 := 0) rfl rfl 11 (by decide) k47 rfl (congrArg Value.int (hr.1.2.2.1)) dX0_storeSack_1 ?_
  refine gk_istore (lv' := [(4, .int (nI (M 11 0))), (0, .ref h), (1, .int (nI b)), (2, .int (nI g)), (3, .int (nI t))]) G dX0_storeSack_4 (by decide) rfl ?_
  refine gk_aload_n G dX0_storeSack_6 1 rfl ?_
  refine gk_get (v' := .ref (q 4)) G hinX0 (q0 := 0) rfl rfl 4 (by decide) k25 rfl rfl dX0_storeSack_7 ?_
  refine gk_iload G dX0_storeSack_10 0 rfl ?_
  refine gk_iload_n G dX0_storeSack_12 2 rfl ?_
  refine gk_topi (fun v13 ev13 => ?_)
  refine gk_iast (w' := (gs_W cI cZ h q F (gc_up B 4 (upd (B 4) (M 11 0) v13)))) G (q0 := 5) (t0 := 0) rfl rfl (M 11 0) rfl (by omega) (by decide) rfl dX0_storeSack_13 ?_
  generalize eB13 : gc_up B 4 (upd (B 4) (M 11 0) v13) = B13
  refine gk_aload_n G dX0_storeSack_14 1 rfl ?_
  refine gk_get (v' := .ref (q 5)) G hinX0 (q0 := 0) rfl rfl 5 (by decide) k28 rfl rfl dX0_storeSack_15 ?_
  refine gk_iload G dX0_storeSack_18 0 rfl ?_
  refine gk_iload_n G dX0_storeSack_20 3 rfl ?_
  refine gk_topi (fun v21 ev21 => ?_)
  refine gk_iast (w' := (gs_W cI cZ h q F (gc_up B13 5 (upd (B13 5) (M 11 0) v21)))) G (q0 := 6) (t0 := 0) rfl rfl (M 11 0) rfl (by omega) (by decide) rfl dX0_storeSack_21 ?_
  generalize eB21 : gc_up B13 5 (upd (B13 5) (M 11 0) v21) = B21
  refine gk_aload_n G dX0_storeSack_22 1 rfl ?_
  refine gk_get (v' := .ref (q 6)) G hinX0 (q0 := 0) rfl rfl 6 (by decide) k31 rfl rfl dX0_storeSack_23 ?_
  refine gk_iload G dX0_storeSack_26 0 rfl ?_
  refine gk_iload_n G dX0_storeSack_28 4 rfl ?_
  refine gk_topi (fun v29 ev29 => ?_)
  refine gk_iast (w' := (gs_W cI cZ h q F (gc_up B21 6 (upd (B21 6) (M 11 0) v29)))) G (q0 := 7) (t0 := 0) rfl rfl (M 11 0) rfl (by omega) (by decide) rfl dX0_storeSack_29 ?_
  generalize eB29 : gc_up B21 6 (upd (B21 6) (M 11 0) v29) = B29
  refine gk_aload_n G dX0_storeSack_30 1 rfl ?_
  refine gk_get (v' := .ref (q 7)) G hinX0 (q0 := 0) rfl rfl 7 (by decide) k34 rfl rfl dX0_storeSack_31 ?_
  refine gk_iload G dX0_storeSack_34 0 rfl ?_
  refine gk_iconst (v := -1) G dX0_storeSack_36 (by decide) ?_
  refine gk_topi (fun v37 ev37 => ?_)
  refine gk_iast (w' := (gs_W cI cZ h q F (gc_up B29 7 (upd (B29 7) (M 11 0) v37)))) G (q0 := 8) (t0 := 0) rfl rfl (M 11 0) rfl (by omega) (by decide) rfl dX0_storeSack_37 ?_
  generalize eB37 : gc_up B29 7 (upd (B29 7) (M 11 0) v37) = B37
  refine gk_aload_n G dX0_storeSack_38 1 rfl ?_
  refine gk_get (v' := .ref (q 8)) G hinX0 (q0 := 0) rfl rfl 8 (by decide) k37 rfl rfl dX0_storeSack_39 ?_
  refine gk_iload G dX0_storeSack_42 0 rfl ?_
  refine gk_iconst (v := -1) G dX0_storeSack_44 (by decide) ?_
  refine gk_topi (fun v45 ev45 => ?_)
  refine gk_iast (w' := (gs_W cI cZ h q F (gc_up B37 8 (upd (B37 8) (M 11 0) v45)))) G (q0 := 9) (t0 := 0) rfl rfl (M 11 0) rfl (by omega) (by decide) rfl dX0_storeSack_45 ?_
  generalize eB45 : gc_up B37 8 (upd (B37 8) (M 11 0) v45) = B45
  refine gk_aload_n G dX0_storeSack_46 1 rfl ?_
  refine gk_iload G dX0_storeSack_47 0 rfl ?_
  refine gk_iconst (v := nI 1) G dX0_storeSack_49 (by decide) ?_
  refine gk_iadd (v := nI ((M 11 0) + 1)) G dX0_storeSack_50 (nI_add (M 11 0) 1) ?_
  refine gk_topi (fun v51 ev51 => ?_)
  refine gk_put (w' := (gs_W cI cZ h q (upd F 11 v51) B45)) G hinX0 tyX0_ok nmX0 (q0 := 0) rfl rfl 11 (by decide) k47 rfl rfl rfl (Nat.le_of_ble_eq_true rfl) rfl dX0_storeSack_51 ?_
  generalize eF51 : upd F 11 v51 = F51
  refine gk_iload G dX0_storeSack_54 0 rfl ?_
  exact RET _ _ _ _ _ _ (F51, B45) dX0_storeSack_56 rfl (by subst eF51; subst ev51; subst eB45; subst ev45; subst eB37; subst ev37; subst eB29; subst ev29; subst eB21; subst ev21; subst eB13; subst ev13; rw [gc_up_ne _ _ (show (8 : Nat) ≠ 7 by decide), gc_up_ne _ _ (show (8 : Nat) ≠ 6 by decide), gc_up_ne _ _ (show (8 : Nat) ≠ 5 by decide), gc_up_ne _ _ (show (8 : Nat) ≠ 4 by decide), gc_up_ne _ _ (show (7 : Nat) ≠ 6 by decide), gc_up_ne _ _ (show (7 : Nat) ≠ 5 by decide), gc_up_ne _ _ (show (7 : Nat) ≠ 4 by decide), gc_up_ne _ _ (show (6 : Nat) ≠ 5 by decide), gc_up_ne _ _ (show (6 : Nat) ≠ 4 by decide), gc_up_ne _ _ (show (5 : Nat) ≠ 4 by decide)]; exact ⟨rfl, gc_rep_add hr⟩) rfl (Nat.le_of_ble_eq_true rfl) (Nat.le_of_ble_eq_true rfl)
end
section
def gw_R (cI : ClassId) (a n : Nat) (f : Nat → Int32) : va_W := [(a, .inl (cI, n, .inl f))]
def gm_cp (f g : Nat → Int32) (k : Nat) : Nat → Int32 := fun i => if i < k then f i else g i
theorem gm_cp_lt {f g : Nat → Int32} {k i : Nat} (h : i < k) : gm_cp f g k i = f i := if_pos h
theorem gm_cp_0 (f g : Nat → Int32) : gm_cp f g 0 = g := by
  funext i
  exact if_neg (Nat.not_lt_zero i)
theorem gm_cp_S (f g : Nat → Int32) (k : Nat) : upd (gm_cp f g k) k (f k) = gm_cp f g (k + 1) := by
  funext i
  unfold gm_cp
  by_cases hi : i = k
  · rw [hi, pk_us, if_pos (Nat.lt_succ_self k)]
  · rw [pk_un hi]
    by_cases h2 : i < k
    · rw [if_pos h2, if_pos (Nat.lt_succ_of_lt h2)]
    · rw [if_neg h2, if_neg (by omega)]

set_option maxRecDepth 100000 in
set_option maxHeartbeats 1000000 in
theorem c0_copyRow (l : Launch) (D : va_G) (cI cZ cJ : ClassId) (a b nw : Nat) (f g : Nat → Int32) (hn31 : nw < 2 ^ 31) : gk_V l yX0_copyRow wsX0_copyRow ({ frames := 0, cells := 0, slots := 0, locals := 0 } : Room) D (g_T cI cZ cJ) gk_E0 [.ref a, .ref b] (gw_R cI a nw f ++ gw_R cI b nw g) 0 0 (fun (u : Unit) => True) (fun u => (gw_R cI a nw f ++ gw_R cI b nw (gm_cp f g nw))) := by
  refine gk_V_of (cc := cX0_copyRow) (nL := 3) (by decide +kernel) rfl (Nat.le_of_ble_eq_true rfl) ?_
  intro p e s m below meth c A Q hnm hE G RET
  have L2 : ∀ (n : Nat) (k : Nat), nw - k < n → (k ≤ nw) → gk_C p l e ({ frames := 0, cells := 0, slots := 0, locals := 0 } : Room) s m ([.ref a, .ref b] : List Value).toArray below meth c 3 D A Q 0 0 (gw_R cI a nw f ++ (gw_R cI b nw (gm_cp f g k))) [(0, .ref a), (1, .ref b), (2, .int (nI k))] 2 [] := by
    intro n
    induction n with
    | zero => intro k h0; exact absurd h0 (Nat.not_lt_zero _)
    | succ n ih =>
      intro k h0 w0
      refine gk_iload_n G dX0_copyRow_2 2 rfl ?_
      refine gk_aload_n G dX0_copyRow_3 0 rfl ?_
      refine gk_alen (v := nI nw) G (q0 := 0) (t0 := 0) rfl rfl rfl dX0_copyRow_4 ?_
      refine gk_icmp_ge (tgt := 26) G dX0_copyRow_5 (by decide) (fun c_5 => ?_) (fun c_5 => ?_)
      · replace c_5 := (nI_leI (a := nw) (b := k) (by omega) (by omega)).mp c_5
        exact RET _ _ _ _ _ () dX0_copyRow_26 trivial (by rw [show nw = k by omega]) (Nat.le_of_ble_eq_true rfl) (Nat.le_of_ble_eq_true rfl)
      · replace c_5 := (not_congr (nI_leI (a := nw) (b := k) (by omega) (by omega))).mp c_5
        refine gk_iload_n G dX0_copyRow_8 2 rfl ?_
        refine gk_aload_n G dX0_copyRow_9 1 rfl ?_
        refine gk_alen (v := nI nw) G (q0 := 1) (t0 := 0) rfl rfl rfl dX0_copyRow_10 ?_
        refine gk_icmp_ge (tgt := 26) G dX0_copyRow_11 (by decide) (fun c_11 => ?_) (fun c_11 => ?_)
        · replace c_11 := (nI_leI (a := nw) (b := k) (by omega) (by omega)).mp c_11
          exact RET _ _ _ _ _ () dX0_copyRow_26 trivial (by rw [show nw = k by omega]) (Nat.le_of_ble_eq_true rfl) (Nat.le_of_ble_eq_true rfl)
        · replace c_11 := (not_congr (nI_leI (a := nw) (b := k) (by omega) (by omega))).mp c_11
          refine gk_aload_n G dX0_copyRow_14 1 rfl ?_
          refine gk_iload_n G dX0_copyRow_15 2 rfl ?_
          refine gk_aload_n G dX0_copyRow_16 0 rfl ?_
          refine gk_iload_n G dX0_copyRow_17 2 rfl ?_
          refine gk_iald (v := f k) G (q0 := 0) (t0 := 0) rfl rfl k rfl (by omega) hn31 rfl dX0_copyRow_18 ?_
          refine gk_topi (fun v19 ev19 => ?_)
          refine gk_iast (w' := (gw_R cI a nw f ++ (gw_R cI b nw (upd (gm_cp f g k) k v19)))) G (q0 := 1) (t0 := 0) rfl rfl k rfl (by omega) hn31 rfl dX0_copyRow_19 ?_
          refine gk_iinc (j := 2) (v := nI (k + 1)) (lv' := [(2, .int (nI (k + 1))), (0, .ref a), (1, .ref b)]) G dX0_copyRow_20 rfl (nI_add k 1) (by decide) rfl ?_
          refine gk_goto (tgt := 2) G dX0_copyRow_23 (by decide) ?_
          have t9 := ih (k + 1) (by omega) (by omega)
          rw [← gm_cp_S, ← ev19] at t9
          exact gk_lsub [1,2,0] rfl t9
  refine gk_iconst (v := nI 0) G dX0_copyRow_0 (by decide) ?_
  refine gk_istore_n (lv' := [(2, .int (nI 0)), (0, .ref a), (1, .ref b)]) G dX0_copyRow_1 rfl (by decide) rfl ?_
  have t9 := L2 (nw + 1) 0 (by omega) (by omega)
  rw [gm_cp_0] at t9
  exact gk_lsub [1,2,0] rfl t9
end
section
theorem gc_rep_of {F F2 : Nat → Int32} {B B2 : Nat → Nat → Int32} {M : gm_M} (wf : gm_wf M) (h : gc_rep F2 B2 M) (hF : ∀ k, 9 ≤ k → k ≤ 15 → F k = F2 k) (h0 : ∀ i, i < 12 → B 0 i = B2 0 i) (h1 : ∀ i, i < 4 → B 1 i = B2 1 i) (h2 : ∀ i, i < 4 → B 2 i = B2 2 i) (h4 : ∀ k i, 4 ≤ k → k ≤ 8 → i < 16 → B k i = B2 k i) : gc_rep F B M := by
  obtain ⟨⟨h9, h10, h11, h12, h13, h14, h15⟩, r0, r1, r2, r4, r5, r6, r7, r8⟩ := h
  have w1 := wf.1
  have w2 := wf.2.1
  refine ⟨⟨?_, ?_, ?_, ?_, ?_, ?_, ?_⟩, ?_, ?_, ?_, ?_, ?_, ?_, ?_, ?_⟩
  · rw [hF 9 (by decide) (by decide)]; exact h9
  · rw [hF 10 (by decide) (by decide)]; exact h10
  · rw [hF 11 (by decide) (by decide)]; exact h11
  · rw [hF 12 (by decide) (by decide)]; exact h12
  · rw [hF 13 (by decide) (by decide)]; exact h13
  · rw [hF 14 (by decide) (by decide)]; exact h14
  · rw [hF 15 (by decide) (by decide)]; exact h15
  · intro i hi; rw [h0 i hi]; exact r0 i hi
  · intro i hi; rw [h1 i (by omega)]; exact r1 i hi
  · intro i hi; rw [h2 i (by omega)]; exact r2 i hi
  · intro i hi; rw [h4 4 i (by decide) (by decide) (by omega)]; exact r4 i hi
  · intro i hi; rw [h4 5 i (by decide) (by decide) (by omega)]; exact r5 i hi
  · intro i hi; rw [h4 6 i (by decide) (by decide) (by omega)]; exact r6 i hi
  · intro i hi; rw [h4 7 i (by decide) (by decide) (by omega)]; exact r7 i hi
  · intro i hi; rw [h4 8 i (by decide) (by decide) (by omega)]; exact r8 i hi

theorem gk_fz {v : Int32} (h : v = 0 ∨ v = 1) : fits .boolean (.int v) = true := by rcases h with rfl | rfl <;> rfl
theorem gm_01 {n : Nat} (h : n ≤ 1) : nI n = 0 ∨ nI n = 1 := by
  rcases (show n = 0 ∨ n = 1 by omega) with rfl | rfl
  · exact Or.inl rfl
  · exact Or.inr rfl
set_option maxRecDepth 100000 in
set_option maxHeartbeats 1000000 in
theorem c0_become (l : Launch) (D : va_G) (cI cZ cJ : ClassId) (h : Nat) (q : Nat → Nat) (F : Nat → Int32) (B : Nat → Nat → Int32) (M : gm_M) (h2 : Nat) (q2 : Nat → Nat) (F2 : Nat → Int32) (B2 : Nat → Nat → Int32) (wf : gm_wf M) (hr : gc_rep F2 B2 M) : gk_V l yX0_become wsX0_become ({ frames := 1, cells := 0, slots := 0, locals := 22 } : Room) D (g_T cI cZ cJ) gk_E0 [.ref h, .ref h2] (gs_W cI cZ h q F B ++ gs_W cI cZ h2 q2 F2 B2) 0 0 (fun (u : (Nat → Int32) × (Nat → Nat → Int32)) => gc_rep u.1 u.2 M) (fun u => (gs_W cI cZ h q u.1 u.2 ++ gs_W cI cZ h2 q2 F2 B2)) := by
  refine gk_V_of (cc := cX0_become) (nL := 2) (by decide +kernel) rfl (Nat.le_of_ble_eq_true rfl) ?_
  intro p e s m below meth c A Q hnm hE G RET
  have hinX0 : ∀ w ∈ wsX00, w ∈ wsX0_become := fun w h9 => (List.mem_cons_of_mem _ (List.mem_append_right _ h9))
  have k9 := G.2.2.2.2.1 (.fieldLink RX0 9 "GustMill$State" "winds" "[I") (List.mem_cons_of_mem _ (List.mem_append_left _ (List.mem_of_getElem? (i := 0) rfl)))
  have k15 := G.2.2.2.2.1 (.fieldLink RX0 15 "GustMill$State" "sizes" "[I") (List.mem_cons_of_mem _ (List.mem_append_left _ (List.mem_of_getElem? (i := 1) rfl)))
  have k18 := G.2.2.2.2.1 (.fieldLink RX0 18 "GustMill$State" "sacksUpon" "[I") (List.mem_cons_of_mem _ (List.mem_append_left _ (List.mem_of_getElem? (i := 2) rfl)))
  have k25 := G.2.2.2.2.1 (.fieldLink RX0 25 "GustMill$State" "bakers" "[I") (List.mem_cons_of_mem _ (List.mem_append_left _ (List.mem_of_getElem? (i := 3) rfl)))
  have k28 := G.2.2.2.2.1 (.fieldLink RX0 28 "GustMill$State" "lefts" "[I") (List.mem_cons_of_mem _ (List.mem_append_left _ (List.mem_of_getElem? (i := 4) rfl)))
  have k31 := G.2.2.2.2.1 (.fieldLink RX0 31 "GustMill$State" "untils" "[I") (List.mem_cons_of_mem _ (List.mem_append_left _ (List.mem_of_getElem? (i := 5) rfl)))
  have k34 := G.2.2.2.2.1 (.fieldLink RX0 34 "GustMill$State" "stonesUnder" "[I") (List.mem_cons_of_mem _ (List.mem_append_left _ (List.mem_of_getElem? (i := 6) rfl)))
  have k37 := G.2.2.2.2.1 (.fieldLink RX0 37 "GustMill$State" "groundHours" "[I") (List.mem_cons_of_mem _ (List.mem_append_left _ (List.mem_of_getElem? (i := 7) rfl)))
  have k40 := G.2.2.2.2.1 (.fieldLink RX0 40 "GustMill$State" "hour" "I") (List.mem_cons_of_mem _ (List.mem_append_left _ (List.mem_of_getElem? (i := 8) rfl)))
  have k44 := G.2.2.2.2.1 (.fieldLink RX0 44 "GustMill$State" "stoneCount" "I") (List.mem_cons_of_mem _ (List.mem_append_left _ (List.mem_of_getElem? (i := 9) rfl)))
  have k47 := G.2.2.2.2.1 (.fieldLink RX0 47 "GustMill$State" "sackCount" "I") (List.mem_cons_of_mem _ (List.mem_append_left _ (List.mem_of_getElem? (i := 10) rfl)))
  have k50 := G.2.2.2.2.1 (.fieldLink RX0 50 "GustMill$State" "groundCount" "I") (List.mem_cons_of_mem _ (List.mem_append_left _ (List.mem_of_getElem? (i := 11) rfl)))
  have k53 := G.2.2.2.2.1 (.fieldLink RX0 53 "GustMill$State" "changeCount" "I") (List.mem_cons_of_mem _ (List.mem_append_left _ (List.mem_of_getElem? (i := 12) rfl)))
  have k56 := G.2.2.2.2.1 (.fieldLink RX0 56 "GustMill$State" "rule" "I") (List.mem_cons_of_mem _ (List.mem_append_left _ (List.mem_of_getElem? (i := 13) rfl)))
  have k59 := G.2.2.2.2.1 (.fieldLink RX0 59 "GustMill$State" "isTakingOff" "Z") (List.mem_cons_of_mem _ (List.mem_append_left _ (List.mem_of_getElem? (i := 14) rfl)))
  refine gk_aload_n G dX0_become_0 1 rfl ?_
  refine gk_get (v' := .ref (q2 0)) G hinX0 (q0 := 10) rfl rfl 0 (by decide) k9 rfl rfl dX0_become_1 ?_
  refine gk_aload_n G dX0_become_4 0 rfl ?_
  refine gk_get (v' := .ref (q 0)) G hinX0 (q0 := 0) rfl rfl 0 (by decide) k9 rfl rfl dX0_become_5 ?_
  refine gk_callVS (isC := [11, 1]) (isR := [0, 2, 3, 4, 5, 6, 7, 8, 9, 10, 12, 13, 14, 15, 16, 17, 18, 19]) (wr := ([0, 2, 3, 4, 5, 6, 7, 8, 9, 10, 12, 13, 14, 15, 16, 17, 18, 19] : List Nat).filterMap (fun i => ((gs_W cI cZ h q F B ++ (gs_W cI cZ h2 q2 F2 B2)) : va_W)[i]?)) G (c0_copyRow l D cI cZ cJ (q2 0) (q 0) 12 (B2 0) (B 0) (by decide)) gX0_become_X0_copyRow rfl 2 (by decide +kernel) rfl rfl ⟨(Nat.le_of_ble_eq_true rfl), (Nat.le_of_ble_eq_true rfl)⟩ rfl gk_ok0 trivial rfl (by decide) rfl (by decide) (by decide) rfl (Nat.le_of_ble_eq_true rfl) dX0_become_8 ⟨(Nat.le_of_ble_eq_true rfl), (Nat.le_of_ble_eq_true rfl)⟩ (fun u8 hp8 => ?_)
  refine gk_wsub (w' := (gs_W cI cZ h q F (gc_up B 0 (gm_cp (B2 0) (B 0) 12)) ++ (gs_W cI cZ h2 q2 F2 B2))) [0, 19, 1, 2, 3, 4, 5, 6, 7, 8, 9, 18, 10, 11, 12, 13, 14, 15, 16, 17] rfl (by decide) ?_
  generalize eB8 : gc_up B 0 (gm_cp (B2 0) (B 0) 12) = B8
  show gk_C p l e ({ frames := 1, cells := 0, slots := 0, locals := 22 } : Room) s m ([.ref h, .ref h2] : List Value).toArray below meth c 2 D A Q 0 0 (gs_W cI cZ h q F B8 ++ (gs_W cI cZ h2 q2 F2 B2)) [(0, .ref h), (1, .ref h2)] 11 []
  refine gk_aload_n G dX0_become_11 1 rfl ?_
  refine gk_get (v' := .ref (q2 1)) G hinX0 (q0 := 10) rfl rfl 1 (by decide) k15 rfl rfl dX0_become_12 ?_
  refine gk_aload_n G dX0_become_15 0 rfl ?_
  refine gk_get (v' := .ref (q 1)) G hinX0 (q0 := 0) rfl rfl 1 (by decide) k15 rfl rfl dX0_become_16 ?_
  refine gk_callVS (isC := [12, 2]) (isR := [0, 1, 3, 4, 5, 6, 7, 8, 9, 10, 11, 13, 14, 15, 16, 17, 18, 19]) (wr := ([0, 1, 3, 4, 5, 6, 7, 8, 9, 10, 11, 13, 14, 15, 16, 17, 18, 19] : List Nat).filterMap (fun i => ((gs_W cI cZ h q F B8 ++ (gs_W cI cZ h2 q2 F2 B2)) : va_W)[i]?)) G (c0_copyRow l D cI cZ cJ (q2 1) (q 1) 4 (B2 1) (B8 1) (by decide)) gX0_become_X0_copyRow rfl 2 (by decide +kernel) rfl rfl ⟨(Nat.le_of_ble_eq_true rfl), (Nat.le_of_ble_eq_true rfl)⟩ rfl gk_ok0 trivial rfl (by decide) rfl (by decide) (by decide) rfl (Nat.le_of_ble_eq_true rfl) dX0_become_19 ⟨(Nat.le_of_ble_eq_true rfl), (Nat.le_of_ble_eq_true rfl)⟩ (fun u19 hp19 => ?_)
  refine gk_wsub (w' := (gs_W cI cZ h q F (gc_up B8 1 (gm_cp (B2 1) (B8 1) 4)) ++ (gs_W cI cZ h2 q2 F2 B2))) [0, 1, 19, 2, 3, 4, 5, 6, 7, 8, 9, 10, 18, 11, 12, 13, 14, 15, 16, 17] rfl (by decide) ?_
  generalize eB19 : gc_up B8 1 (gm_cp (B2 1) (B8 1) 4) = B19
  show gk_C p l e ({ frames := 1, cells := 0, slots := 0, locals := 22 } : Room) s m ([.ref h, .ref h2] : List Value).toArray below meth c 2 D A Q 0 0 (gs_W cI cZ h q F B19 ++ (gs_W cI cZ h2 q2 F2 B2)) [(0, .ref h), (1, .ref h2)] 22 []
  refine gk_aload_n G dX0_become_22 1 rfl ?_
  refine gk_get (v' := .ref (q2 2)) G hinX0 (q0 := 10) rfl rfl 2 (by decide) k18 rfl rfl dX0_become_23 ?_
  refine gk_aload_n G dX0_become_26 0 rfl ?_
  refine gk_get (v' := .ref (q 2)) G hinX0 (q0 := 0) rfl rfl 2 (by decide) k18 rfl rfl dX0_become_27 ?_
  refine gk_callVS (isC := [13, 3]) (isR := [0, 1, 2, 4, 5, 6, 7, 8, 9, 10, 11, 12, 14, 15, 16, 17, 18, 19]) (wr := ([0, 1, 2, 4, 5, 6, 7, 8, 9, 10, 11, 12, 14, 15, 16, 17, 18, 19] : List Nat).filterMap (fun i => ((gs_W cI cZ h q F B19 ++ (gs_W cI cZ h2 q2 F2 B2)) : va_W)[i]?)) G (c0_copyRow l D cI cZ cJ (q2 2) (q 2) 4 (B2 2) (B19 2) (by decide)) gX0_become_X0_copyRow rfl 2 (by decide +kernel) rfl rfl ⟨(Nat.le_of_ble_eq_true rfl), (Nat.le_of_ble_eq_true rfl)⟩ rfl gk_ok0 trivial rfl (by decide) rfl (by decide) (by decide) rfl (Nat.le_of_ble_eq_true rfl) dX0_become_30 ⟨(Nat.le_of_ble_eq_true rfl), (Nat.le_of_ble_eq_true rfl)⟩ (fun u30 hp30 => ?_)
  refine gk_wsub (w' := (gs_W cI cZ h q F (gc_up B19 2 (gm_cp (B2 2) (B19 2) 4)) ++ (gs_W cI cZ h2 q2 F2 B2))) [0, 1, 2, 19, 3, 4, 5, 6, 7, 8, 9, 10, 11, 18, 12, 13, 14, 15, 16, 17] rfl (by decide) ?_
  generalize eB30 : gc_up B19 2 (gm_cp (B2 2) (B19 2) 4) = B30
  show gk_C p l e ({ frames := 1, cells := 0, slots := 0, locals := 22 } : Room) s m ([.ref h, .ref h2] : List Value).toArray below meth c 2 D A Q 0 0 (gs_W cI cZ h q F B30 ++ (gs_W cI cZ h2 q2 F2 B2)) [(0, .ref h), (1, .ref h2)] 33 []
  refine gk_aload_n G dX0_become_33 1 rfl ?_
  refine gk_get (v' := .ref (q2 4)) G hinX0 (q0 := 10) rfl rfl 4 (by decide) k25 rfl rfl dX0_become_34 ?_
  refine gk_aload_n G dX0_become_37 0 rfl ?_
  refine gk_get (v' := .ref (q 4)) G hinX0 (q0 := 0) rfl rfl 4 (by decide) k25 rfl rfl dX0_become_38 ?_
  refine gk_callVS (isC := [15, 5]) (isR := [0, 1, 2, 3, 4, 6, 7, 8, 9, 10, 11, 12, 13, 14, 16, 17, 18, 19]) (wr := ([0, 1, 2, 3, 4, 6, 7, 8, 9, 10, 11, 12, 13, 14, 16, 17, 18, 19] : List Nat).filterMap (fun i => ((gs_W cI cZ h q F B30 ++ (gs_W cI cZ h2 q2 F2 B2)) : va_W)[i]?)) G (c0_copyRow l D cI cZ cJ (q2 4) (q 4) 16 (B2 4) (B30 4) (by decide)) gX0_become_X0_copyRow rfl 2 (by decide +kernel) rfl rfl ⟨(Nat.le_of_ble_eq_true rfl), (Nat.le_of_ble_eq_true rfl)⟩ rfl gk_ok0 trivial rfl (by decide) rfl (by decide) (by decide) rfl (Nat.le_of_ble_eq_true rfl) dX0_become_41 ⟨(Nat.le_of_ble_eq_true rfl), (Nat.le_of_ble_eq_true rfl)⟩ (fun u41 hp41 => ?_)
  refine gk_wsub (w' := (gs_W cI cZ h q F (gc_up B30 4 (gm_cp (B2 4) (B30 4) 16)) ++ (gs_W cI cZ h2 q2 F2 B2))) [0, 1, 2, 3, 4, 19, 5, 6, 7, 8, 9, 10, 11, 12, 13, 18, 14, 15, 16, 17] rfl (by decide) ?_
  generalize eB41 : gc_up B30 4 (gm_cp (B2 4) (B30 4) 16) = B41
  show gk_C p l e ({ frames := 1, cells := 0, slots := 0, locals := 22 } : Room) s m ([.ref h, .ref h2] : List Value).toArray below meth c 2 D A Q 0 0 (gs_W cI cZ h q F B41 ++ (gs_W cI cZ h2 q2 F2 B2)) [(0, .ref h), (1, .ref h2)] 44 []
  refine gk_aload_n G dX0_become_44 1 rfl ?_
  refine gk_get (v' := .ref (q2 5)) G hinX0 (q0 := 10) rfl rfl 5 (by decide) k28 rfl rfl dX0_become_45 ?_
  refine gk_aload_n G dX0_become_48 0 rfl ?_
  refine gk_get (v' := .ref (q 5)) G hinX0 (q0 := 0) rfl rfl 5 (by decide) k28 rfl rfl dX0_become_49 ?_
  refine gk_callVS (isC := [16, 6]) (isR := [0, 1, 2, 3, 4, 5, 7, 8, 9, 10, 11, 12, 13, 14, 15, 17, 18, 19]) (wr := ([0, 1, 2, 3, 4, 5, 7, 8, 9, 10, 11, 12, 13, 14, 15, 17, 18, 19] : List Nat).filterMap (fun i => ((gs_W cI cZ h q F B41 ++ (gs_W cI cZ h2 q2 F2 B2)) : va_W)[i]?)) G (c0_copyRow l D cI cZ cJ (q2 5) (q 5) 16 (B2 5) (B41 5) (by decide)) gX0_become_X0_copyRow rfl 2 (by decide +kernel) rfl rfl ⟨(Nat.le_of_ble_eq_true rfl), (Nat.le_of_ble_eq_true rfl)⟩ rfl gk_ok0 trivial rfl (by decide) rfl (by decide) (by decide) rfl (Nat.le_of_ble_eq_true rfl) dX0_become_52 ⟨(Nat.le_of_ble_eq_true rfl), (Nat.le_of_ble_eq_true rfl)⟩ (fun u52 hp52 => ?_)
  refine gk_wsub (w' := (gs_W cI cZ h q F (gc_up B41 5 (gm_cp (B2 5) (B41 5) 16)) ++ (gs_W cI cZ h2 q2 F2 B2))) [0, 1, 2, 3, 4, 5, 19, 6, 7, 8, 9, 10, 11, 12, 13, 14, 18, 15, 16, 17] rfl (by decide) ?_
  generalize eB52 : gc_up B41 5 (gm_cp (B2 5) (B41 5) 16) = B52
  show gk_C p l e ({ frames := 1, cells := 0, slots := 0, locals := 22 } : Room) s m ([.ref h, .ref h2] : List Value).toArray below meth c 2 D A Q 0 0 (gs_W cI cZ h q F B52 ++ (gs_W cI cZ h2 q2 F2 B2)) [(0, .ref h), (1, .ref h2)] 55 []
  refine gk_aload_n G dX0_become_55 1 rfl ?_
  refine gk_get (v' := .ref (q2 6)) G hinX0 (q0 := 10) rfl rfl 6 (by decide) k31 rfl rfl dX0_become_56 ?_
  refine gk_aload_n G dX0_become_59 0 rfl ?_
  refine gk_get (v' := .ref (q 6)) G hinX0 (q0 := 0) rfl rfl 6 (by decide) k31 rfl rfl dX0_become_60 ?_
  refine gk_callVS (isC := [17, 7]) (isR := [0, 1, 2, 3, 4, 5, 6, 8, 9, 10, 11, 12, 13, 14, 15, 16, 18, 19]) (wr := ([0, 1, 2, 3, 4, 5, 6, 8, 9, 10, 11, 12, 13, 14, 15, 16, 18, 19] : List Nat).filterMap (fun i => ((gs_W cI cZ h q F B52 ++ (gs_W cI cZ h2 q2 F2 B2)) : va_W)[i]?)) G (c0_copyRow l D cI cZ cJ (q2 6) (q 6) 16 (B2 6) (B52 6) (by decide)) gX0_become_X0_copyRow rfl 2 (by decide +kernel) rfl rfl ⟨(Nat.le_of_ble_eq_true rfl), (Nat.le_of_ble_eq_true rfl)⟩ rfl gk_ok0 trivial rfl (by decide) rfl (by decide) (by decide) rfl (Nat.le_of_ble_eq_true rfl) dX0_become_63 ⟨(Nat.le_of_ble_eq_true rfl), (Nat.le_of_ble_eq_true rfl)⟩ (fun u63 hp63 => ?_)
  refine gk_wsub (w' := (gs_W cI cZ h q F (gc_up B52 6 (gm_cp (B2 6) (B52 6) 16)) ++ (gs_W cI cZ h2 q2 F2 B2))) [0, 1, 2, 3, 4, 5, 6, 19, 7, 8, 9, 10, 11, 12, 13, 14, 15, 18, 16, 17] rfl (by decide) ?_
  generalize eB63 : gc_up B52 6 (gm_cp (B2 6) (B52 6) 16) = B63
  show gk_C p l e ({ frames := 1, cells := 0, slots := 0, locals := 22 } : Room) s m ([.ref h, .ref h2] : List Value).toArray below meth c 2 D A Q 0 0 (gs_W cI cZ h q F B63 ++ (gs_W cI cZ h2 q2 F2 B2)) [(0, .ref h), (1, .ref h2)] 66 []
  refine gk_aload_n G dX0_become_66 1 rfl ?_
  refine gk_get (v' := .ref (q2 7)) G hinX0 (q0 := 10) rfl rfl 7 (by decide) k34 rfl rfl dX0_become_67 ?_
  refine gk_aload_n G dX0_become_70 0 rfl ?_
  refine gk_get (v' := .ref (q 7)) G hinX0 (q0 := 0) rfl rfl 7 (by decide) k34 rfl rfl dX0_become_71 ?_
  refine gk_callVS (isC := [18, 8]) (isR := [0, 1, 2, 3, 4, 5, 6, 7, 9, 10, 11, 12, 13, 14, 15, 16, 17, 19]) (wr := ([0, 1, 2, 3, 4, 5, 6, 7, 9, 10, 11, 12, 13, 14, 15, 16, 17, 19] : List Nat).filterMap (fun i => ((gs_W cI cZ h q F B63 ++ (gs_W cI cZ h2 q2 F2 B2)) : va_W)[i]?)) G (c0_copyRow l D cI cZ cJ (q2 7) (q 7) 16 (B2 7) (B63 7) (by decide)) gX0_become_X0_copyRow rfl 2 (by decide +kernel) rfl rfl ⟨(Nat.le_of_ble_eq_true rfl), (Nat.le_of_ble_eq_true rfl)⟩ rfl gk_ok0 trivial rfl (by decide) rfl (by decide) (by decide) rfl (Nat.le_of_ble_eq_true rfl) dX0_become_74 ⟨(Nat.le_of_ble_eq_true rfl), (Nat.le_of_ble_eq_true rfl)⟩ (fun u74 hp74 => ?_)
  refine gk_wsub (w' := (gs_W cI cZ h q F (gc_up B63 7 (gm_cp (B2 7) (B63 7) 16)) ++ (gs_W cI cZ h2 q2 F2 B2))) [0, 1, 2, 3, 4, 5, 6, 7, 19, 8, 9, 10, 11, 12, 13, 14, 15, 16, 18, 17] rfl (by decide) ?_
  generalize eB74 : gc_up B63 7 (gm_cp (B2 7) (B63 7) 16) = B74
  show gk_C p l e ({ frames := 1, cells := 0, slots := 0, locals := 22 } : Room) s m ([.ref h, .ref h2] : List Value).toArray below meth c 2 D A Q 0 0 (gs_W cI cZ h q F B74 ++ (gs_W cI cZ h2 q2 F2 B2)) [(0, .ref h), (1, .ref h2)] 77 []
  refine gk_aload_n G dX0_become_77 1 rfl ?_
  refine gk_get (v' := .ref (q2 8)) G hinX0 (q0 := 10) rfl rfl 8 (by decide) k37 rfl rfl dX0_become_78 ?_
  refine gk_aload_n G dX0_become_81 0 rfl ?_
  refine gk_get (v' := .ref (q 8)) G hinX0 (q0 := 0) rfl rfl 8 (by decide) k37 rfl rfl dX0_become_82 ?_
  refine gk_callVS (isC := [19, 9]) (isR := [0, 1, 2, 3, 4, 5, 6, 7, 8, 10, 11, 12, 13, 14, 15, 16, 17, 18]) (wr := ([0, 1, 2, 3, 4, 5, 6, 7, 8, 10, 11, 12, 13, 14, 15, 16, 17, 18] : List Nat).filterMap (fun i => ((gs_W cI cZ h q F B74 ++ (gs_W cI cZ h2 q2 F2 B2)) : va_W)[i]?)) G (c0_copyRow l D cI cZ cJ (q2 8) (q 8) 16 (B2 8) (B74 8) (by decide)) gX0_become_X0_copyRow rfl 2 (by decide +kernel) rfl rfl ⟨(Nat.le_of_ble_eq_true rfl), (Nat.le_of_ble_eq_true rfl)⟩ rfl gk_ok0 trivial rfl (by decide) rfl (by decide) (by decide) rfl (Nat.le_of_ble_eq_true rfl) dX0_become_85 ⟨(Nat.le_of_ble_eq_true rfl), (Nat.le_of_ble_eq_true rfl)⟩ (fun u85 hp85 => ?_)
  refine gk_wsub (w' := (gs_W cI cZ h q F (gc_up B74 8 (gm_cp (B2 8) (B74 8) 16)) ++ (gs_W cI cZ h2 q2 F2 B2))) [0, 1, 2, 3, 4, 5, 6, 7, 8, 19, 9, 10, 11, 12, 13, 14, 15, 16, 17, 18] rfl (by decide) ?_
  generalize eB85 : gc_up B74 8 (gm_cp (B2 8) (B74 8) 16) = B85
  have gb0 : B85 0 = gm_cp (B2 0) (B 0) 12 := by rw [← eB85, gc_up_ne _ _ (show (0 : Nat) ≠ 8 by decide), ← eB74, gc_up_ne _ _ (show (0 : Nat) ≠ 7 by decide), ← eB63, gc_up_ne _ _ (show (0 : Nat) ≠ 6 by decide), ← eB52, gc_up_ne _ _ (show (0 : Nat) ≠ 5 by decide), ← eB41, gc_up_ne _ _ (show (0 : Nat) ≠ 4 by decide), ← eB30, gc_up_ne _ _ (show (0 : Nat) ≠ 2 by decide), ← eB19, gc_up_ne _ _ (show (0 : Nat) ≠ 1 by decide), ← eB8, gc_up_at]
  have gb1 : B85 1 = gm_cp (B2 1) (B 1) 4 := by rw [← eB85, gc_up_ne _ _ (show (1 : Nat) ≠ 8 by decide), ← eB74, gc_up_ne _ _ (show (1 : Nat) ≠ 7 by decide), ← eB63, gc_up_ne _ _ (show (1 : Nat) ≠ 6 by decide), ← eB52, gc_up_ne _ _ (show (1 : Nat) ≠ 5 by decide), ← eB41, gc_up_ne _ _ (show (1 : Nat) ≠ 4 by decide), ← eB30, gc_up_ne _ _ (show (1 : Nat) ≠ 2 by decide), ← eB19, gc_up_at]; rw [← eB8, gc_up_ne _ _ (show (1 : Nat) ≠ 0 by decide)]
  have gb2 : B85 2 = gm_cp (B2 2) (B 2) 4 := by rw [← eB85, gc_up_ne _ _ (show (2 : Nat) ≠ 8 by decide), ← eB74, gc_up_ne _ _ (show (2 : Nat) ≠ 7 by decide), ← eB63, gc_up_ne _ _ (show (2 : Nat) ≠ 6 by decide), ← eB52, gc_up_ne _ _ (show (2 : Nat) ≠ 5 by decide), ← eB41, gc_up_ne _ _ (show (2 : Nat) ≠ 4 by decide), ← eB30, gc_up_at]; rw [← eB19, gc_up_ne _ _ (show (2 : Nat) ≠ 1 by decide), ← eB8, gc_up_ne _ _ (show (2 : Nat) ≠ 0 by decide)]
  have gb4 : B85 4 = gm_cp (B2 4) (B 4) 16 := by rw [← eB85, gc_up_ne _ _ (show (4 : Nat) ≠ 8 by decide), ← eB74, gc_up_ne _ _ (show (4 : Nat) ≠ 7 by decide), ← eB63, gc_up_ne _ _ (show (4 : Nat) ≠ 6 by decide), ← eB52, gc_up_ne _ _ (show (4 : Nat) ≠ 5 by decide), ← eB41, gc_up_at]; rw [← eB30, gc_up_ne _ _ (show (4 : Nat) ≠ 2 by decide), ← eB19, gc_up_ne _ _ (show (4 : Nat) ≠ 1 by decide), ← eB8, gc_up_ne _ _ (show (4 : Nat) ≠ 0 by decide)]
  have gb5 : B85 5 = gm_cp (B2 5) (B 5) 16 := by rw [← eB85, gc_up_ne _ _ (show (5 : Nat) ≠ 8 by decide), ← eB74, gc_up_ne _ _ (show (5 : Nat) ≠ 7 by decide), ← eB63, gc_up_ne _ _ (show (5 : Nat) ≠ 6 by decide), ← eB52, gc_up_at]; rw [← eB41, gc_up_ne _ _ (show (5 : Nat) ≠ 4 by decide), ← eB30, gc_up_ne _ _ (show (5 : Nat) ≠ 2 by decide), ← eB19, gc_up_ne _ _ (show (5 : Nat) ≠ 1 by decide), ← eB8, gc_up_ne _ _ (show (5 : Nat) ≠ 0 by decide)]
  have gb6 : B85 6 = gm_cp (B2 6) (B 6) 16 := by rw [← eB85, gc_up_ne _ _ (show (6 : Nat) ≠ 8 by decide), ← eB74, gc_up_ne _ _ (show (6 : Nat) ≠ 7 by decide), ← eB63, gc_up_at]; rw [← eB52, gc_up_ne _ _ (show (6 : Nat) ≠ 5 by decide), ← eB41, gc_up_ne _ _ (show (6 : Nat) ≠ 4 by decide), ← eB30, gc_up_ne _ _ (show (6 : Nat) ≠ 2 by decide), ← eB19, gc_up_ne _ _ (show (6 : Nat) ≠ 1 by decide), ← eB8, gc_up_ne _ _ (show (6 : Nat) ≠ 0 by decide)]
  have gb7 : B85 7 = gm_cp (B2 7) (B 7) 16 := by rw [← eB85, gc_up_ne _ _ (show (7 : Nat) ≠ 8 by decide), ← eB74, gc_up_at]; rw [← eB63, gc_up_ne _ _ (show (7 : Nat) ≠ 6 by decide), ← eB52, gc_up_ne _ _ (show (7 : Nat) ≠ 5 by decide), ← eB41, gc_up_ne _ _ (show (7 : Nat) ≠ 4 by decide), ← eB30, gc_up_ne _ _ (show (7 : Nat) ≠ 2 by decide), ← eB19, gc_up_ne _ _ (show (7 : Nat) ≠ 1 by decide), ← eB8, gc_up_ne _ _ (show (7 : Nat) ≠ 0 by decide)]
  have gb8 : B85 8 = gm_cp (B2 8) (B 8) 16 := by rw [← eB85, gc_up_at]; rw [← eB74, gc_up_ne _ _ (show (8 : Nat) ≠ 7 by decide), ← eB63, gc_up_ne _ _ (show (8 : Nat) ≠ 6 by decide), ← eB52, gc_up_ne _ _ (show (8 : Nat) ≠ 5 by decide), ← eB41, gc_up_ne _ _ (show (8 : Nat) ≠ 4 by decide), ← eB30, gc_up_ne _ _ (show (8 : Nat) ≠ 2 by decide), ← eB19, gc_up_ne _ _ (show (8 : Nat) ≠ 1 by decide), ← eB8, gc_up_ne _ _ (show (8 : Nat) ≠ 0 by decide)]
  show gk_C p l e ({ frames := 1, cells := 0, slots := 0, locals := 22 } : Room) s m ([.ref h, .ref h2] : List Value).toArray below meth c 2 D A Q 0 0 (gs_W cI cZ h q F B85 ++ (gs_W cI cZ h2 q2 F2 B2)) [(0, .ref h), (1, .ref h2)] 88 []
  refine gk_aload_n G dX0_become_88 0 rfl ?_
  refine gk_aload_n G dX0_become_89 1 rfl ?_
  refine gk_get (v' := .int (F2 9)) G hinX0 (q0 := 10) rfl rfl 9 (by decide) k40 rfl rfl dX0_become_90 ?_
  refine gk_topi (fun v93 ev93 => ?_)
  refine gk_put (w' := (gs_W cI cZ h q (upd F 9 v93) B85 ++ (gs_W cI cZ h2 q2 F2 B2))) G hinX0 tyX0_ok nmX0 (q0 := 0) rfl rfl 9 (by decide) k40 rfl rfl rfl (Nat.le_of_ble_eq_true rfl) rfl dX0_become_93 ?_
  generalize eF93 : upd F 9 v93 = F93
  refine gk_aload_n G dX0_become_96 0 rfl ?_
  refine gk_aload_n G dX0_become_97 1 rfl ?_
  refine gk_get (v' := .int (F2 10)) G hinX0 (q0 := 10) rfl rfl 10 (by decide) k44 rfl rfl dX0_become_98 ?_
  refine gk_topi (fun v101 ev101 => ?_)
  refine gk_put (w' := (gs_W cI cZ h q (upd F93 10 v101) B85 ++ (gs_W cI cZ h2 q2 F2 B2))) G hinX0 tyX0_ok nmX0 (q0 := 0) rfl rfl 10 (by decide) k44 rfl rfl rfl (Nat.le_of_ble_eq_true rfl) rfl dX0_become_101 ?_
  generalize eF101 : upd F93 10 v101 = F101
  refine gk_aload_n G dX0_become_104 0 rfl ?_
  refine gk_aload_n G dX0_become_105 1 rfl ?_
  refine gk_get (v' := .int (F2 11)) G hinX0 (q0 := 10) rfl rfl 11 (by decide) k47 rfl rfl dX0_become_106 ?_
  refine gk_topi (fun v109 ev109 => ?_)
  refine gk_put (w' := (gs_W cI cZ h q (upd F101 11 v109) B85 ++ (gs_W cI cZ h2 q2 F2 B2))) G hinX0 tyX0_ok nmX0 (q0 := 0) rfl rfl 11 (by decide) k47 rfl rfl rfl (Nat.le_of_ble_eq_true rfl) rfl dX0_become_109 ?_
  generalize eF109 : upd F101 11 v109 = F109
  refine gk_aload_n G dX0_become_112 0 rfl ?_
  refine gk_aload_n G dX0_become_113 1 rfl ?_
  refine gk_get (v' := .int (F2 12)) G hinX0 (q0 := 10) rfl rfl 12 (by decide) k50 rfl rfl dX0_become_114 ?_
  refine gk_topi (fun v117 ev117 => ?_)
  refine gk_put (w' := (gs_W cI cZ h q (upd F109 12 v117) B85 ++ (gs_W cI cZ h2 q2 F2 B2))) G hinX0 tyX0_ok nmX0 (q0 := 0) rfl rfl 12 (by decide) k50 rfl rfl rfl (Nat.le_of_ble_eq_true rfl) rfl dX0_become_117 ?_
  generalize eF117 : upd F109 12 v117 = F117
  refine gk_aload_n G dX0_become_120 0 rfl ?_
  refine gk_aload_n G dX0_become_121 1 rfl ?_
  refine gk_get (v' := .int (F2 13)) G hinX0 (q0 := 10) rfl rfl 13 (by decide) k53 rfl rfl dX0_become_122 ?_
  refine gk_topi (fun v125 ev125 => ?_)
  refine gk_put (w' := (gs_W cI cZ h q (upd F117 13 v125) B85 ++ (gs_W cI cZ h2 q2 F2 B2))) G hinX0 tyX0_ok nmX0 (q0 := 0) rfl rfl 13 (by decide) k53 rfl rfl rfl (Nat.le_of_ble_eq_true rfl) rfl dX0_become_125 ?_
  generalize eF125 : upd F117 13 v125 = F125
  refine gk_aload_n G dX0_become_128 0 rfl ?_
  refine gk_aload_n G dX0_become_129 1 rfl ?_
  refine gk_get (v' := .int (F2 14)) G hinX0 (q0 := 10) rfl rfl 14 (by decide) k56 rfl rfl dX0_become_130 ?_
  refine gk_topi (fun v133 ev133 => ?_)
  refine gk_put (w' := (gs_W cI cZ h q (upd F125 14 v133) B85 ++ (gs_W cI cZ h2 q2 F2 B2))) G hinX0 tyX0_ok nmX0 (q0 := 0) rfl rfl 14 (by decide) k56 rfl rfl rfl (Nat.le_of_ble_eq_true rfl) rfl dX0_become_133 ?_
  generalize eF133 : upd F125 14 v133 = F133
  refine gk_aload_n G dX0_become_136 0 rfl ?_
  refine gk_aload_n G dX0_become_137 1 rfl ?_
  refine gk_get (v' := .int (F2 15)) G hinX0 (q0 := 10) rfl rfl 15 (by decide) k59 rfl rfl dX0_become_138 ?_
  refine gk_topi (fun v141 ev141 => ?_)
  refine gk_put (w' := (gs_W cI cZ h q (upd F133 15 v141) B85 ++ (gs_W cI cZ h2 q2 F2 B2))) G hinX0 tyX0_ok nmX0 (q0 := 0) rfl rfl 15 (by decide) k59 rfl (gk_nz (by rw [ev141, hr.1.2.2.2.2.2.2]; exact gm_01 wf.2.2.2.1)) (gk_fz (by rw [ev141, hr.1.2.2.2.2.2.2]; exact gm_01 wf.2.2.2.1)) (Nat.le_of_ble_eq_true rfl) rfl dX0_become_141 ?_
  generalize eF141 : upd F133 15 v141 = F141
  exact RET _ _ _ _ _ (F141, B85) dX0_become_144 (by
          refine gc_rep_of wf hr (fun k hk1 hk2 => ?_) (fun i hi => ?_) (fun i hi => ?_) (fun i hi => ?_) (fun k i hk1 hk2 hi => ?_)
          · show F141 k = F2 k
            rcases (show k = 9 ∨ k = 10 ∨ k = 11 ∨ k = 12 ∨ k = 13 ∨ k = 14 ∨ k = 15 by omega) with rfl | rfl | rfl | rfl | rfl | rfl | rfl
            · exact (by rw [← eF141, pk_un (by decide)]; exact (by rw [← eF133, pk_un (by decide)]; exact (by rw [← eF125, pk_un (by decide)]; exact (by rw [← eF117, pk_un (by decide)]; exact (by rw [← eF109, pk_un (by decide)]; exact (by rw [← eF101, pk_un (by decide)]; exact (by rw [← eF93]; exact pk_us.trans ev93)))))))
            · exact (by rw [← eF141, pk_un (by decide)]; exact (by rw [← eF133, pk_un (by decide)]; exact (by rw [← eF125, pk_un (by decide)]; exact (by rw [← eF117, pk_un (by decide)]; exact (by rw [← eF109, pk_un (by decide)]; exact (by rw [← eF101]; exact pk_us.trans ev101))))))
            · exact (by rw [← eF141, pk_un (by decide)]; exact (by rw [← eF133, pk_un (by decide)]; exact (by rw [← eF125, pk_un (by decide)]; exact (by rw [← eF117, pk_un (by decide)]; exact (by rw [← eF109]; exact pk_us.trans ev109)))))
            · exact (by rw [← eF141, pk_un (by decide)]; exact (by rw [← eF133, pk_un (by decide)]; exact (by rw [← eF125, pk_un (by decide)]; exact (by rw [← eF117]; exact pk_us.trans ev117))))
            · exact (by rw [← eF141, pk_un (by decide)]; exact (by rw [← eF133, pk_un (by decide)]; exact (by rw [← eF125]; exact pk_us.trans ev125)))
            · exact (by rw [← eF141, pk_un (by decide)]; exact (by rw [← eF133]; exact pk_us.trans ev133))
            · exact (by rw [← eF141]; exact pk_us.trans ev141)
          all_goals show B85 _ i = _
          · rw [gb0]; exact gm_cp_lt hi
          · rw [gb1]; exact gm_cp_lt hi
          · rw [gb2]; exact gm_cp_lt hi
          · rcases (show k = 4 ∨ k = 5 ∨ k = 6 ∨ k = 7 ∨ k = 8 by omega) with rfl | rfl | rfl | rfl | rfl
            · rw [gb4]; exact gm_cp_lt hi
            · rw [gb5]; exact gm_cp_lt hi
            · rw [gb6]; exact gm_cp_lt hi
            · rw [gb7]; exact gm_cp_lt hi
            · rw [gb8]; exact gm_cp_lt hi) rfl (Nat.le_of_ble_eq_true rfl) (Nat.le_of_ble_eq_true rfl)
end
section
def gm_new : gm_M := fun k i => if k = 0 then 5 else 0
theorem gm_i0 {B1 B2 : Nat → Nat → Int32} {k : Nat} {v : Int32} (e : gc_up B1 0 (upd (B1 0) k v) = B2) (hv : v = nI 5) (h : B1 = fun r i => if r = 0 ∧ i < k then 5 else 0) : B2 = fun r i => if r = 0 ∧ i < k + 1 then 5 else 0 := by
  subst e; subst hv
  funext r i
  by_cases hr : r = 0
  · subst hr
    rw [gc_up_at]
    by_cases hi : i = k
    · rw [hi, pk_us, if_pos (by omega)]; rfl
    · rw [pk_un hi, h]
      dsimp only
      by_cases h2 : i < k
      · rw [if_pos ⟨rfl, h2⟩, if_pos ⟨rfl, by omega⟩]
      · rw [if_neg (by omega), if_neg (by omega)]
  · rw [gc_up_ne _ _ hr, h]
    dsimp only
    rw [if_neg (by omega), if_neg (by omega)]
theorem gm_i1 {F : Nat → Int32} {B : Nat → Nat → Int32} (hF : ∀ k, F k = 0) (h : B = fun r i => if r = 0 ∧ i < 12 then 5 else 0) : gc_rep F B gm_new := by
  refine ⟨⟨hF 9, hF 10, hF 11, hF 12, hF 13, hF 14, hF 15⟩, fun i hi => ?_, fun i hi => absurd hi (Nat.not_lt_zero i), fun i hi => absurd hi (Nat.not_lt_zero i), fun i hi => absurd hi (Nat.not_lt_zero i), fun i hi => absurd hi (Nat.not_lt_zero i), fun i hi => absurd hi (Nat.not_lt_zero i), fun i hi => absurd hi (Nat.not_lt_zero i), fun i hi => absurd hi (Nat.not_lt_zero i)⟩
  rw [h]
  dsimp only
  rw [if_pos ⟨rfl, hi⟩]
  rfl

set_option maxRecDepth 100000 in
set_option maxHeartbeats 400000 in
theorem c0_init (l : Launch) (D : va_G) (cI cZ cJ : ClassId) (h : Nat)  : gk_V l yX0_init wsX0_init ({ frames := 1, cells := 9, slots := 104, locals := 20 } : Room) D (g_T cI cZ cJ) gk_E0 [.ref h] [(h, .inr (0, [.null, .null, .null, .null, .null, .null, .null, .null, .null, .int 0, .int 0, .int 0, .int 0, .int 0, .int 0, .int 0]))] 9 104 (fun (u : (Nat → Nat) × (Nat → Int32) × (Nat → Nat → Int32)) => gc_rep u.2.1 u.2.2 gm_new) (fun u => (gs_W cI cZ h u.1 u.2.1 u.2.2)) := by
  refine gk_V_of (cc := cX0_init) (nL := 2) (by decide +kernel) rfl (Nat.le_of_ble_eq_true rfl) ?_
  intro p e s m below meth c A Q hnm hE G RET
  have hinX0 : ∀ w ∈ wsX00, w ∈ wsX0_init := fun w h9 => (List.mem_cons_of_mem _ (List.mem_append_right _ h9))
  have k9 := G.2.2.2.2.1 (.fieldLink RX0 9 "GustMill$State" "winds" "[I") (List.mem_cons_of_mem _ (List.mem_append_left _ (List.mem_of_getElem? (i := 4) rfl)))
  have k15 := G.2.2.2.2.1 (.fieldLink RX0 15 "GustMill$State" "sizes" "[I") (List.mem_cons_of_mem _ (List.mem_append_left _ (List.mem_of_getElem? (i := 5) rfl)))
  have k18 := G.2.2.2.2.1 (.fieldLink RX0 18 "GustMill$State" "sacksUpon" "[I") (List.mem_cons_of_mem _ (List.mem_append_left _ (List.mem_of_getElem? (i := 6) rfl)))
  have k21 := G.2.2.2.2.1 (.fieldLink RX0 21 "GustMill$State" "isFresh" "[Z") (List.mem_cons_of_mem _ (List.mem_append_left _ (List.mem_of_getElem? (i := 8) rfl)))
  have k25 := G.2.2.2.2.1 (.fieldLink RX0 25 "GustMill$State" "bakers" "[I") (List.mem_cons_of_mem _ (List.mem_append_left _ (List.mem_of_getElem? (i := 9) rfl)))
  have k28 := G.2.2.2.2.1 (.fieldLink RX0 28 "GustMill$State" "lefts" "[I") (List.mem_cons_of_mem _ (List.mem_append_left _ (List.mem_of_getElem? (i := 10) rfl)))
  have k31 := G.2.2.2.2.1 (.fieldLink RX0 31 "GustMill$State" "untils" "[I") (List.mem_cons_of_mem _ (List.mem_append_left _ (List.mem_of_getElem? (i := 11) rfl)))
  have k34 := G.2.2.2.2.1 (.fieldLink RX0 34 "GustMill$State" "stonesUnder" "[I") (List.mem_cons_of_mem _ (List.mem_append_left _ (List.mem_of_getElem? (i := 12) rfl)))
  have k37 := G.2.2.2.2.1 (.fieldLink RX0 37 "GustMill$State" "groundHours" "[I") (List.mem_cons_of_mem _ (List.mem_append_left _ (List.mem_of_getElem? (i := 13) rfl)))
  have k40 := G.2.2.2.2.1 (.fieldLink RX0 40 "GustMill$State" "hour" "I") (List.mem_cons_of_mem _ (List.mem_append_left _ (List.mem_of_getElem? (i := 14) rfl)))
  have k44 := G.2.2.2.2.1 (.fieldLink RX0 44 "GustMill$State" "stoneCount" "I") (List.mem_cons_of_mem _ (List.mem_append_left _ (List.mem_of_getElem? (i := 15) rfl)))
  have k47 := G.2.2.2.2.1 (.fieldLink RX0 47 "GustMill$State" "sackCount" "I") (List.mem_cons_of_mem _ (List.mem_append_left _ (List.mem_of_getElem? (i := 16) rfl)))
  have k50 := G.2.2.2.2.1 (.fieldLink RX0 50 "GustMill$State" "groundCount" "I") (List.mem_cons_of_mem _ (List.mem_append_left _ (List.mem_of_getElem? (i := 17) rfl)))
  have k53 := G.2.2.2.2.1 (.fieldLink RX0 53 "GustMill$State" "changeCount" "I") (List.mem_cons_of_mem _ (List.mem_append_left _ (List.mem_of_getElem? (i := 18) rfl)))
  have k56 := G.2.2.2.2.1 (.fieldLink RX0 56 "GustMill$State" "rule" "I") (List.mem_cons_of_mem _ (List.mem_append_left _ (List.mem_of_getElem? (i := 19) rfl)))
  have k59 := G.2.2.2.2.1 (.fieldLink RX0 59 "GustMill$State" "isTakingOff" "Z") (List.mem_cons_of_mem _ (List.mem_append_left _ (List.mem_of_getElem? (i := 20) rfl)))
  refine gk_aload_n G dX0_init_0 0 rfl ?_
  refine gk_objInit G (G.2.2.2.2.1 (.methodLink RX0 3 objectInit) (List.mem_cons_of_mem _ (List.mem_append_left _ (List.mem_of_getElem? (i := 0) rfl)))) (G.2.2.2.2.1 (.instanceMethod objectInit) (List.mem_cons_of_mem _ (List.mem_append_left _ (List.mem_of_getElem? (i := 1) rfl)))) (G.2.2.2.2.1 (.code objectInit ⟨#[0xb1]⟩ 1 none) (List.mem_cons_of_mem _ (List.mem_append_left _ (List.mem_of_getElem? (i := 2) rfl)))) (Nat.le_of_ble_eq_true rfl) (Nat.le_of_ble_eq_true rfl) dX0_init_1 ?_
  refine gk_aload_n G dX0_init_4 0 rfl ?_
  refine gk_bipush (v := nI 12) G dX0_init_5 (by decide) ?_
  refine gk_newa (atype := .int) (N := 12) (a0 := (12, .inl (fun _ => 0))) G (G.2.2.2.2.1 (.arrayClass .int) (List.mem_cons_of_mem _ (List.mem_append_left _ (List.mem_of_getElem? (i := 3) rfl)))) rfl (fun C h => by cases h) 0 rfl (fun _ => rfl) rfl (Nat.le_of_ble_eq_true rfl) (Nat.le_of_ble_eq_true rfl) (Nat.le_of_ble_eq_true rfl) (Nat.le_of_ble_eq_true rfl) dX0_init_7 (fun q0 => ?_)
  show gk_C p l e ({ frames := 1, cells := 9, slots := 104, locals := 20 } : Room) s m ([.ref h] : List Value).toArray below meth c 2 D A Q 1 12 [(h, .inr (0, [.null, .null, .null, .null, .null, .null, .null, .null, .null, .int 0, .int 0, .int 0, .int 0, .int 0, .int 0, .int 0])), (q0, .inl (cI, 12, .inl (fun _ => 0)))] [(0, .ref h)] 9 [.ref q0, .ref h]
  refine gk_putF (w' := [(h, .inr (0, [.ref q0, .null, .null, .null, .null, .null, .null, .null, .null, .int 0, .int 0, .int 0, .int 0, .int 0, .int 0, .int 0])), (q0, .inl (cI, 12, .inl (fun _ => 0)))]) G hinX0 tyX0_ok nmX0 (q0 := 0) rfl rfl 0 (by decide) k9 rfl hnm rfl rfl rfl (Nat.le_of_ble_eq_true rfl) rfl dX0_init_9 ?_
  refine gk_aload_n G dX0_init_12 0 rfl ?_
  refine gk_iconst (v := nI 4) G dX0_init_13 (by decide) ?_
  refine gk_newa (atype := .int) (N := 4) (a0 := (4, .inl (fun _ => 0))) G (G.2.2.2.2.1 (.arrayClass .int) (List.mem_cons_of_mem _ (List.mem_append_left _ (List.mem_of_getElem? (i := 3) rfl)))) rfl (fun C h => by cases h) 0 rfl (fun _ => rfl) rfl (Nat.le_of_ble_eq_true rfl) (Nat.le_of_ble_eq_true rfl) (Nat.le_of_ble_eq_true rfl) (Nat.le_of_ble_eq_true rfl) dX0_init_14 (fun q1 => ?_)
  show gk_C p l e ({ frames := 1, cells := 9, slots := 104, locals := 20 } : Room) s m ([.ref h] : List Value).toArray below meth c 2 D A Q 2 16 [(h, .inr (0, [.ref q0, .null, .null, .null, .null, .null, .null, .null, .null, .int 0, .int 0, .int 0, .int 0, .int 0, .int 0, .int 0])), (q0, .inl (cI, 12, .inl (fun _ => 0))), (q1, .inl (cI, 4, .inl (fun _ => 0)))] [(0, .ref h)] 16 [.ref q1, .ref h]
  refine gk_putF (w' := [(h, .inr (0, [.ref q0, .ref q1, .null, .null, .null, .null, .null, .null, .null, .int 0, .int 0, .int 0, .int 0, .int 0, .int 0, .int 0])), (q0, .inl (cI, 12, .inl (fun _ => 0))), (q1, .inl (cI, 4, .inl (fun _ => 0)))]) G hinX0 tyX0_ok nmX0 (q0 := 0) rfl rfl 1 (by decide) k15 rfl hnm rfl rfl rfl (Nat.le_of_ble_eq_true rfl) rfl dX0_init_16 ?_
  refine gk_aload_n G dX0_init_19 0 rfl ?_
  refine gk_iconst (v := nI 4) G dX0_init_20 (by decide) ?_
  refine gk_newa (atype := .int) (N := 4) (a0 := (4, .inl (fun _ => 0))) G (G.2.2.2.2.1 (.arrayClass .int) (List.mem_cons_of_mem _ (List.mem_append_left _ (List.mem_of_getElem? (i := 3) rfl)))) rfl (fun C h => by cases h) 0 rfl (fun _ => rfl) rfl (Nat.le_of_ble_eq_true rfl) (Nat.le_of_ble_eq_true rfl) (Nat.le_of_ble_eq_true rfl) (Nat.le_of_ble_eq_true rfl) dX0_init_21 (fun q2 => ?_)
  show gk_C p l e ({ frames := 1, cells := 9, slots := 104, locals := 20 } : Room) s m ([.ref h] : List Value).toArray below meth c 2 D A Q 3 20 [(h, .inr (0, [.ref q0, .ref q1, .null, .null, .null, .null, .null, .null, .null, .int 0, .int 0, .int 0, .int 0, .int 0, .int 0, .int 0])), (q0, .inl (cI, 12, .inl (fun _ => 0))), (q1, .inl (cI, 4, .inl (fun _ => 0))), (q2, .inl (cI, 4, .inl (fun _ => 0)))] [(0, .ref h)] 23 [.ref q2, .ref h]
  refine gk_putF (w' := [(h, .inr (0, [.ref q0, .ref q1, .ref q2, .null, .null, .null, .null, .null, .null, .int 0, .int 0, .int 0, .int 0, .int 0, .int 0, .int 0])), (q0, .inl (cI, 12, .inl (fun _ => 0))), (q1, .inl (cI, 4, .inl (fun _ => 0))), (q2, .inl (cI, 4, .inl (fun _ => 0)))]) G hinX0 tyX0_ok nmX0 (q0 := 0) rfl rfl 2 (by decide) k18 rfl hnm rfl rfl rfl (Nat.le_of_ble_eq_true rfl) rfl dX0_init_23 ?_
  refine gk_aload_n G dX0_init_26 0 rfl ?_
  refine gk_iconst (v := nI 4) G dX0_init_27 (by decide) ?_
  refine gk_newa (atype := .boolean) (N := 4) (a0 := (4, .inl (fun _ => 0))) G (G.2.2.2.2.1 (.arrayClass .boolean) (List.mem_cons_of_mem _ (List.mem_append_left _ (List.mem_of_getElem? (i := 7) rfl)))) rfl (fun C h => by cases h) 1 rfl (fun _ => rfl) rfl (Nat.le_of_ble_eq_true rfl) (Nat.le_of_ble_eq_true rfl) (Nat.le_of_ble_eq_true rfl) (Nat.le_of_ble_eq_true rfl) dX0_init_28 (fun q3 => ?_)
  show gk_C p l e ({ frames := 1, cells := 9, slots := 104, locals := 20 } : Room) s m ([.ref h] : List Value).toArray below meth c 2 D A Q 4 24 [(h, .inr (0, [.ref q0, .ref q1, .ref q2, .null, .null, .null, .null, .null, .null, .int 0, .int 0, .int 0, .int 0, .int 0, .int 0, .int 0])), (q0, .inl (cI, 12, .inl (fun _ => 0))), (q1, .inl (cI, 4, .inl (fun _ => 0))), (q2, .inl (cI, 4, .inl (fun _ => 0))), (q3, .inl (cZ, 4, .inl (fun _ => 0)))] [(0, .ref h)] 30 [.ref q3, .ref h]
  refine gk_putF (w' := [(h, .inr (0, [.ref q0, .ref q1, .ref q2, .ref q3, .null, .null, .null, .null, .null, .int 0, .int 0, .int 0, .int 0, .int 0, .int 0, .int 0])), (q0, .inl (cI, 12, .inl (fun _ => 0))), (q1, .inl (cI, 4, .inl (fun _ => 0))), (q2, .inl (cI, 4, .inl (fun _ => 0))), (q3, .inl (cZ, 4, .inl (fun _ => 0)))]) G hinX0 tyX0_ok nmX0 (q0 := 0) rfl rfl 3 (by decide) k21 rfl hnm rfl rfl rfl (Nat.le_of_ble_eq_true rfl) rfl dX0_init_30 ?_
  refine gk_aload_n G dX0_init_33 0 rfl ?_
  refine gk_bipush (v := nI 16) G dX0_init_34 (by decide) ?_
  refine gk_newa (atype := .int) (N := 16) (a0 := (16, .inl (fun _ => 0))) G (G.2.2.2.2.1 (.arrayClass .int) (List.mem_cons_of_mem _ (List.mem_append_left _ (List.mem_of_getElem? (i := 3) rfl)))) rfl (fun C h => by cases h) 0 rfl (fun _ => rfl) rfl (Nat.le_of_ble_eq_true rfl) (Nat.le_of_ble_eq_true rfl) (Nat.le_of_ble_eq_true rfl) (Nat.le_of_ble_eq_true rfl) dX0_init_36 (fun q4 => ?_)
  show gk_C p l e ({ frames := 1, cells := 9, slots := 104, locals := 20 } : Room) s m ([.ref h] : List Value).toArray below meth c 2 D A Q 5 40 [(h, .inr (0, [.ref q0, .ref q1, .ref q2, .ref q3, .null, .null, .null, .null, .null, .int 0, .int 0, .int 0, .int 0, .int 0, .int 0, .int 0])), (q0, .inl (cI, 12, .inl (fun _ => 0))), (q1, .inl (cI, 4, .inl (fun _ => 0))), (q2, .inl (cI, 4, .inl (fun _ => 0))), (q3, .inl (cZ, 4, .inl (fun _ => 0))), (q4, .inl (cI, 16, .inl (fun _ => 0)))] [(0, .ref h)] 38 [.ref q4, .ref h]
  refine gk_putF (w' := [(h, .inr (0, [.ref q0, .ref q1, .ref q2, .ref q3, .ref q4, .null, .null, .null, .null, .int 0, .int 0, .int 0, .int 0, .int 0, .int 0, .int 0])), (q0, .inl (cI, 12, .inl (fun _ => 0))), (q1, .inl (cI, 4, .inl (fun _ => 0))), (q2, .inl (cI, 4, .inl (fun _ => 0))), (q3, .inl (cZ, 4, .inl (fun _ => 0))), (q4, .inl (cI, 16, .inl (fun _ => 0)))]) G hinX0 tyX0_ok nmX0 (q0 := 0) rfl rfl 4 (by decide) k25 rfl hnm rfl rfl rfl (Nat.le_of_ble_eq_true rfl) rfl dX0_init_38 ?_
  refine gk_aload_n G dX0_init_41 0 rfl ?_
  refine gk_bipush (v := nI 16) G dX0_init_42 (by decide) ?_
  refine gk_newa (atype := .int) (N := 16) (a0 := (16, .inl (fun _ => 0))) G (G.2.2.2.2.1 (.arrayClass .int) (List.mem_cons_of_mem _ (List.mem_append_left _ (List.mem_of_getElem? (i := 3) rfl)))) rfl (fun C h => by cases h) 0 rfl (fun _ => rfl) rfl (Nat.le_of_ble_eq_true rfl) (Nat.le_of_ble_eq_true rfl) (Nat.le_of_ble_eq_true rfl) (Nat.le_of_ble_eq_true rfl) dX0_init_44 (fun q5 => ?_)
  show gk_C p l e ({ frames := 1, cells := 9, slots := 104, locals := 20 } : Room) s m ([.ref h] : List Value).toArray below meth c 2 D A Q 6 56 [(h, .inr (0, [.ref q0, .ref q1, .ref q2, .ref q3, .ref q4, .null, .null, .null, .null, .int 0, .int 0, .int 0, .int 0, .int 0, .int 0, .int 0])), (q0, .inl (cI, 12, .inl (fun _ => 0))), (q1, .inl (cI, 4, .inl (fun _ => 0))), (q2, .inl (cI, 4, .inl (fun _ => 0))), (q3, .inl (cZ, 4, .inl (fun _ => 0))), (q4, .inl (cI, 16, .inl (fun _ => 0))), (q5, .inl (cI, 16, .inl (fun _ => 0)))] [(0, .ref h)] 46 [.ref q5, .ref h]
  refine gk_putF (w' := [(h, .inr (0, [.ref q0, .ref q1, .ref q2, .ref q3, .ref q4, .ref q5, .null, .null, .null, .int 0, .int 0, .int 0, .int 0, .int 0, .int 0, .int 0])), (q0, .inl (cI, 12, .inl (fun _ => 0))), (q1, .inl (cI, 4, .inl (fun _ => 0))), (q2, .inl (cI, 4, .inl (fun _ => 0))), (q3, .inl (cZ, 4, .inl (fun _ => 0))), (q4, .inl (cI, 16, .inl (fun _ => 0))), (q5, .inl (cI, 16, .inl (fun _ => 0)))]) G hinX0 tyX0_ok nmX0 (q0 := 0) rfl rfl 5 (by decide) k28 rfl hnm rfl rfl rfl (Nat.le_of_ble_eq_true rfl) rfl dX0_init_46 ?_
  refine gk_aload_n G dX0_init_49 0 rfl ?_
  refine gk_bipush (v := nI 16) G dX0_init_50 (by decide) ?_
  refine gk_newa (atype := .int) (N := 16) (a0 := (16, .inl (fun _ => 0))) G (G.2.2.2.2.1 (.arrayClass .int) (List.mem_cons_of_mem _ (List.mem_append_left _ (List.mem_of_getElem? (i := 3) rfl)))) rfl (fun C h => by cases h) 0 rfl (fun _ => rfl) rfl (Nat.le_of_ble_eq_true rfl) (Nat.le_of_ble_eq_true rfl) (Nat.le_of_ble_eq_true rfl) (Nat.le_of_ble_eq_true rfl) dX0_init_52 (fun q6 => ?_)
  show gk_C p l e ({ frames := 1, cells := 9, slots := 104, locals := 20 } : Room) s m ([.ref h] : List Value).toArray below meth c 2 D A Q 7 72 [(h, .inr (0, [.ref q0, .ref q1, .ref q2, .ref q3, .ref q4, .ref q5, .null, .null, .null, .int 0, .int 0, .int 0, .int 0, .int 0, .int 0, .int 0])), (q0, .inl (cI, 12, .inl (fun _ => 0))), (q1, .inl (cI, 4, .inl (fun _ => 0))), (q2, .inl (cI, 4, .inl (fun _ => 0))), (q3, .inl (cZ, 4, .inl (fun _ => 0))), (q4, .inl (cI, 16, .inl (fun _ => 0))), (q5, .inl (cI, 16, .inl (fun _ => 0))), (q6, .inl (cI, 16, .inl (fun _ => 0)))] [(0, .ref h)] 54 [.ref q6, .ref h]
  refine gk_putF (w' := [(h, .inr (0, [.ref q0, .ref q1, .ref q2, .ref q3, .ref q4, .ref q5, .ref q6, .null, .null, .int 0, .int 0, .int 0, .int 0, .int 0, .int 0, .int 0])), (q0, .inl (cI, 12, .inl (fun _ => 0))), (q1, .inl (cI, 4, .inl (fun _ => 0))), (q2, .inl (cI, 4, .inl (fun _ => 0))), (q3, .inl (cZ, 4, .inl (fun _ => 0))), (q4, .inl (cI, 16, .inl (fun _ => 0))), (q5, .inl (cI, 16, .inl (fun _ => 0))), (q6, .inl (cI, 16, .inl (fun _ => 0)))]) G hinX0 tyX0_ok nmX0 (q0 := 0) rfl rfl 6 (by decide) k31 rfl hnm rfl rfl rfl (Nat.le_of_ble_eq_true rfl) rfl dX0_init_54 ?_
  refine gk_aload_n G dX0_init_57 0 rfl ?_
  refine gk_bipush (v := nI 16) G dX0_init_58 (by decide) ?_
  refine gk_newa (atype := .int) (N := 16) (a0 := (16, .inl (fun _ => 0))) G (G.2.2.2.2.1 (.arrayClass .int) (List.mem_cons_of_mem _ (List.mem_append_left _ (List.mem_of_getElem? (i := 3) rfl)))) rfl (fun C h => by cases h) 0 rfl (fun _ => rfl) rfl (Nat.le_of_ble_eq_true rfl) (Nat.le_of_ble_eq_true rfl) (Nat.le_of_ble_eq_true rfl) (Nat.le_of_ble_eq_true rfl) dX0_init_60 (fun q7 => ?_)
  show gk_C p l e ({ frames := 1, cells := 9, slots := 104, locals := 20 } : Room) s m ([.ref h] : List Value).toArray below meth c 2 D A Q 8 88 [(h, .inr (0, [.ref q0, .ref q1, .ref q2, .ref q3, .ref q4, .ref q5, .ref q6, .null, .null, .int 0, .int 0, .int 0, .int 0, .int 0, .int 0, .int 0])), (q0, .inl (cI, 12, .inl (fun _ => 0))), (q1, .inl (cI, 4, .inl (fun _ => 0))), (q2, .inl (cI, 4, .inl (fun _ => 0))), (q3, .inl (cZ, 4, .inl (fun _ => 0))), (q4, .inl (cI, 16, .inl (fun _ => 0))), (q5, .inl (cI, 16, .inl (fun _ => 0))), (q6, .inl (cI, 16, .inl (fun _ => 0))), (q7, .inl (cI, 16, .inl (fun _ => 0)))] [(0, .ref h)] 62 [.ref q7, .ref h]
  refine gk_putF (w' := [(h, .inr (0, [.ref q0, .ref q1, .ref q2, .ref q3, .ref q4, .ref q5, .ref q6, .ref q7, .null, .int 0, .int 0, .int 0, .int 0, .int 0, .int 0, .int 0])), (q0, .inl (cI, 12, .inl (fun _ => 0))), (q1, .inl (cI, 4, .inl (fun _ => 0))), (q2, .inl (cI, 4, .inl (fun _ => 0))), (q3, .inl (cZ, 4, .inl (fun _ => 0))), (q4, .inl (cI, 16, .inl (fun _ => 0))), (q5, .inl (cI, 16, .inl (fun _ => 0))), (q6, .inl (cI, 16, .inl (fun _ => 0))), (q7, .inl (cI, 16, .inl (fun _ => 0)))]) G hinX0 tyX0_ok nmX0 (q0 := 0) rfl rfl 7 (by decide) k34 rfl hnm rfl rfl rfl (Nat.le_of_ble_eq_true rfl) rfl dX0_init_62 ?_
  refine gk_aload_n G dX0_init_65 0 rfl ?_
  refine gk_bipush (v := nI 16) G dX0_init_66 (by decide) ?_
  refine gk_newa (atype := .int) (N := 16) (a0 := (16, .inl (fun _ => 0))) G (G.2.2.2.2.1 (.arrayClass .int) (List.mem_cons_of_mem _ (List.mem_append_left _ (List.mem_of_getElem? (i := 3) rfl)))) rfl (fun C h => by cases h) 0 rfl (fun _ => rfl) rfl (Nat.le_of_ble_eq_true rfl) (Nat.le_of_ble_eq_true rfl) (Nat.le_of_ble_eq_true rfl) (Nat.le_of_ble_eq_true rfl) dX0_init_68 (fun q8 => ?_)
  show gk_C p l e ({ frames := 1, cells := 9, slots := 104, locals := 20 } : Room) s m ([.ref h] : List Value).toArray below meth c 2 D A Q 9 104 [(h, .inr (0, [.ref q0, .ref q1, .ref q2, .ref q3, .ref q4, .ref q5, .ref q6, .ref q7, .null, .int 0, .int 0, .int 0, .int 0, .int 0, .int 0, .int 0])), (q0, .inl (cI, 12, .inl (fun _ => 0))), (q1, .inl (cI, 4, .inl (fun _ => 0))), (q2, .inl (cI, 4, .inl (fun _ => 0))), (q3, .inl (cZ, 4, .inl (fun _ => 0))), (q4, .inl (cI, 16, .inl (fun _ => 0))), (q5, .inl (cI, 16, .inl (fun _ => 0))), (q6, .inl (cI, 16, .inl (fun _ => 0))), (q7, .inl (cI, 16, .inl (fun _ => 0))), (q8, .inl (cI, 16, .inl (fun _ => 0)))] [(0, .ref h)] 70 [.ref q8, .ref h]
  refine gk_putF (w' := [(h, .inr (0, [.ref q0, .ref q1, .ref q2, .ref q3, .ref q4, .ref q5, .ref q6, .ref q7, .ref q8, .int 0, .int 0, .int 0, .int 0, .int 0, .int 0, .int 0])), (q0, .inl (cI, 12, .inl (fun _ => 0))), (q1, .inl (cI, 4, .inl (fun _ => 0))), (q2, .inl (cI, 4, .inl (fun _ => 0))), (q3, .inl (cZ, 4, .inl (fun _ => 0))), (q4, .inl (cI, 16, .inl (fun _ => 0))), (q5, .inl (cI, 16, .inl (fun _ => 0))), (q6, .inl (cI, 16, .inl (fun _ => 0))), (q7, .inl (cI, 16, .inl (fun _ => 0))), (q8, .inl (cI, 16, .inl (fun _ => 0)))]) G hinX0 tyX0_ok nmX0 (q0 := 0) rfl rfl 8 (by decide) k37 rfl hnm rfl rfl rfl (Nat.le_of_ble_eq_true rfl) rfl dX0_init_70 ?_
  obtain ⟨q, hq⟩ : ∃ q : Nat → Nat, q = fun k => if k = 0 then q0 else if k = 1 then q1 else if k = 2 then q2 else if k = 3 then q3 else if k = 4 then q4 else if k = 5 then q5 else if k = 6 then q6 else if k = 7 then q7 else q8 := ⟨_, rfl⟩
  obtain rfl : q 0 = q0 := by rw [hq]; rfl
  obtain rfl : q 1 = q1 := by rw [hq]; rfl
  obtain rfl : q 2 = q2 := by rw [hq]; rfl
  obtain rfl : q 3 = q3 := by rw [hq]; rfl
  obtain rfl : q 4 = q4 := by rw [hq]; rfl
  obtain rfl : q 5 = q5 := by rw [hq]; rfl
  obtain rfl : q 6 = q6 := by rw [hq]; rfl
  obtain rfl : q 7 = q7 := by rw [hq]; rfl
  obtain rfl : q 8 = q8 := by rw [hq]; rfl
  clear hq
  suffices K9 : ∀ (F : Nat → Int32) (B : Nat → Nat → Int32), (∀ k, F k = 0) → (∀ k i, B k i = 0) → gk_C p l e ({ frames := 1, cells := 9, slots := 104, locals := 20 } : Room) s m ([.ref h] : List Value).toArray below meth c 2 D A Q 9 104 (gs_W cI cZ h q F B) [(0, .ref h)] 73 [] from K9 (fun _ => 0) (fun _ _ => 0) (fun _ => rfl) (fun _ _ => rfl)
  intro F B hF0 hB0
  refine gk_aload_n G dX0_init_73 0 rfl ?_
  refine gk_iconst (v := nI 0) G dX0_init_74 (by decide) ?_
  refine gk_topi (fun v75 ev75 => ?_)
  refine gk_put (w' := (gs_W cI cZ h q (upd F 9 v75) B)) G hinX0 tyX0_ok nmX0 (q0 := 0) rfl rfl 9 (by decide) k40 rfl rfl rfl (Nat.le_of_ble_eq_true rfl) rfl dX0_init_75 ?_
  generalize eF75 : upd F 9 v75 = F75
  refine gk_aload_n G dX0_init_78 0 rfl ?_
  refine gk_iconst (v := nI 0) G dX0_init_79 (by decide) ?_
  refine gk_topi (fun v80 ev80 => ?_)
  refine gk_put (w' := (gs_W cI cZ h q (upd F75 10 v80) B)) G hinX0 tyX0_ok nmX0 (q0 := 0) rfl rfl 10 (by decide) k44 rfl rfl rfl (Nat.le_of_ble_eq_true rfl) rfl dX0_init_80 ?_
  generalize eF80 : upd F75 10 v80 = F80
  refine gk_aload_n G dX0_init_83 0 rfl ?_
  refine gk_iconst (v := nI 0) G dX0_init_84 (by decide) ?_
  refine gk_topi (fun v85 ev85 => ?_)
  refine gk_put (w' := (gs_W cI cZ h q (upd F80 11 v85) B)) G hinX0 tyX0_ok nmX0 (q0 := 0) rfl rfl 11 (by decide) k47 rfl rfl rfl (Nat.le_of_ble_eq_true rfl) rfl dX0_init_85 ?_
  generalize eF85 : upd F80 11 v85 = F85
  refine gk_aload_n G dX0_init_88 0 rfl ?_
  refine gk_iconst (v := nI 0) G dX0_init_89 (by decide) ?_
  refine gk_topi (fun v90 ev90 => ?_)
  refine gk_put (w' := (gs_W cI cZ h q (upd F85 12 v90) B)) G hinX0 tyX0_ok nmX0 (q0 := 0) rfl rfl 12 (by decide) k50 rfl rfl rfl (Nat.le_of_ble_eq_true rfl) rfl dX0_init_90 ?_
  generalize eF90 : upd F85 12 v90 = F90
  refine gk_aload_n G dX0_init_93 0 rfl ?_
  refine gk_iconst (v := nI 0) G dX0_init_94 (by decide) ?_
  refine gk_topi (fun v95 ev95 => ?_)
  refine gk_put (w' := (gs_W cI cZ h q (upd F90 13 v95) B)) G hinX0 tyX0_ok nmX0 (q0 := 0) rfl rfl 13 (by decide) k53 rfl rfl rfl (Nat.le_of_ble_eq_true rfl) rfl dX0_init_95 ?_
  generalize eF95 : upd F90 13 v95 = F95
  refine gk_aload_n G dX0_init_98 0 rfl ?_
  refine gk_iconst (v := nI 0) G dX0_init_99 (by decide) ?_
  refine gk_topi (fun v100 ev100 => ?_)
  refine gk_put (w' := (gs_W cI cZ h q (upd F95 14 v100) B)) G hinX0 tyX0_ok nmX0 (q0 := 0) rfl rfl 14 (by decide) k56 rfl rfl rfl (Nat.le_of_ble_eq_true rfl) rfl dX0_init_100 ?_
  generalize eF100 : upd F95 14 v100 = F100
  refine gk_aload_n G dX0_init_103 0 rfl ?_
  refine gk_iconst (v := nI 0) G dX0_init_104 (by decide) ?_
  refine gk_topi (fun v105 ev105 => ?_)
  refine gk_put (w' := (gs_W cI cZ h q (upd F100 15 v105) B)) G hinX0 tyX0_ok nmX0 (q0 := 0) rfl rfl 15 (by decide) k59 rfl (gk_nz (by rw [ev105]; exact Or.inl rfl)) (gk_fz (by rw [ev105]; exact Or.inl rfl)) (Nat.le_of_ble_eq_true rfl) rfl dX0_init_105 ?_
  generalize eF105 : upd F100 15 v105 = F105
  refine gk_iconst (v := nI 0) G dX0_init_108 (by decide) ?_
  refine gk_istore_n (lv' := [(1, .int (nI 0)), (0, .ref h)]) G dX0_init_109 rfl (by decide) rfl ?_
  have hF1 : ∀ j, F105 j = 0 := by
    intro j
    by_cases h15 : j = 15
    · rw [← eF105, h15, pk_us, ev105]; rfl
    rw [← eF105, pk_un h15]
    by_cases h14 : j = 14
    · rw [← eF100, h14, pk_us, ev100]; rfl
    rw [← eF100, pk_un h14]
    by_cases h13 : j = 13
    · rw [← eF95, h13, pk_us, ev95]; rfl
    rw [← eF95, pk_un h13]
    by_cases h12 : j = 12
    · rw [← eF90, h12, pk_us, ev90]; rfl
    rw [← eF90, pk_un h12]
    by_cases h11 : j = 11
    · rw [← eF85, h11, pk_us, ev85]; rfl
    rw [← eF85, pk_un h11]
    by_cases h10 : j = 10
    · rw [← eF80, h10, pk_us, ev80]; rfl
    rw [← eF80, pk_un h10]
    by_cases h9 : j = 9
    · rw [← eF75, h9, pk_us, ev75]; rfl
    rw [← eF75, pk_un h9]
    exact hF0 j
  generalize F105 = F1 at hF1 ⊢
  have L110 : ∀ (n : Nat) (k : Nat) (B1 : Nat → Nat → Int32), 12 - k < n → (k ≤ 12) → (B1 = fun r i => if r = 0 ∧ i < k then 5 else 0) → gk_C p l e ({ frames := 1, cells := 9, slots := 104, locals := 20 } : Room) s m ([.ref h] : List Value).toArray below meth c 2 D A Q 9 104 (gs_W cI cZ h q F1 B1) [(0, .ref h), (1, .int (nI k))] 110 [] := by
    intro n
    induction n with
    | zero => intro k B1 h0; exact absurd h0 (Nat.not_lt_zero _)
    | succ n ih =>
      intro k B1 h0 w0 w1
      refine gk_iload_n G dX0_init_110 1 rfl ?_
      refine gk_bipush (v := nI 12) G dX0_init_111 (by decide) ?_
      refine gk_icmp_ge (tgt := 129) G dX0_init_113 (by decide) (fun c_113 => ?_) (fun c_113 => ?_)
      · replace c_113 := (nI_leI (a := 12) (b := k) (by omega) (by omega)).mp c_113
        exact RET _ _ _ _ _ (q, F1, B1) dX0_init_129 (gm_i1 hF1 (by rw [show 12 = k by omega]; exact w1)) rfl (Nat.le_of_ble_eq_true rfl) (Nat.le_of_ble_eq_true rfl)
      · replace c_113 := (not_congr (nI_leI (a := 12) (b := k) (by omega) (by omega))).mp c_113
        refine gk_aload_n G dX0_init_116 0 rfl ?_
        refine gk_get (v' := .ref (q 0)) G hinX0 (q0 := 0) rfl rfl 0 (by decide) k9 rfl rfl dX0_init_117 ?_
        refine gk_iload_n G dX0_init_120 1 rfl ?_
        refine gk_iconst (v := nI 5) G dX0_init_121 (by decide) ?_
        refine gk_topi (fun v122 ev122 => ?_)
        refine gk_iast (w' := (gs_W cI cZ h q F1 (gc_up B1 0 (upd (B1 0) k v122)))) G (q0 := 1) (t0 := 0) rfl rfl k rfl (by omega) (by decide) rfl dX0_init_122 ?_
        generalize eB122 : gc_up B1 0 (upd (B1 0) k v122) = B122
        refine gk_iinc (j := 1) (v := nI (k + 1)) (lv' := [(1, .int (nI (k + 1))), (0, .ref h)]) G dX0_init_123 rfl (nI_add k 1) (by decide) rfl ?_
        refine gk_goto (tgt := 110) G dX0_init_126 (by decide) ?_
        exact gk_lsub [1,0] rfl (ih (k + 1) B122 (by omega) (by omega) (gm_i0 eB122 ev122 w1))
  exact gk_lsub [1,0] rfl (L110 13 0 B (by omega) (by omega) (by funext r i; rw [hB0, if_neg (by omega)]))
end
section
/-! THE CLASS: its cells, what it knows of the launch, methods that throw. Written by wip/p35/gen_x1.py -/
def gw_G (g h1 h2 : Nat) : va_W := [(g, .inr (1, [.ref h1, .ref h2]))]

def gn_ws : List Cond := [.fieldLinkNest RX1 26 "GustMill$State" "stoneCount" "I" "GustMill", .fieldLinkNest RX1 46 "GustMill$State" "winds" "[I" "GustMill", .fieldLinkNest RX1 54 "GustMill$State" "rule" "I" "GustMill", .fieldLinkNest RX1 57 "GustMill$State" "isTakingOff" "Z" "GustMill", .fieldLinkNest RX1 70 "GustMill$State" "sackCount" "I" "GustMill", .fieldLinkNest RX1 82 "GustMill$State" "stonesUnder" "[I" "GustMill", .fieldLinkNest RX1 90 "GustMill$State" "untils" "[I" "GustMill", .fieldLinkNest RX1 99 "GustMill$State" "hour" "I" "GustMill", .fieldLinkNest RX1 108 "GustMill$State" "sacksUpon" "[I" "GustMill", .fieldLinkNest RX1 111 "GustMill$State" "lefts" "[I" "GustMill", .fieldLinkNest RX1 114 "GustMill$State" "groundHours" "[I" "GustMill", .fieldLinkNest RX1 117 "GustMill$State" "groundCount" "I" "GustMill", .fieldLinkNest RX1 120 "GustMill$State" "changeCount" "I" "GustMill", .fieldLinkNest RX1 134 "GustMill$State" "bakers" "[I" "GustMill"]
def gn_E : (Nat → Prop) → State → Heap → Prop := fun _ U _ => ∀ w ∈ gn_ws, va_Nw w U
theorem gn_warm {u U : State} (hW : u.WarmedH U.vm) (h : ∀ w ∈ gn_ws, va_Nw w u) : ∀ w ∈ gn_ws, va_Nw w U :=
  (List.forall_mem_cons.mpr ⟨va_Nw.warmF hW (h _ (List.mem_of_getElem? (i := 0) rfl)), (List.forall_mem_cons.mpr ⟨va_Nw.warmF hW (h _ (List.mem_of_getElem? (i := 1) rfl)), (List.forall_mem_cons.mpr ⟨va_Nw.warmF hW (h _ (List.mem_of_getElem? (i := 2) rfl)), (List.forall_mem_cons.mpr ⟨va_Nw.warmF hW (h _ (List.mem_of_getElem? (i := 3) rfl)), (List.forall_mem_cons.mpr ⟨va_Nw.warmF hW (h _ (List.mem_of_getElem? (i := 4) rfl)), (List.forall_mem_cons.mpr ⟨va_Nw.warmF hW (h _ (List.mem_of_getElem? (i := 5) rfl)), (List.forall_mem_cons.mpr ⟨va_Nw.warmF hW (h _ (List.mem_of_getElem? (i := 6) rfl)), (List.forall_mem_cons.mpr ⟨va_Nw.warmF hW (h _ (List.mem_of_getElem? (i := 7) rfl)), (List.forall_mem_cons.mpr ⟨va_Nw.warmF hW (h _ (List.mem_of_getElem? (i := 8) rfl)), (List.forall_mem_cons.mpr ⟨va_Nw.warmF hW (h _ (List.mem_of_getElem? (i := 9) rfl)), (List.forall_mem_cons.mpr ⟨va_Nw.warmF hW (h _ (List.mem_of_getElem? (i := 10) rfl)), (List.forall_mem_cons.mpr ⟨va_Nw.warmF hW (h _ (List.mem_of_getElem? (i := 11) rfl)), (List.forall_mem_cons.mpr ⟨va_Nw.warmF hW (h _ (List.mem_of_getElem? (i := 12) rfl)), (List.forall_mem_cons.mpr ⟨va_Nw.warmF hW (h _ (List.mem_of_getElem? (i := 13) rfl)), (fun _ h9 => nomatch h9)⟩)⟩)⟩)⟩)⟩)⟩)⟩)⟩)⟩)⟩)⟩)⟩)⟩)⟩)
theorem gn_tabs : ∀ w ∈ gn_ws, w.onTables = true := by decide +kernel
theorem gn_ok : gk_Ok gn_E := by
  intro A B u U H H1 hvm hor hB hz hk h
  rcases hor with hW | e
  · exact gn_warm hW h
  · exact fun w hw => va_Nw.same (gn_tabs w hw) e.symm (h w hw)
section GN
variable {A : Nat → Prop} {s : State} {args : Array Value}
theorem gn_26 (h : gn_E A s s.heap) : (Cond.fieldLinkNest RX1 26 "GustMill$State" "stoneCount" "I" "GustMill").before args s = true := va_Nw.use rfl (h _ (List.mem_of_getElem? (i := 0) rfl))
theorem gn_46 (h : gn_E A s s.heap) : (Cond.fieldLinkNest RX1 46 "GustMill$State" "winds" "[I" "GustMill").before args s = true := va_Nw.use rfl (h _ (List.mem_of_getElem? (i := 1) rfl))
theorem gn_54 (h : gn_E A s s.heap) : (Cond.fieldLinkNest RX1 54 "GustMill$State" "rule" "I" "GustMill").before args s = true := va_Nw.use rfl (h _ (List.mem_of_getElem? (i := 2) rfl))
theorem gn_57 (h : gn_E A s s.heap) : (Cond.fieldLinkNest RX1 57 "GustMill$State" "isTakingOff" "Z" "GustMill").before args s = true := va_Nw.use rfl (h _ (List.mem_of_getElem? (i := 3) rfl))
theorem gn_70 (h : gn_E A s s.heap) : (Cond.fieldLinkNest RX1 70 "GustMill$State" "sackCount" "I" "GustMill").before args s = true := va_Nw.use rfl (h _ (List.mem_of_getElem? (i := 4) rfl))
theorem gn_82 (h : gn_E A s s.heap) : (Cond.fieldLinkNest RX1 82 "GustMill$State" "stonesUnder" "[I" "GustMill").before args s = true := va_Nw.use rfl (h _ (List.mem_of_getElem? (i := 5) rfl))
theorem gn_90 (h : gn_E A s s.heap) : (Cond.fieldLinkNest RX1 90 "GustMill$State" "untils" "[I" "GustMill").before args s = true := va_Nw.use rfl (h _ (List.mem_of_getElem? (i := 6) rfl))
theorem gn_99 (h : gn_E A s s.heap) : (Cond.fieldLinkNest RX1 99 "GustMill$State" "hour" "I" "GustMill").before args s = true := va_Nw.use rfl (h _ (List.mem_of_getElem? (i := 7) rfl))
theorem gn_108 (h : gn_E A s s.heap) : (Cond.fieldLinkNest RX1 108 "GustMill$State" "sacksUpon" "[I" "GustMill").before args s = true := va_Nw.use rfl (h _ (List.mem_of_getElem? (i := 8) rfl))
theorem gn_111 (h : gn_E A s s.heap) : (Cond.fieldLinkNest RX1 111 "GustMill$State" "lefts" "[I" "GustMill").before args s = true := va_Nw.use rfl (h _ (List.mem_of_getElem? (i := 9) rfl))
theorem gn_114 (h : gn_E A s s.heap) : (Cond.fieldLinkNest RX1 114 "GustMill$State" "groundHours" "[I" "GustMill").before args s = true := va_Nw.use rfl (h _ (List.mem_of_getElem? (i := 10) rfl))
theorem gn_117 (h : gn_E A s s.heap) : (Cond.fieldLinkNest RX1 117 "GustMill$State" "groundCount" "I" "GustMill").before args s = true := va_Nw.use rfl (h _ (List.mem_of_getElem? (i := 11) rfl))
theorem gn_120 (h : gn_E A s s.heap) : (Cond.fieldLinkNest RX1 120 "GustMill$State" "changeCount" "I" "GustMill").before args s = true := va_Nw.use rfl (h _ (List.mem_of_getElem? (i := 12) rfl))
theorem gn_134 (h : gn_E A s s.heap) : (Cond.fieldLinkNest RX1 134 "GustMill$State" "bakers" "[I" "GustMill").before args s = true := va_Nw.use rfl (h _ (List.mem_of_getElem? (i := 13) rfl))
end GN
end
section
abbrev gw_U : Type := ((Nat → Int32) × (Nat → Nat → Int32)) × ((Nat → Int32) × (Nat → Nat → Int32))
def gw_X (cI cZ : ClassId) (g h1 h2 : Nat) (q q2 : Nat → Nat) (u : gw_U) : va_W := gw_G g h1 h2 ++ (gs_W cI cZ h1 q u.1.1 u.1.2 ++ (gs_W cI cZ h2 q2 u.2.1 u.2.2))
theorem gm_rgT {p : Int32} {lo hi : Nat} (hh : hi ≤ 2000000) (h1 : (lo : Int) ≤ p.toInt) (h2 : p.toInt < (hi : Int)) : gm_rg p lo hi := by
  refine ⟨p.toInt.toNat, by omega, by omega, ?_⟩
  apply Int32.toInt_inj.mp
  rw [nI_toInt (by omega)]; omega
set_option maxRecDepth 100000 in
set_option maxHeartbeats 1000000 in
theorem c1_requireRule_ok (l : Launch) (D : va_G) (cI cZ cJ : ClassId) (v : Nat) (hv0 : 0 ≤ v) (hv : v < 3) : gk_V l yX1_requireRule wsX1_requireRule ({ frames := 0, cells := 0, slots := 0, locals := 0 } : Room) D (g_T cI cZ cJ) gk_E0 [.int (nI v)] ([] : va_W) 0 0 (fun (u : Unit) => True) (fun u => ([] : va_W)) := by
  refine gk_V_of (cc := cX1_requireRule) (nL := 1) (by decide +kernel) rfl (Nat.le_of_ble_eq_true rfl) ?_
  intro p e s m below meth c A Q hnm hE G RET
  refine gk_iload_n G dX1_requireRule_0 0 rfl ?_
  refine gk_if_lt (tgt := 9) G dX1_requireRule_1 (by decide) (fun c_1 => ?_) (fun c_1 => ?_)
  · replace c_1 := (nI_ltI (a := v) (b := 0) (by omega) (by omega)).mp c_1
    exact absurd c_1 (by omega)
  · replace c_1 := (not_congr (nI_ltI (a := v) (b := 0) (by omega) (by omega))).mp c_1
    refine gk_iload_n G dX1_requireRule_4 0 rfl ?_
    refine gk_iconst (v := nI 3) G dX1_requireRule_5 (by decide) ?_
    refine gk_icmp_lt (tgt := 19) G dX1_requireRule_6 (by decide) (fun c_6 => ?_) (fun c_6 => ?_)
    · replace c_6 := (nI_ltI (a := v) (b := 3) (by omega) (by omega)).mp c_6
      exact RET _ _ _ _ _ () dX1_requireRule_19 trivial rfl (Nat.le_of_ble_eq_true rfl) (Nat.le_of_ble_eq_true rfl)
    · replace c_6 := (not_congr (nI_ltI (a := v) (b := 3) (by omega) (by omega))).mp c_6
      exact absurd c_6 (by omega)
set_option maxRecDepth 100000 in
set_option maxHeartbeats 1000000 in
theorem c1_requireBaker_ok (l : Launch) (D : va_G) (cI cZ cJ : ClassId) (v : Nat) (hv0 : 0 ≤ v) (hv : v < 8) : gk_V l yX1_requireBaker wsX1_requireBaker ({ frames := 0, cells := 0, slots := 0, locals := 0 } : Room) D (g_T cI cZ cJ) gk_E0 [.int (nI v)] ([] : va_W) 0 0 (fun (u : Unit) => True) (fun u => ([] : va_W)) := by
  refine gk_V_of (cc := cX1_requireBaker) (nL := 1) (by decide +kernel) rfl (Nat.le_of_ble_eq_true rfl) ?_
  intro p e s m below meth c A Q hnm hE G RET
  refine gk_iload_n G dX1_requireBaker_0 0 rfl ?_
  refine gk_if_lt (tgt := 10) G dX1_requireBaker_1 (by decide) (fun c_1 => ?_) (fun c_1 => ?_)
  · replace c_1 := (nI_ltI (a := v) (b := 0) (by omega) (by omega)).mp c_1
    exact absurd c_1 (by omega)
  · replace c_1 := (not_congr (nI_ltI (a := v) (b := 0) (by omega) (by omega))).mp c_1
    refine gk_iload_n G dX1_requireBaker_4 0 rfl ?_
    refine gk_bipush (v := nI 8) G dX1_requireBaker_5 (by decide) ?_
    refine gk_icmp_lt (tgt := 20) G dX1_requireBaker_7 (by decide) (fun c_7 => ?_) (fun c_7 => ?_)
    · replace c_7 := (nI_ltI (a := v) (b := 8) (by omega) (by omega)).mp c_7
      exact RET _ _ _ _ _ () dX1_requireBaker_20 trivial rfl (Nat.le_of_ble_eq_true rfl) (Nat.le_of_ble_eq_true rfl)
    · replace c_7 := (not_congr (nI_ltI (a := v) (b := 8) (by omega) (by omega))).mp c_7
      exact absurd c_7 (by omega)
set_option maxRecDepth 100000 in
set_option maxHeartbeats 1000000 in
theorem c1_requireGrain_ok (l : Launch) (D : va_G) (cI cZ cJ : ClassId) (v : Nat) (hv0 : 1 ≤ v) (hv : v < 61) : gk_V l yX1_requireGrain wsX1_requireGrain ({ frames := 0, cells := 0, slots := 0, locals := 0 } : Room) D (g_T cI cZ cJ) gk_E0 [.int (nI v)] ([] : va_W) 0 0 (fun (u : Unit) => True) (fun u => ([] : va_W)) := by
  refine gk_V_of (cc := cX1_requireGrain) (nL := 1) (by decide +kernel) rfl (Nat.le_of_ble_eq_true rfl) ?_
  intro p e s m below meth c A Q hnm hE G RET
  refine gk_iload_n G dX1_requireGrain_0 0 rfl ?_
  refine gk_iconst (v := nI 1) G dX1_requireGrain_1 (by decide) ?_
  refine gk_icmp_lt (tgt := 11) G dX1_requireGrain_2 (by decide) (fun c_2 => ?_) (fun c_2 => ?_)
  · replace c_2 := (nI_ltI (a := v) (b := 1) (by omega) (by omega)).mp c_2
    exact absurd c_2 (by omega)
  · replace c_2 := (not_congr (nI_ltI (a := v) (b := 1) (by omega) (by omega))).mp c_2
    refine gk_iload_n G dX1_requireGrain_5 0 rfl ?_
    refine gk_bipush (v := nI 60) G dX1_requireGrain_6 (by decide) ?_
    refine gk_icmp_le (tgt := 21) G dX1_requireGrain_8 (by decide) (fun c_8 => ?_) (fun c_8 => ?_)
    · replace c_8 := (nI_leI (a := v) (b := 60) (by omega) (by omega)).mp c_8
      exact RET _ _ _ _ _ () dX1_requireGrain_21 trivial rfl (Nat.le_of_ble_eq_true rfl) (Nat.le_of_ble_eq_true rfl)
    · replace c_8 := (not_congr (nI_leI (a := v) (b := 60) (by omega) (by omega))).mp c_8
      exact absurd c_8 (by omega)
set_option maxRecDepth 100000 in
set_option maxHeartbeats 1000000 in
theorem c1_requireUntil_ok (l : Launch) (D : va_G) (cI cZ cJ : ClassId) (v : Nat) (hv0 : 1 ≤ v) (hv : v < 201) : gk_V l yX1_requireUntil wsX1_requireUntil ({ frames := 0, cells := 0, slots := 0, locals := 0 } : Room) D (g_T cI cZ cJ) gk_E0 [.int (nI v)] ([] : va_W) 0 0 (fun (u : Unit) => True) (fun u => ([] : va_W)) := by
  refine gk_V_of (cc := cX1_requireUntil) (nL := 1) (by decide +kernel) rfl (Nat.le_of_ble_eq_true rfl) ?_
  intro p e s m below meth c A Q hnm hE G RET
  refine gk_iload_n G dX1_requireUntil_0 0 rfl ?_
  refine gk_iconst (v := nI 1) G dX1_requireUntil_1 (by decide) ?_
  refine gk_icmp_lt (tgt := 12) G dX1_requireUntil_2 (by decide) (fun c_2 => ?_) (fun c_2 => ?_)
  · replace c_2 := (nI_ltI (a := v) (b := 1) (by omega) (by omega)).mp c_2
    exact absurd c_2 (by omega)
  · replace c_2 := (not_congr (nI_ltI (a := v) (b := 1) (by omega) (by omega))).mp c_2
    refine gk_iload_n G dX1_requireUntil_5 0 rfl ?_
    refine gk_sipush (v := nI 200) G dX1_requireUntil_6 (by decide) ?_
    refine gk_icmp_le (tgt := 22) G dX1_requireUntil_9 (by decide) (fun c_9 => ?_) (fun c_9 => ?_)
    · replace c_9 := (nI_leI (a := v) (b := 200) (by omega) (by omega)).mp c_9
      exact RET _ _ _ _ _ () dX1_requireUntil_22 trivial rfl (Nat.le_of_ble_eq_true rfl) (Nat.le_of_ble_eq_true rfl)
    · replace c_9 := (not_congr (nI_leI (a := v) (b := 200) (by omega) (by omega))).mp c_9
      exact absurd c_9 (by omega)
set_option maxRecDepth 100000 in
set_option maxHeartbeats 1000000 in
theorem c1_requireHours_ok (l : Launch) (D : va_G) (cI cZ cJ : ClassId) (v : Nat) (hv0 : 1 ≤ v) (hv : v < 61) : gk_V l yX1_requireHours wsX1_requireHours ({ frames := 0, cells := 0, slots := 0, locals := 0 } : Room) D (g_T cI cZ cJ) gk_E0 [.int (nI v)] ([] : va_W) 0 0 (fun (u : Unit) => True) (fun u => ([] : va_W)) := by
  refine gk_V_of (cc := cX1_requireHours) (nL := 1) (by decide +kernel) rfl (Nat.le_of_ble_eq_true rfl) ?_
  intro p e s m below meth c A Q hnm hE G RET
  refine gk_iload_n G dX1_requireHours_0 0 rfl ?_
  refine gk_iconst (v := nI 1) G dX1_requireHours_1 (by decide) ?_
  refine gk_icmp_lt (tgt := 11) G dX1_requireHours_2 (by decide) (fun c_2 => ?_) (fun c_2 => ?_)
  · replace c_2 := (nI_ltI (a := v) (b := 1) (by omega) (by omega)).mp c_2
    exact absurd c_2 (by omega)
  · replace c_2 := (not_congr (nI_ltI (a := v) (b := 1) (by omega) (by omega))).mp c_2
    refine gk_iload_n G dX1_requireHours_5 0 rfl ?_
    refine gk_bipush (v := nI 60) G dX1_requireHours_6 (by decide) ?_
    refine gk_icmp_le (tgt := 21) G dX1_requireHours_8 (by decide) (fun c_8 => ?_) (fun c_8 => ?_)
    · replace c_8 := (nI_leI (a := v) (b := 60) (by omega) (by omega)).mp c_8
      exact RET _ _ _ _ _ () dX1_requireHours_21 trivial rfl (Nat.le_of_ble_eq_true rfl) (Nat.le_of_ble_eq_true rfl)
    · replace c_8 := (not_congr (nI_leI (a := v) (b := 60) (by omega) (by omega))).mp c_8
      exact absurd c_8 (by omega)
set_option maxRecDepth 100000 in
set_option maxHeartbeats 1000000 in
theorem c1_requireSack_ok (l : Launch) (D : va_G) (cI cZ cJ : ClassId) (g h1 h2 : Nat) (q : Nat → Nat) (F : Nat → Int32) (B : Nat → Nat → Int32) (q2 : Nat → Nat) (F2 : Nat → Int32) (B2 : Nat → Nat → Int32) (M : gm_M) (v : Nat) (wf : gm_wf M) (hr : gc_rep F B M) (hv : v < M 11 0) : gk_V l yX1_requireSack wsX1_requireSack ({ frames := 0, cells := 0, slots := 0, locals := 0 } : Room) D (g_T cI cZ cJ) gn_E [.ref g, .int (nI v)] (gw_G g h1 h2 ++ (gs_W cI cZ h1 q F B ++ (gs_W cI cZ h2 q2 F2 B2))) 0 0 (fun (u : Unit) => True) (fun u => (gw_G g h1 h2 ++ (gs_W cI cZ h1 q F B ++ (gs_W cI cZ h2 q2 F2 B2)))) := by
  refine gk_V_of (cc := cX1_requireSack) (nL := 2) (by decide +kernel) rfl (Nat.le_of_ble_eq_true rfl) ?_
  intro p e s m below meth c A Q hnm hE G RET
  obtain ⟨hz1, hz2, hz3, hz4, hz5, hz6, hz7, hz8⟩ := id wf
  have hinX0 : ∀ w ∈ wsX00, w ∈ wsX1_requireSack := fun w h9 => (List.mem_cons_of_mem _ (List.mem_append_left _ (List.mem_append_right _ h9)))
  have hinX1 : ∀ w ∈ wsX10, w ∈ wsX1_requireSack := fun w h9 => (List.mem_cons_of_mem _ (List.mem_append_left _ (List.mem_append_left _ (List.mem_append_right _ h9))))
  have k10 := G.2.2.2.2.1 (.fieldLink RX1 10 "GustMill" "now" "LGustMill$State;") (List.mem_cons_of_mem _ (List.mem_append_left _ (List.mem_append_left _ (List.mem_append_left _ (List.mem_of_getElem? (i := 2) rfl)))))
  have kN70 := gn_70 (args := ([.ref g, .int (nI v)] : List Value).toArray) hE
  refine gk_iload_n G dX1_requireSack_0 1 rfl ?_
  refine gk_if_lt (tgt := 15) G dX1_requireSack_1 (by decide) (fun c_1 => ?_) (fun c_1 => ?_)
  · replace c_1 := (nI_ltI (a := v) (b := 0) (by omega) (by omega)).mp c_1
    exact absurd c_1 (by omega)
  · replace c_1 := (not_congr (nI_ltI (a := v) (b := 0) (by omega) (by omega))).mp c_1
    refine gk_iload_n G dX1_requireSack_4 1 rfl ?_
    refine gk_aload_n G dX1_requireSack_5 0 rfl ?_
    refine gk_get (v' := .ref h1) G hinX1 (q0 := 0) rfl rfl 0 (by decide) k10 rfl rfl dX1_requireSack_6 ?_
    refine gk_getN (v' := .int (nI (M 11 0))) G hinX0 (q0 := 1) rfl rfl 11 (by decide) kN70 rfl (congrArg Value.int (hr.1.2.2.1)) dX1_requireSack_9 ?_
    refine gk_icmp_lt (tgt := 25) G dX1_requireSack_12 (by decide) (fun c_12 => ?_) (fun c_12 => ?_)
    · replace c_12 := (nI_ltI (a := v) (b := M 11 0) (by omega) (by omega)).mp c_12
      exact RET _ _ _ _ _ () dX1_requireSack_25 trivial rfl (Nat.le_of_ble_eq_true rfl) (Nat.le_of_ble_eq_true rfl)
    · replace c_12 := (not_congr (nI_ltI (a := v) (b := M 11 0) (by omega) (by omega))).mp c_12
      exact absurd c_12 (by omega)
end
section
theorem gc_rep_set0 {F : Nat → Int32} {B : Nat → Nat → Int32} {M : gm_M} {v x : Nat} (h : gc_rep F B M) : gc_rep F (gc_up B 0 (upd (B 0) v (nI x))) (gm_set M 0 v x) := by
  obtain ⟨⟨f9, f10, f11, f12, f13, f14, f15⟩, r0, r1, r2, r4, r5, r6, r7, r8⟩ := h
  have e : ∀ k i, k ≠ 0 → gm_set M 0 v x k i = M k i := fun k i hk => gm_set_k M i hk
  have ew : ∀ i, gm_who (gm_set M 0 v x) i (M 11 0) = gm_who M i (M 11 0) := fun i => gm_who_congr _ (fun k _ => e 7 k (by decide))
  refine ⟨⟨f9, f10, f11, ?_, f13, f14, f15⟩, fun i hi => ?_, ?_, ?_, ?_, ?_, ?_, ?_, ?_⟩
  · rw [f12, e 11 0 (by decide), gm_gct_congr (X := gm_set M 0 v x) _ (fun k _ => e 8 k (by decide))]
  · rw [gc_up_at]
    by_cases q : i = v
    · subst q; rw [pk_us, gm_set_at]
    · rw [pk_un q, gm_set_i _ _ q]; exact r0 i hi
  · intro i hi; rw [gc_up_ne _ _ (by decide)]; exact r1 i hi
  · intro i hi; rw [gc_up_ne _ _ (by decide), e 11 0 (by decide), ew]; exact r2 i hi
  · intro i hi; rw [gc_up_ne _ _ (by decide)]; exact r4 i hi
  · intro i hi; rw [gc_up_ne _ _ (by decide)]; exact r5 i hi
  · intro i hi; rw [gc_up_ne _ _ (by decide)]; exact r6 i hi
  · intro i hi; rw [gc_up_ne _ _ (by decide)]; exact r7 i hi
  · intro i hi; rw [gc_up_ne _ _ (by decide)]; exact r8 i hi
theorem gc_rep_set6 {F : Nat → Int32} {B : Nat → Nat → Int32} {M : gm_M} {v x : Nat} (h : gc_rep F B M) : gc_rep F (gc_up B 6 (upd (B 6) v (nI x))) (gm_set M 6 v x) := by
  obtain ⟨⟨f9, f10, f11, f12, f13, f14, f15⟩, r0, r1, r2, r4, r5, r6, r7, r8⟩ := h
  have e : ∀ k i, k ≠ 6 → gm_set M 6 v x k i = M k i := fun k i hk => gm_set_k M i hk
  have ew : ∀ i, gm_who (gm_set M 6 v x) i (M 11 0) = gm_who M i (M 11 0) := fun i => gm_who_congr _ (fun k _ => e 7 k (by decide))
  refine ⟨⟨f9, f10, f11, ?_, f13, f14, f15⟩, ?_, ?_, ?_, ?_, ?_, fun i hi => ?_, ?_, ?_⟩
  · rw [f12, e 11 0 (by decide), gm_gct_congr (X := gm_set M 6 v x) _ (fun k _ => e 8 k (by decide))]
  · intro i hi; rw [gc_up_ne _ _ (by decide)]; exact r0 i hi
  · intro i hi; rw [gc_up_ne _ _ (by decide)]; exact r1 i hi
  · intro i hi; rw [gc_up_ne _ _ (by decide), e 11 0 (by decide), ew]; exact r2 i hi
  · intro i hi; rw [gc_up_ne _ _ (by decide)]; exact r4 i hi
  · intro i hi; rw [gc_up_ne _ _ (by decide)]; exact r5 i hi
  · rw [gc_up_at]
    by_cases q : i = v
    · subst q; rw [pk_us, gm_set_at]
    · rw [pk_un q, gm_set_i _ _ q]; exact r6 i hi
  · intro i hi; rw [gc_up_ne _ _ (by decide)]; exact r7 i hi
  · intro i hi; rw [gc_up_ne _ _ (by decide)]; exact r8 i hi
theorem gc_rep_F {F F' : Nat → Int32} {B : Nat → Nat → Int32} {M X : gm_M} {j : Nat} (h : gc_rep F B M) (hj : j = 14 ∨ j = 15) (e : ∀ k i, k ≠ j → X k i = M k i) (e1 : F' j = nI (X j 0)) (e2 : ∀ k, k ≠ j → F' k = F k) : gc_rep F' B X := by
  obtain ⟨⟨f9, f10, f11, f12, f13, f14, f15⟩, r0, r1, r2, r4, r5, r6, r7, r8⟩ := h
  have ew : ∀ i, gm_who X i (M 11 0) = gm_who M i (M 11 0) := fun i => gm_who_congr _ (fun k _ => e 7 k (by omega))
  have e11 := e 11 0 (by omega)
  have e10 := e 10 0 (by omega)
  have g14 : F' 14 = nI (X 14 0) := by
    by_cases q : j = 14
    · subst q; exact e1
    · rw [e2 14 (by omega), f14, e 14 0 (by omega)]
  have g15 : F' 15 = nI (X 15 0) := by
    by_cases q : j = 15
    · subst q; exact e1
    · rw [e2 15 (by omega), f15, e 15 0 (by omega)]
  refine ⟨⟨?_, ?_, ?_, ?_, ?_, g14, g15⟩, ?_, ?_, ?_, ?_, ?_, ?_, ?_, ?_⟩
  · rw [e2 9 (by omega), f9, e 9 0 (by omega)]
  · rw [e2 10 (by omega), f10, e10]
  · rw [e2 11 (by omega), f11, e11]
  · rw [e2 12 (by omega), f12, e11, gm_gct_congr (X := X) _ (fun k _ => e 8 k (by omega))]
  · rw [e2 13 (by omega), f13, e 13 0 (by omega)]
  · intro i hi; rw [r0 i hi, e 0 i (by omega)]
  · intro i hi; rw [r1 i (by omega), e 1 i (by omega)]
  · intro i hi; rw [e11, ew]; exact r2 i (by omega)
  · intro i hi; rw [r4 i (by omega), e 4 i (by omega)]
  · intro i hi; rw [r5 i (by omega), e 5 i (by omega)]
  · intro i hi; rw [r6 i (by omega), e 6 i (by omega)]
  · intro i hi; rw [r7 i (by omega), e 7 i (by omega)]
  · intro i hi; rw [r8 i (by omega), e 8 i (by omega)]
theorem gc_rep_set14 {F : Nat → Int32} {B : Nat → Nat → Int32} {M : gm_M} {x : Nat} (h : gc_rep F B M) : gc_rep (upd F 14 (nI x)) B (gm_set M 14 0 x) :=
  gc_rep_F h (Or.inl rfl) (fun k i hk => gm_set_k M i hk) (by rw [pk_us, gm_set_at]) (fun k hk => pk_un hk)
theorem gc_rep_set15 {F : Nat → Int32} {B : Nat → Nat → Int32} {M : gm_M} {x : Nat} (h : gc_rep F B M) : gc_rep (upd F 15 (nI x)) B (gm_set M 15 0 x) :=
  gc_rep_F h (Or.inr rfl) (fun k i hk => gm_set_k M i hk) (by rw [pk_us, gm_set_at]) (fun k hk => pk_un hk)
theorem gm_clr_one {M : gm_M} {v : Nat} (hap : gm_ap M) (hv : v < M 11 0) (h0 : M 7 v ≠ 0) : gm_same (gm_clr M (M 7 v - 1)) (gm_set M 7 v 0) := by
  intro k i hk
  rw [gm_clr_ne M _ 0 (by decide)] at hk
  by_cases h7 : k = 7
  · subst h7
    rw [gm_clr_7]
    by_cases q : i = v
    · subst q; rw [gm_set_at, if_pos (by omega)]
    · rw [gm_set_i _ _ q]
      by_cases z : M 7 i = M 7 v - 1 + 1
      · exact absurd (hap i v (by omega) hv (by omega) (by omega)) q
      · rw [if_neg z]
  · rw [gm_set_k M i h7, gm_clr_ne M _ i h7]
set_option maxRecDepth 100000 in
set_option maxHeartbeats 1000000 in
theorem c1_addStone_ok (l : Launch) (D : va_G) (cI cZ cJ : ClassId) (g h1 h2 : Nat) (q : Nat → Nat) (F : Nat → Int32) (B : Nat → Nat → Int32) (q2 : Nat → Nat) (F2 : Nat → Int32) (B2 : Nat → Nat → Int32) (M : gm_M) (v : Nat) (wf : gm_wf M) (hr : gc_rep F B M) (hv0 : 1 ≤ v) (hv : v < 10) (h4 : M 10 0 < 4) : gk_I l yX1_addStone wsX1_addStone ({ frames := 1, cells := 0, slots := 0, locals := 22 } : Room) D (g_T cI cZ cJ) gn_E [.ref g, .int (nI v)] (gw_G g h1 h2 ++ (gs_W cI cZ h1 q F B ++ (gs_W cI cZ h2 q2 F2 B2))) 0 0 (fun (r : Int32) (u : gw_U) => r = nI (M 10 0) ∧ gc_rep u.1.1 u.1.2 (gm_adds M v)) (fun u => (gw_X cI cZ g h1 h2 q q2 u)) := by
  refine gk_I_of (ty := .int) (cc := cX1_addStone) (nL := 2) (by decide +kernel) rfl (Nat.le_of_ble_eq_true rfl) ?_
  intro p e s m below meth c A Q hnm hE G RET
  obtain ⟨hz1, hz2, hz3, hz4, hz5, hz6, hz7, hz8⟩ := id wf
  have hinX0 : ∀ w ∈ wsX00, w ∈ wsX1_addStone := fun w h9 => (List.mem_cons_of_mem _ (List.mem_append_left _ (List.mem_append_left _ (List.mem_append_right _ h9))))
  have hinX1 : ∀ w ∈ wsX10, w ∈ wsX1_addStone := fun w h9 => (List.mem_cons_of_mem _ (List.mem_append_left _ (List.mem_append_left _ (List.mem_append_left _ (List.mem_append_right _ h9)))))
  have k10 := G.2.2.2.2.1 (.fieldLink RX1 10 "GustMill" "now" "LGustMill$State;") (List.mem_cons_of_mem _ (List.mem_append_left _ (List.mem_append_left _ (List.mem_append_left _ (List.mem_append_left _ (List.mem_of_getElem? (i := 4) rfl))))))
  have kN26 := gn_26 (args := ([.ref g, .int (nI v)] : List Value).toArray) hE
  refine gk_iload_n G dX1_addStone_0 1 rfl ?_
  refine gk_iconst (v := nI 1) G dX1_addStone_1 (by decide) ?_
  refine gk_icmp_lt (tgt := 11) G dX1_addStone_2 (by decide) (fun c_2 => ?_) (fun c_2 => ?_)
  · replace c_2 := (nI_ltI (a := v) (b := 1) (by omega) (by omega)).mp c_2
    exact absurd c_2 (by omega)
  · replace c_2 := (not_congr (nI_ltI (a := v) (b := 1) (by omega) (by omega))).mp c_2
    refine gk_iload_n G dX1_addStone_5 1 rfl ?_
    refine gk_bipush (v := nI 9) G dX1_addStone_6 (by decide) ?_
    refine gk_icmp_le (tgt := 21) G dX1_addStone_8 (by decide) (fun c_8 => ?_) (fun c_8 => ?_)
    · replace c_8 := (nI_leI (a := v) (b := 9) (by omega) (by omega)).mp c_8
      refine gk_aload_n G dX1_addStone_21 0 rfl ?_
      refine gk_get (v' := .ref h1) G hinX1 (q0 := 0) rfl rfl 0 (by decide) k10 rfl rfl dX1_addStone_22 ?_
      refine gk_getN (v' := .int (nI (M 10 0))) G hinX0 (q0 := 1) rfl rfl 10 (by decide) kN26 rfl (congrArg Value.int (hr.1.2.1)) dX1_addStone_25 ?_
      refine gk_iconst (v := nI 4) G dX1_addStone_28 (by decide) ?_
      refine gk_icmp_lt (tgt := 42) G dX1_addStone_29 (by decide) (fun c_29 => ?_) (fun c_29 => ?_)
      · replace c_29 := (nI_ltI (a := M 10 0) (b := 4) (by omega) (by omega)).mp c_29
        refine gk_aload_n G dX1_addStone_42 0 rfl ?_
        refine gk_get (v' := .ref h1) G hinX1 (q0 := 0) rfl rfl 0 (by decide) k10 rfl rfl dX1_addStone_43 ?_
        refine gk_iload_n G dX1_addStone_46 1 rfl ?_
        refine gk_callIV (wr := (gw_G g h1 h2 ++ (gs_W cI cZ h2 q2 F2 B2))) G (c0_placeStone l D cI cZ cJ h1 q F B M v wf hr h4) gX1_addStone_X0_placeStone rfl 1 (by decide +kernel) rfl rfl ⟨(Nat.le_of_ble_eq_true rfl), (Nat.le_of_ble_eq_true rfl)⟩ rfl (q0 := 0) rfl (T := TX0) (N := 16) rfl gk_ok0 trivial [1, 2, 3, 4, 5, 6, 7, 8, 9, 10] rfl (by decide) [0, 11, 12, 13, 14, 15, 16, 17, 18, 19, 20] rfl (by decide) (by decide) rfl (Nat.le_of_ble_eq_true rfl) dX1_addStone_47 ⟨(Nat.le_of_ble_eq_true rfl), (Nat.le_of_ble_eq_true rfl)⟩ (fun r47 u47 hp47 => ?_)
        obtain ⟨F47, B47⟩ := u47
        have hr47 : gc_rep F47 B47 (gm_adds M v) := hp47.2
        obtain rfl : r47 = nI (M 10 0) := hp47.1
        refine gk_wsub (w' := (gw_G g h1 h2 ++ (gs_W cI cZ h1 q F47 B47 ++ (gs_W cI cZ h2 q2 F2 B2)))) [0, 11, 12, 13, 14, 15, 16, 17, 18, 19, 20, 1, 2, 3, 4, 5, 6, 7, 8, 9, 10] rfl (by decide) ?_
        show gk_C p l e ({ frames := 1, cells := 0, slots := 0, locals := 22 } : Room) s m ([.ref g, .int (nI v)] : List Value).toArray below meth c 2 D A Q 0 0 (gw_G g h1 h2 ++ (gs_W cI cZ h1 q F47 B47 ++ (gs_W cI cZ h2 q2 F2 B2))) [(0, .ref g), (1, .int (nI v))] 50 [.int (nI (M 10 0))]
        exact RET _ _ _ _ _ _ ((F47, B47), (F2, B2)) dX1_addStone_50 rfl ⟨rfl, hr47⟩ rfl (Nat.le_of_ble_eq_true rfl) (Nat.le_of_ble_eq_true rfl)
      · replace c_29 := (not_congr (nI_ltI (a := M 10 0) (b := 4) (by omega) (by omega))).mp c_29
        exact absurd c_29 (by omega)
    · replace c_8 := (not_congr (nI_leI (a := v) (b := 9) (by omega) (by omega))).mp c_8
      exact absurd c_8 (by omega)
set_option maxRecDepth 100000 in
set_option maxHeartbeats 1000000 in
theorem c1_setWind_ok (l : Launch) (D : va_G) (cI cZ cJ : ClassId) (g h1 h2 : Nat) (q : Nat → Nat) (F : Nat → Int32) (B : Nat → Nat → Int32) (q2 : Nat → Nat) (F2 : Nat → Int32) (B2 : Nat → Nat → Int32) (M : gm_M) (v x : Nat) (wf : gm_wf M) (hr : gc_rep F B M) (hv : v < 12) (hx : x < 21) : gk_I l yX1_setWind wsX1_setWind ({ frames := 0, cells := 0, slots := 0, locals := 0 } : Room) D (g_T cI cZ cJ) gn_E [.ref g, .int (nI v), .int (nI x)] (gw_G g h1 h2 ++ (gs_W cI cZ h1 q F B ++ (gs_W cI cZ h2 q2 F2 B2))) 0 0 (fun (r : Int32) (u : gw_U) => r = nI (M 0 v) ∧ gc_rep u.1.1 u.1.2 (gm_set M 0 v x)) (fun u => (gw_X cI cZ g h1 h2 q q2 u)) := by
  refine gk_I_of (ty := .int) (cc := cX1_setWind) (nL := 4) (by decide +kernel) rfl (Nat.le_of_ble_eq_true rfl) ?_
  intro p e s m below meth c A Q hnm hE G RET
  obtain ⟨hz1, hz2, hz3, hz4, hz5, hz6, hz7, hz8⟩ := id wf
  have hinX0 : ∀ w ∈ wsX00, w ∈ wsX1_setWind := fun w h9 => (List.mem_cons_of_mem _ (List.mem_append_left _ (List.mem_append_left _ (List.mem_append_right _ h9))))
  have hinX1 : ∀ w ∈ wsX10, w ∈ wsX1_setWind := fun w h9 => (List.mem_cons_of_mem _ (List.mem_append_left _ (List.mem_append_left _ (List.mem_append_left _ (List.mem_append_right _ h9)))))
  have k10 := G.2.2.2.2.1 (.fieldLink RX1 10 "GustMill" "now" "LGustMill$State;") (List.mem_cons_of_mem _ (List.mem_append_left _ (List.mem_append_left _ (List.mem_append_left _ (List.mem_append_left _ (List.mem_of_getElem? (i := 4) rfl))))))
  have kN46 := gn_46 (args := ([.ref g, .int (nI v), .int (nI x)] : List Value).toArray) hE
  refine gk_iload_n G dX1_setWind_0 1 rfl ?_
  refine gk_if_lt (tgt := 10) G dX1_setWind_1 (by decide) (fun c_1 => ?_) (fun c_1 => ?_)
  · replace c_1 := (nI_ltI (a := v) (b := 0) (by omega) (by omega)).mp c_1
    exact absurd c_1 (by omega)
  · replace c_1 := (not_congr (nI_ltI (a := v) (b := 0) (by omega) (by omega))).mp c_1
    refine gk_iload_n G dX1_setWind_4 1 rfl ?_
    refine gk_bipush (v := nI 12) G dX1_setWind_5 (by decide) ?_
    refine gk_icmp_lt (tgt := 20) G dX1_setWind_7 (by decide) (fun c_7 => ?_) (fun c_7 => ?_)
    · replace c_7 := (nI_ltI (a := v) (b := 12) (by omega) (by omega)).mp c_7
      refine gk_iload_n G dX1_setWind_20 2 rfl ?_
      refine gk_if_lt (tgt := 30) G dX1_setWind_21 (by decide) (fun c_21 => ?_) (fun c_21 => ?_)
      · replace c_21 := (nI_ltI (a := x) (b := 0) (by omega) (by omega)).mp c_21
        exact absurd c_21 (by omega)
      · replace c_21 := (not_congr (nI_ltI (a := x) (b := 0) (by omega) (by omega))).mp c_21
        refine gk_iload_n G dX1_setWind_24 2 rfl ?_
        refine gk_bipush (v := nI 20) G dX1_setWind_25 (by decide) ?_
        refine gk_icmp_le (tgt := 40) G dX1_setWind_27 (by decide) (fun c_27 => ?_) (fun c_27 => ?_)
        · replace c_27 := (nI_leI (a := x) (b := 20) (by omega) (by omega)).mp c_27
          refine gk_aload_n G dX1_setWind_40 0 rfl ?_
          refine gk_get (v' := .ref h1) G hinX1 (q0 := 0) rfl rfl 0 (by decide) k10 rfl rfl dX1_setWind_41 ?_
          refine gk_getN (v' := .ref (q 0)) G hinX0 (q0 := 1) rfl rfl 0 (by decide) kN46 rfl rfl dX1_setWind_44 ?_
          refine gk_iload_n G dX1_setWind_47 1 rfl ?_
          refine gk_iald (v := nI (M 0 v)) G (q0 := 2) (t0 := 0) rfl rfl v rfl (by omega) (by decide) (hr.2.1 v (by omega)) dX1_setWind_48 ?_
          refine gk_istore_n (lv' := [(3, .int (nI (M 0 v))), (0, .ref g), (1, .int (nI v)), (2, .int (nI x))]) G dX1_setWind_49 rfl (by decide) rfl ?_
          refine gk_aload_n G dX1_setWind_50 1 rfl ?_
          refine gk_get (v' := .ref h1) G hinX1 (q0 := 0) rfl rfl 0 (by decide) k10 rfl rfl dX1_setWind_51 ?_
          refine gk_getN (v' := .ref (q 0)) G hinX0 (q0 := 1) rfl rfl 0 (by decide) kN46 rfl rfl dX1_setWind_54 ?_
          refine gk_iload_n G dX1_setWind_57 2 rfl ?_
          refine gk_iload_n G dX1_setWind_58 3 rfl ?_
          refine gk_topi (fun v59 ev59 => ?_)
          refine gk_iast (w' := (gw_G g h1 h2 ++ (gs_W cI cZ h1 q F (gc_up B 0 (upd (B 0) v v59)) ++ (gs_W cI cZ h2 q2 F2 B2)))) G (q0 := 2) (t0 := 0) rfl rfl v rfl (by omega) (by decide) rfl dX1_setWind_59 ?_
          generalize eB59 : gc_up B 0 (upd (B 0) v v59) = B59
          refine gk_iload_n G dX1_setWind_60 0 rfl ?_
          exact RET _ _ _ _ _ _ ((F, B59), (F2, B2)) dX1_setWind_61 rfl ⟨rfl, (by subst eB59; subst ev59; exact gc_rep_set0 hr)⟩ rfl (Nat.le_of_ble_eq_true rfl) (Nat.le_of_ble_eq_true rfl)
        · replace c_27 := (not_congr (nI_leI (a := x) (b := 20) (by omega) (by omega))).mp c_27
          exact absurd c_27 (by omega)
    · replace c_7 := (not_congr (nI_ltI (a := v) (b := 12) (by omega) (by omega))).mp c_7
      exact absurd c_7 (by omega)
set_option maxRecDepth 100000 in
set_option maxHeartbeats 1000000 in
theorem c1_setRule_ok (l : Launch) (D : va_G) (cI cZ cJ : ClassId) (g h1 h2 : Nat) (q : Nat → Nat) (F : Nat → Int32) (B : Nat → Nat → Int32) (q2 : Nat → Nat) (F2 : Nat → Int32) (B2 : Nat → Nat → Int32) (M : gm_M) (v : Nat) (wf : gm_wf M) (hr : gc_rep F B M) (hv : v < 3) : gk_I l yX1_setRule wsX1_setRule ({ frames := 1, cells := 0, slots := 0, locals := 20 } : Room) D (g_T cI cZ cJ) gn_E [.ref g, .int (nI v)] (gw_G g h1 h2 ++ (gs_W cI cZ h1 q F B ++ (gs_W cI cZ h2 q2 F2 B2))) 0 0 (fun (r : Int32) (u : gw_U) => r = nI (M 14 0) ∧ gc_rep u.1.1 u.1.2 (gm_set M 14 0 v)) (fun u => (gw_X cI cZ g h1 h2 q q2 u)) := by
  refine gk_I_of (ty := .int) (cc := cX1_setRule) (nL := 3) (by decide +kernel) rfl (Nat.le_of_ble_eq_true rfl) ?_
  intro p e s m below meth c A Q hnm hE G RET
  obtain ⟨hz1, hz2, hz3, hz4, hz5, hz6, hz7, hz8⟩ := id wf
  have hinX0 : ∀ w ∈ wsX00, w ∈ wsX1_setRule := fun w h9 => (List.mem_cons_of_mem _ (List.mem_append_left _ (List.mem_append_right _ h9)))
  have hinX1 : ∀ w ∈ wsX10, w ∈ wsX1_setRule := fun w h9 => (List.mem_cons_of_mem _ (List.mem_append_left _ (List.mem_append_left _ (List.mem_append_right _ h9))))
  have k10 := G.2.2.2.2.1 (.fieldLink RX1 10 "GustMill" "now" "LGustMill$State;") (List.mem_cons_of_mem _ (List.mem_append_left _ (List.mem_append_left _ (List.mem_append_left _ (List.mem_of_getElem? (i := 0) rfl)))))
  have kN54 := gn_54 (args := ([.ref g, .int (nI v)] : List Value).toArray) hE
  refine gk_iload_n G dX1_setRule_0 1 rfl ?_
  refine gk_callVS (wc := []) (wr := (gw_G g h1 h2 ++ (gs_W cI cZ h1 q F B ++ (gs_W cI cZ h2 q2 F2 B2)))) (isC := []) (isR := [0, 1, 2, 3, 4, 5, 6, 7, 8, 9, 10, 11, 12, 13, 14, 15, 16, 17, 18, 19, 20]) G (c1_requireRule_ok l D cI cZ cJ v (by omega) (by omega)) gX1_setRule_X1_requireRule rfl 1 (by decide +kernel) rfl rfl ⟨(Nat.le_of_ble_eq_true rfl), (Nat.le_of_ble_eq_true rfl)⟩ rfl gk_ok0 trivial rfl (by decide) rfl (by decide) (by decide) rfl (Nat.le_of_ble_eq_true rfl) dX1_setRule_1 ⟨(Nat.le_of_ble_eq_true rfl), (Nat.le_of_ble_eq_true rfl)⟩ (fun u1 hp1 => ?_)
  show gk_C p l e ({ frames := 1, cells := 0, slots := 0, locals := 20 } : Room) s m ([.ref g, .int (nI v)] : List Value).toArray below meth c 3 D A Q 0 0 (gw_G g h1 h2 ++ (gs_W cI cZ h1 q F B ++ (gs_W cI cZ h2 q2 F2 B2))) [(0, .ref g), (1, .int (nI v))] 4 []
  refine gk_aload_n G dX1_setRule_4 0 rfl ?_
  refine gk_get (v' := .ref h1) G hinX1 (q0 := 0) rfl rfl 0 (by decide) k10 rfl rfl dX1_setRule_5 ?_
  refine gk_getN (v' := .int (nI (M 14 0))) G hinX0 (q0 := 1) rfl rfl 14 (by decide) kN54 rfl (congrArg Value.int (hr.1.2.2.2.2.2.1)) dX1_setRule_8 ?_
  refine gk_istore_n (lv' := [(2, .int (nI (M 14 0))), (0, .ref g), (1, .int (nI v))]) G dX1_setRule_11 rfl (by decide) rfl ?_
  refine gk_aload_n G dX1_setRule_12 1 rfl ?_
  refine gk_get (v' := .ref h1) G hinX1 (q0 := 0) rfl rfl 0 (by decide) k10 rfl rfl dX1_setRule_13 ?_
  refine gk_iload_n G dX1_setRule_16 2 rfl ?_
  refine gk_topi (fun v17 ev17 => ?_)
  refine gk_putN (w' := (gw_G g h1 h2 ++ (gs_W cI cZ h1 q (upd F 14 v17) B ++ (gs_W cI cZ h2 q2 F2 B2)))) G hinX0 tyX0_ok nmX0 (q0 := 1) rfl rfl 14 (by decide) kN54 rfl rfl rfl (Nat.le_of_ble_eq_true rfl) rfl dX1_setRule_17 ?_
  generalize eF17 : upd F 14 v17 = F17
  refine gk_iload_n G dX1_setRule_20 0 rfl ?_
  exact RET _ _ _ _ _ _ ((F17, B), (F2, B2)) dX1_setRule_21 rfl ⟨rfl, (by subst eF17; subst ev17; exact gc_rep_set14 hr)⟩ rfl (Nat.le_of_ble_eq_true rfl) (Nat.le_of_ble_eq_true rfl)
set_option maxRecDepth 100000 in
set_option maxHeartbeats 1000000 in
theorem c1_setTakingOff (l : Launch) (D : va_G) (cI cZ cJ : ClassId) (g h1 h2 : Nat) (q : Nat → Nat) (F : Nat → Int32) (B : Nat → Nat → Int32) (q2 : Nat → Nat) (F2 : Nat → Int32) (B2 : Nat → Nat → Int32) (M : gm_M) (v : Nat) (wf : gm_wf M) (hr : gc_rep F B M) (hv1 : v ≤ 1) : gk_I l yX1_setTakingOff wsX1_setTakingOff ({ frames := 0, cells := 0, slots := 0, locals := 0 } : Room) D (g_T cI cZ cJ) gn_E [.ref g, .int (nI v)] (gw_G g h1 h2 ++ (gs_W cI cZ h1 q F B ++ (gs_W cI cZ h2 q2 F2 B2))) 0 0 (fun (r : Int32) (u : gw_U) => r = nI (M 15 0) ∧ gc_rep u.1.1 u.1.2 (gm_set M 15 0 v)) (fun u => (gw_X cI cZ g h1 h2 q q2 u)) := by
  refine gk_I_of (ty := .boolean) (cc := cX1_setTakingOff) (nL := 3) (by decide +kernel) rfl (Nat.le_of_ble_eq_true rfl) ?_
  intro p e s m below meth c A Q hnm hE G RET
  obtain ⟨hz1, hz2, hz3, hz4, hz5, hz6, hz7, hz8⟩ := id wf
  have hinX0 : ∀ w ∈ wsX00, w ∈ wsX1_setTakingOff := fun w h9 => (List.mem_cons_of_mem _ (List.mem_append_right _ h9))
  have hinX1 : ∀ w ∈ wsX10, w ∈ wsX1_setTakingOff := fun w h9 => (List.mem_cons_of_mem _ (List.mem_append_left _ (List.mem_append_right _ h9)))
  have k10 := G.2.2.2.2.1 (.fieldLink RX1 10 "GustMill" "now" "LGustMill$State;") (List.mem_cons_of_mem _ (List.mem_append_left _ (List.mem_append_left _ (List.mem_of_getElem? (i := 0) rfl))))
  have kN57 := gn_57 (args := ([.ref g, .int (nI v)] : List Value).toArray) hE
  refine gk_aload_n G dX1_setTakingOff_0 0 rfl ?_
  refine gk_get (v' := .ref h1) G hinX1 (q0 := 0) rfl rfl 0 (by decide) k10 rfl rfl dX1_setTakingOff_1 ?_
  refine gk_getN (v' := .int (nI (M 15 0))) G hinX0 (q0 := 1) rfl rfl 15 (by decide) kN57 rfl (congrArg Value.int (hr.1.2.2.2.2.2.2)) dX1_setTakingOff_4 ?_
  refine gk_istore_n (lv' := [(2, .int (nI (M 15 0))), (0, .ref g), (1, .int (nI v))]) G dX1_setTakingOff_7 rfl (by decide) rfl ?_
  refine gk_aload_n G dX1_setTakingOff_8 1 rfl ?_
  refine gk_get (v' := .ref h1) G hinX1 (q0 := 0) rfl rfl 0 (by decide) k10 rfl rfl dX1_setTakingOff_9 ?_
  refine gk_iload_n G dX1_setTakingOff_12 2 rfl ?_
  refine gk_topi (fun v13 ev13 => ?_)
  refine gk_putN (w' := (gw_G g h1 h2 ++ (gs_W cI cZ h1 q (upd F 15 v13) B ++ (gs_W cI cZ h2 q2 F2 B2)))) G hinX0 tyX0_ok nmX0 (q0 := 1) rfl rfl 15 (by decide) kN57 rfl (gk_nz (by rw [ev13]; exact gm_01 hv1)) (gk_fz (by rw [ev13]; exact gm_01 hv1)) (Nat.le_of_ble_eq_true rfl) rfl dX1_setTakingOff_13 ?_
  generalize eF13 : upd F 15 v13 = F13
  refine gk_iload_n G dX1_setTakingOff_16 0 rfl ?_
  exact RET _ _ _ _ _ _ ((F13, B), (F2, B2)) dX1_setTakingOff_17 (gk_nz (gm_01 hz4)) ⟨rfl, (by subst eF13; subst ev13; exact gc_rep_set15 hr)⟩ rfl (Nat.le_of_ble_eq_true rfl) (Nat.le_of_ble_eq_true rfl)
set_option maxRecDepth 100000 in
set_option maxHeartbeats 1000000 in
theorem c1_bring_ok (l : Launch) (D : va_G) (cI cZ cJ : ClassId) (g h1 h2 : Nat) (q : Nat → Nat) (F : Nat → Int32) (B : Nat → Nat → Int32) (q2 : Nat → Nat) (F2 : Nat → Int32) (B2 : Nat → Nat → Int32) (M : gm_M) (vb vg vt : Nat) (wf : gm_wf M) (hr : gc_rep F B M) (hb0 : vb < 8) (hg0 : 1 ≤ vg) (hg1 : vg < 61) (ht0 : 1 ≤ vt) (ht1 : vt < 201) (h16 : M 11 0 < 16) : gk_I l yX1_bring wsX1_bring ({ frames := 1, cells := 0, slots := 0, locals := 24 } : Room) D (g_T cI cZ cJ) gn_E [.ref g, .int (nI vb), .int (nI vg), .int (nI vt)] (gw_G g h1 h2 ++ (gs_W cI cZ h1 q F B ++ (gs_W cI cZ h2 q2 F2 B2))) 0 0 (fun (r : Int32) (u : gw_U) => r = nI (M 11 0) ∧ gc_rep u.1.1 u.1.2 (gm_add M vb vg vt)) (fun u => (gw_X cI cZ g h1 h2 q q2 u)) := by
  refine gk_I_of (ty := .int) (cc := cX1_bring) (nL := 4) (by decide +kernel) rfl (Nat.le_of_ble_eq_true rfl) ?_
  intro p e s m below meth c A Q hnm hE G RET
  obtain ⟨hz1, hz2, hz3, hz4, hz5, hz6, hz7, hz8⟩ := id wf
  have hinX0 : ∀ w ∈ wsX00, w ∈ wsX1_bring := fun w h9 => (List.mem_cons_of_mem _ (List.mem_append_left _ (List.mem_append_left _ (List.mem_append_right _ h9))))
  have hinX1 : ∀ w ∈ wsX10, w ∈ wsX1_bring := fun w h9 => (List.mem_cons_of_mem _ (List.mem_append_left _ (List.mem_append_left _ (List.mem_append_left _ (List.mem_append_right _ h9)))))
  have k10 := G.2.2.2.2.1 (.fieldLink RX1 10 "GustMill" "now" "LGustMill$State;") (List.mem_cons_of_mem _ (List.mem_append_left _ (List.mem_append_left _ (List.mem_append_left _ (List.mem_append_left _ (List.mem_append_left _ (List.mem_of_getElem? (i := 2) rfl)))))))
  have kN70 := gn_70 (args := ([.ref g, .int (nI vb), .int (nI vg), .int (nI vt)] : List Value).toArray) hE
  refine gk_iload_n G dX1_bring_0 1 rfl ?_
  refine gk_callVS (wc := []) (wr := (gw_G g h1 h2 ++ (gs_W cI cZ h1 q F B ++ (gs_W cI cZ h2 q2 F2 B2)))) (isC := []) (isR := [0, 1, 2, 3, 4, 5, 6, 7, 8, 9, 10, 11, 12, 13, 14, 15, 16, 17, 18, 19, 20]) G (c1_requireBaker_ok l D cI cZ cJ vb (by omega) (by omega)) gX1_bring_X1_requireBaker rfl 1 (by decide +kernel) rfl rfl ⟨(Nat.le_of_ble_eq_true rfl), (Nat.le_of_ble_eq_true rfl)⟩ rfl gk_ok0 trivial rfl (by decide) rfl (by decide) (by decide) rfl (Nat.le_of_ble_eq_true rfl) dX1_bring_1 ⟨(Nat.le_of_ble_eq_true rfl), (Nat.le_of_ble_eq_true rfl)⟩ (fun u1 hp1 => ?_)
  show gk_C p l e ({ frames := 1, cells := 0, slots := 0, locals := 24 } : Room) s m ([.ref g, .int (nI vb), .int (nI vg), .int (nI vt)] : List Value).toArray below meth c 4 D A Q 0 0 (gw_G g h1 h2 ++ (gs_W cI cZ h1 q F B ++ (gs_W cI cZ h2 q2 F2 B2))) [(0, .ref g), (1, .int (nI vb)), (2, .int (nI vg)), (3, .int (nI vt))] 4 []
  refine gk_iload_n G dX1_bring_4 2 rfl ?_
  refine gk_callVS (wc := []) (wr := (gw_G g h1 h2 ++ (gs_W cI cZ h1 q F B ++ (gs_W cI cZ h2 q2 F2 B2)))) (isC := []) (isR := [0, 1, 2, 3, 4, 5, 6, 7, 8, 9, 10, 11, 12, 13, 14, 15, 16, 17, 18, 19, 20]) G (c1_requireGrain_ok l D cI cZ cJ vg (by omega) (by omega)) gX1_bring_X1_requireGrain rfl 1 (by decide +kernel) rfl rfl ⟨(Nat.le_of_ble_eq_true rfl), (Nat.le_of_ble_eq_true rfl)⟩ rfl gk_ok0 trivial rfl (by decide) rfl (by decide) (by decide) rfl (Nat.le_of_ble_eq_true rfl) dX1_bring_5 ⟨(Nat.le_of_ble_eq_true rfl), (Nat.le_of_ble_eq_true rfl)⟩ (fun u5 hp5 => ?_)
  show gk_C p l e ({ frames := 1, cells := 0, slots := 0, locals := 24 } : Room) s m ([.ref g, .int (nI vb), .int (nI vg), .int (nI vt)] : List Value).toArray below meth c 4 D A Q 0 0 (gw_G g h1 h2 ++ (gs_W cI cZ h1 q F B ++ (gs_W cI cZ h2 q2 F2 B2))) [(0, .ref g), (1, .int (nI vb)), (2, .int (nI vg)), (3, .int (nI vt))] 8 []
  refine gk_iload_n G dX1_bring_8 3 rfl ?_
  refine gk_callVS (wc := []) (wr := (gw_G g h1 h2 ++ (gs_W cI cZ h1 q F B ++ (gs_W cI cZ h2 q2 F2 B2)))) (isC := []) (isR := [0, 1, 2, 3, 4, 5, 6, 7, 8, 9, 10, 11, 12, 13, 14, 15, 16, 17, 18, 19, 20]) G (c1_requireUntil_ok l D cI cZ cJ vt (by omega) (by omega)) gX1_bring_X1_requireUntil rfl 1 (by decide +kernel) rfl rfl ⟨(Nat.le_of_ble_eq_true rfl), (Nat.le_of_ble_eq_true rfl)⟩ rfl gk_ok0 trivial rfl (by decide) rfl (by decide) (by decide) rfl (Nat.le_of_ble_eq_true rfl) dX1_bring_9 ⟨(Nat.le_of_ble_eq_true rfl), (Nat.le_of_ble_eq_true rfl)⟩ (fun u9 hp9 => ?_)
  show gk_C p l e ({ frames := 1, cells := 0, slots := 0, locals := 24 } : Room) s m ([.ref g, .int (nI vb), .int (nI vg), .int (nI vt)] : List Value).toArray below meth c 4 D A Q 0 0 (gw_G g h1 h2 ++ (gs_W cI cZ h1 q F B ++ (gs_W cI cZ h2 q2 F2 B2))) [(0, .ref g), (1, .int (nI vb)), (2, .int (nI vg)), (3, .int (nI vt))] 12 []
  refine gk_aload_n G dX1_bring_12 0 rfl ?_
  refine gk_get (v' := .ref h1) G hinX1 (q0 := 0) rfl rfl 0 (by decide) k10 rfl rfl dX1_bring_13 ?_
  refine gk_getN (v' := .int (nI (M 11 0))) G hinX0 (q0 := 1) rfl rfl 11 (by decide) kN70 rfl (congrArg Value.int (hr.1.2.2.1)) dX1_bring_16 ?_
  refine gk_bipush (v := nI 16) G dX1_bring_19 (by decide) ?_
  refine gk_icmp_lt (tgt := 34) G dX1_bring_21 (by decide) (fun c_21 => ?_) (fun c_21 => ?_)
  · replace c_21 := (nI_ltI (a := M 11 0) (b := 16) (by omega) (by omega)).mp c_21
    refine gk_aload_n G dX1_bring_34 0 rfl ?_
    refine gk_get (v' := .ref h1) G hinX1 (q0 := 0) rfl rfl 0 (by decide) k10 rfl rfl dX1_bring_35 ?_
    refine gk_iload_n G dX1_bring_38 1 rfl ?_
    refine gk_iload_n G dX1_bring_39 2 rfl ?_
    refine gk_iload_n G dX1_bring_40 3 rfl ?_
    refine gk_callIV (wr := (gw_G g h1 h2 ++ (gs_W cI cZ h2 q2 F2 B2))) G (c0_storeSack l D cI cZ cJ h1 q F B M vb vg vt wf hr h16) gX1_bring_X0_storeSack rfl 3 (by decide +kernel) rfl rfl ⟨(Nat.le_of_ble_eq_true rfl), (Nat.le_of_ble_eq_true rfl)⟩ rfl (q0 := 0) rfl (T := TX0) (N := 16) rfl gk_ok0 trivial [1, 2, 3, 4, 5, 6, 7, 8, 9, 10] rfl (by decide) [0, 11, 12, 13, 14, 15, 16, 17, 18, 19, 20] rfl (by decide) (by decide) rfl (Nat.le_of_ble_eq_true rfl) dX1_bring_41 ⟨(Nat.le_of_ble_eq_true rfl), (Nat.le_of_ble_eq_true rfl)⟩ (fun r41 u41 hp41 => ?_)
    obtain ⟨F41, B41⟩ := u41
    have hr41 : gc_rep F41 B41 (gm_add M vb vg vt) := hp41.2
    obtain rfl : r41 = nI (M 11 0) := hp41.1
    refine gk_wsub (w' := (gw_G g h1 h2 ++ (gs_W cI cZ h1 q F41 B41 ++ (gs_W cI cZ h2 q2 F2 B2)))) [0, 11, 12, 13, 14, 15, 16, 17, 18, 19, 20, 1, 2, 3, 4, 5, 6, 7, 8, 9, 10] rfl (by decide) ?_
    show gk_C p l e ({ frames := 1, cells := 0, slots := 0, locals := 24 } : Room) s m ([.ref g, .int (nI vb), .int (nI vg), .int (nI vt)] : List Value).toArray below meth c 4 D A Q 0 0 (gw_G g h1 h2 ++ (gs_W cI cZ h1 q F41 B41 ++ (gs_W cI cZ h2 q2 F2 B2))) [(0, .ref g), (1, .int (nI vb)), (2, .int (nI vg)), (3, .int (nI vt))] 44 [.int (nI (M 11 0))]
    exact RET _ _ _ _ _ _ ((F41, B41), (F2, B2)) dX1_bring_44 rfl ⟨rfl, hr41⟩ rfl (Nat.le_of_ble_eq_true rfl) (Nat.le_of_ble_eq_true rfl)
  · replace c_21 := (not_congr (nI_ltI (a := M 11 0) (b := 16) (by omega) (by omega))).mp c_21
    exact absurd c_21 (by omega)
set_option maxRecDepth 100000 in
set_option maxHeartbeats 1000000 in
theorem c1_lift_ok (l : Launch) (D : va_G) (cI cZ cJ : ClassId) (g h1 h2 : Nat) (q : Nat → Nat) (F : Nat → Int32) (B : Nat → Nat → Int32) (q2 : Nat → Nat) (F2 : Nat → Int32) (B2 : Nat → Nat → Int32) (M : gm_M) (v : Nat) (wf : gm_wf M) (hr : gc_rep F B M) (hv : v < M 11 0) (h0 : M 7 v ≠ 0) : gk_I l yX1_lift wsX1_lift ({ frames := 1, cells := 0, slots := 0, locals := 22 } : Room) D (g_T cI cZ cJ) gn_E [.ref g, .int (nI v)] (gw_G g h1 h2 ++ (gs_W cI cZ h1 q F B ++ (gs_W cI cZ h2 q2 F2 B2))) 0 0 (fun (r : Int32) (u : gw_U) => r = gm_e (M 7 v) ∧ gc_rep u.1.1 u.1.2 (gm_set M 7 v 0)) (fun u => (gw_X cI cZ g h1 h2 q q2 u)) := by
  refine gk_I_of (ty := .int) (cc := cX1_lift) (nL := 3) (by decide +kernel) rfl (Nat.le_of_ble_eq_true rfl) ?_
  intro p e s m below meth c A Q hnm hE G RET
  obtain ⟨hz1, hz2, hz3, hz4, hz5, hz6, hz7, hz8⟩ := id wf
  have hv7 := hz7 v hv
  have hinX0 : ∀ w ∈ wsX00, w ∈ wsX1_lift := fun w h9 => (List.mem_cons_of_mem _ (List.mem_append_left _ (List.mem_append_left _ (List.mem_append_right _ h9))))
  have hinX1 : ∀ w ∈ wsX10, w ∈ wsX1_lift := fun w h9 => (List.mem_cons_of_mem _ (List.mem_append_left _ (List.mem_append_left _ (List.mem_append_left _ (List.mem_append_right _ h9)))))
  have k10 := G.2.2.2.2.1 (.fieldLink RX1 10 "GustMill" "now" "LGustMill$State;") (List.mem_cons_of_mem _ (List.mem_append_left _ (List.mem_append_left _ (List.mem_append_left _ (List.mem_append_left _ (List.mem_of_getElem? (i := 2) rfl))))))
  have kN82 := gn_82 (args := ([.ref g, .int (nI v)] : List Value).toArray) hE
  refine gk_aload_n G dX1_lift_0 0 rfl ?_
  refine gk_iload_n G dX1_lift_1 1 rfl ?_
  refine gk_callVV (wr := []) G (c1_requireSack_ok l D cI cZ cJ g h1 h2 q F B q2 F2 B2 M v wf hr (by omega)) gX1_lift_X1_requireSack rfl 1 (by decide +kernel) rfl rfl ⟨(Nat.le_of_ble_eq_true rfl), (Nat.le_of_ble_eq_true rfl)⟩ rfl (q0 := 0) rfl (T := TX1) (N := 2) rfl gn_ok hE [0, 1, 2, 3, 4, 5, 6, 7, 8, 9, 10, 11, 12, 13, 14, 15, 16, 17, 18, 19, 20] rfl (by decide) [] rfl (by decide) (by decide) rfl (Nat.le_of_ble_eq_true rfl) dX1_lift_2 ⟨(Nat.le_of_ble_eq_true rfl), (Nat.le_of_ble_eq_true rfl)⟩ (fun u2 hp2 => ?_)
  show gk_C p l e ({ frames := 1, cells := 0, slots := 0, locals := 22 } : Room) s m ([.ref g, .int (nI v)] : List Value).toArray below meth c 3 D A Q 0 0 (gw_G g h1 h2 ++ (gs_W cI cZ h1 q F B ++ (gs_W cI cZ h2 q2 F2 B2))) [(0, .ref g), (1, .int (nI v))] 5 []
  refine gk_aload_n G dX1_lift_5 0 rfl ?_
  refine gk_get (v' := .ref h1) G hinX1 (q0 := 0) rfl rfl 0 (by decide) k10 rfl rfl dX1_lift_6 ?_
  refine gk_getN (v' := .ref (q 7)) G hinX0 (q0 := 1) rfl rfl 7 (by decide) kN82 rfl rfl dX1_lift_9 ?_
  refine gk_iload_n G dX1_lift_12 1 rfl ?_
  refine gk_iald (v := gm_e (M 7 v)) G (q0 := 9) (t0 := 0) rfl rfl v rfl (by omega) (by decide) (hr.2.2.2.2.2.2.2.1 v (by omega)) dX1_lift_13 ?_
  refine gk_istore_n (lv' := [(2, .int (gm_e (M 7 v))), (0, .ref g), (1, .int (nI v))]) G dX1_lift_14 rfl (by decide) rfl ?_
  refine gk_iload_n G dX1_lift_15 0 rfl ?_
  refine gk_iconst (v := -1) G dX1_lift_16 (by decide) ?_
  refine gk_icmp_ne (tgt := 30) G dX1_lift_17 (by decide) (fun c_17 => ?_) (fun c_17 => ?_)
  · replace c_17 := (not_congr (gm_e_none (a := M 7 v) (by omega))).mp c_17
    refine gk_aload_n G dX1_lift_30 1 rfl ?_
    refine gk_get (v' := .ref h1) G hinX1 (q0 := 0) rfl rfl 0 (by decide) k10 rfl rfl dX1_lift_31 ?_
    refine gk_iload_n G dX1_lift_34 0 rfl ?_
    refine gk_callVV (wr := (gw_G g h1 h2 ++ (gs_W cI cZ h2 q2 F2 B2))) G (c0_clearStone l D cI cZ cJ h1 q F B M (M 7 v - 1) hz1 hz2 (gm_wf_ap wf) hr (by omega)) gX1_lift_X0_clearStone rfl 1 (by decide +kernel) rfl rfl ⟨(Nat.le_of_ble_eq_true rfl), (Nat.le_of_ble_eq_true rfl)⟩ rfl (q0 := 0) rfl (T := TX0) (N := 16) rfl gk_ok0 trivial [1, 2, 3, 4, 5, 6, 7, 8, 9, 10] rfl (by decide) [0, 11, 12, 13, 14, 15, 16, 17, 18, 19, 20] rfl (by decide) (by decide) (by rw [gm_e_pred h0]; rfl) (Nat.le_of_ble_eq_true rfl) dX1_lift_35 ⟨(Nat.le_of_ble_eq_true rfl), (Nat.le_of_ble_eq_true rfl)⟩ (fun u35 hp35 => ?_)
    obtain ⟨F35, B35⟩ := u35
    have hr35 : gc_rep F35 B35 (gm_clr M (M 7 v - 1)) := hp35
    refine gk_wsub (w' := (gw_G g h1 h2 ++ (gs_W cI cZ h1 q F35 B35 ++ (gs_W cI cZ h2 q2 F2 B2)))) [0, 11, 12, 13, 14, 15, 16, 17, 18, 19, 20, 1, 2, 3, 4, 5, 6, 7, 8, 9, 10] rfl (by decide) ?_
    show gk_C p l e ({ frames := 1, cells := 0, slots := 0, locals := 22 } : Room) s m ([.ref g, .int (nI v)] : List Value).toArray below meth c 3 D A Q 0 0 (gw_G g h1 h2 ++ (gs_W cI cZ h1 q F35 B35 ++ (gs_W cI cZ h2 q2 F2 B2))) [(2, .int (gm_e (M 7 v))), (0, .ref g), (1, .int (nI v))] 38 []
    refine gk_iload_n G dX1_lift_38 0 rfl ?_
    exact RET _ _ _ _ _ _ ((F35, B35), (F2, B2)) dX1_lift_39 rfl ⟨rfl, (gc_rep_same hr35 (gm_clr_one (gm_wf_ap wf) hv h0))⟩ rfl (Nat.le_of_ble_eq_true rfl) (Nat.le_of_ble_eq_true rfl)
  · replace c_17 := (gm_e_none (a := M 7 v) (by omega)).mp c_17
    exact absurd c_17 h0
set_option maxRecDepth 100000 in
set_option maxHeartbeats 1000000 in
theorem c1_setUntil_ok (l : Launch) (D : va_G) (cI cZ cJ : ClassId) (g h1 h2 : Nat) (q : Nat → Nat) (F : Nat → Int32) (B : Nat → Nat → Int32) (q2 : Nat → Nat) (F2 : Nat → Int32) (B2 : Nat → Nat → Int32) (M : gm_M) (v x : Nat) (wf : gm_wf M) (hr : gc_rep F B M) (hv : v < M 11 0) (hx0 : 1 ≤ x) (hx : x < 201) : gk_I l yX1_setUntil wsX1_setUntil ({ frames := 1, cells := 0, slots := 0, locals := 21 } : Room) D (g_T cI cZ cJ) gn_E [.ref g, .int (nI v), .int (nI x)] (gw_G g h1 h2 ++ (gs_W cI cZ h1 q F B ++ (gs_W cI cZ h2 q2 F2 B2))) 0 0 (fun (r : Int32) (u : gw_U) => r = nI (M 6 v) ∧ gc_rep u.1.1 u.1.2 (gm_set M 6 v x)) (fun u => (gw_X cI cZ g h1 h2 q q2 u)) := by
  refine gk_I_of (ty := .int) (cc := cX1_setUntil) (nL := 4) (by decide +kernel) rfl (Nat.le_of_ble_eq_true rfl) ?_
  intro p e s m below meth c A Q hnm hE G RET
  obtain ⟨hz1, hz2, hz3, hz4, hz5, hz6, hz7, hz8⟩ := id wf
  have hinX0 : ∀ w ∈ wsX00, w ∈ wsX1_setUntil := fun w h9 => (List.mem_cons_of_mem _ (List.mem_append_left _ (List.mem_append_left _ (List.mem_append_right _ h9))))
  have hinX1 : ∀ w ∈ wsX10, w ∈ wsX1_setUntil := fun w h9 => (List.mem_cons_of_mem _ (List.mem_append_left _ (List.mem_append_left _ (List.mem_append_left _ (List.mem_append_right _ h9)))))
  have k10 := G.2.2.2.2.1 (.fieldLink RX1 10 "GustMill" "now" "LGustMill$State;") (List.mem_cons_of_mem _ (List.mem_append_left _ (List.mem_append_left _ (List.mem_append_left _ (List.mem_append_left _ (List.mem_of_getElem? (i := 0) rfl))))))
  have kN90 := gn_90 (args := ([.ref g, .int (nI v), .int (nI x)] : List Value).toArray) hE
  refine gk_aload_n G dX1_setUntil_0 0 rfl ?_
  refine gk_iload_n G dX1_setUntil_1 1 rfl ?_
  refine gk_callVV (wr := []) G (c1_requireSack_ok l D cI cZ cJ g h1 h2 q F B q2 F2 B2 M v wf hr (by omega)) gX1_setUntil_X1_requireSack rfl 1 (by decide +kernel) rfl rfl ⟨(Nat.le_of_ble_eq_true rfl), (Nat.le_of_ble_eq_true rfl)⟩ rfl (q0 := 0) rfl (T := TX1) (N := 2) rfl gn_ok hE [0, 1, 2, 3, 4, 5, 6, 7, 8, 9, 10, 11, 12, 13, 14, 15, 16, 17, 18, 19, 20] rfl (by decide) [] rfl (by decide) (by decide) rfl (Nat.le_of_ble_eq_true rfl) dX1_setUntil_2 ⟨(Nat.le_of_ble_eq_true rfl), (Nat.le_of_ble_eq_true rfl)⟩ (fun u2 hp2 => ?_)
  show gk_C p l e ({ frames := 1, cells := 0, slots := 0, locals := 21 } : Room) s m ([.ref g, .int (nI v), .int (nI x)] : List Value).toArray below meth c 4 D A Q 0 0 (gw_G g h1 h2 ++ (gs_W cI cZ h1 q F B ++ (gs_W cI cZ h2 q2 F2 B2))) [(0, .ref g), (1, .int (nI v)), (2, .int (nI x))] 5 []
  refine gk_iload_n G dX1_setUntil_5 2 rfl ?_
  refine gk_callVS (wc := []) (wr := (gw_G g h1 h2 ++ (gs_W cI cZ h1 q F B ++ (gs_W cI cZ h2 q2 F2 B2)))) (isC := []) (isR := [0, 1, 2, 3, 4, 5, 6, 7, 8, 9, 10, 11, 12, 13, 14, 15, 16, 17, 18, 19, 20]) G (c1_requireUntil_ok l D cI cZ cJ x (by omega) (by omega)) gX1_setUntil_X1_requireUntil rfl 1 (by decide +kernel) rfl rfl ⟨(Nat.le_of_ble_eq_true rfl), (Nat.le_of_ble_eq_true rfl)⟩ rfl gk_ok0 trivial rfl (by decide) rfl (by decide) (by decide) rfl (Nat.le_of_ble_eq_true rfl) dX1_setUntil_6 ⟨(Nat.le_of_ble_eq_true rfl), (Nat.le_of_ble_eq_true rfl)⟩ (fun u6 hp6 => ?_)
  show gk_C p l e ({ frames := 1, cells := 0, slots := 0, locals := 21 } : Room) s m ([.ref g, .int (nI v), .int (nI x)] : List Value).toArray below meth c 4 D A Q 0 0 (gw_G g h1 h2 ++ (gs_W cI cZ h1 q F B ++ (gs_W cI cZ h2 q2 F2 B2))) [(0, .ref g), (1, .int (nI v)), (2, .int (nI x))] 9 []
  refine gk_aload_n G dX1_setUntil_9 0 rfl ?_
  refine gk_get (v' := .ref h1) G hinX1 (q0 := 0) rfl rfl 0 (by decide) k10 rfl rfl dX1_setUntil_10 ?_
  refine gk_getN (v' := .ref (q 6)) G hinX0 (q0 := 1) rfl rfl 6 (by decide) kN90 rfl rfl dX1_setUntil_13 ?_
  refine gk_iload_n G dX1_setUntil_16 1 rfl ?_
  refine gk_iald (v := nI (M 6 v)) G (q0 := 8) (t0 := 0) rfl rfl v rfl (by omega) (by decide) (hr.2.2.2.2.2.2.1 v (by omega)) dX1_setUntil_17 ?_
  refine gk_istore_n (lv' := [(3, .int (nI (M 6 v))), (0, .ref g), (1, .int (nI v)), (2, .int (nI x))]) G dX1_setUntil_18 rfl (by decide) rfl ?_
  refine gk_aload_n G dX1_setUntil_19 1 rfl ?_
  refine gk_get (v' := .ref h1) G hinX1 (q0 := 0) rfl rfl 0 (by decide) k10 rfl rfl dX1_setUntil_20 ?_
  refine gk_getN (v' := .ref (q 6)) G hinX0 (q0 := 1) rfl rfl 6 (by decide) kN90 rfl rfl dX1_setUntil_23 ?_
  refine gk_iload_n G dX1_setUntil_26 2 rfl ?_
  refine gk_iload_n G dX1_setUntil_27 3 rfl ?_
  refine gk_topi (fun v28 ev28 => ?_)
  refine gk_iast (w' := (gw_G g h1 h2 ++ (gs_W cI cZ h1 q F (gc_up B 6 (upd (B 6) v v28)) ++ (gs_W cI cZ h2 q2 F2 B2)))) G (q0 := 8) (t0 := 0) rfl rfl v rfl (by omega) (by decide) rfl dX1_setUntil_28 ?_
  generalize eB28 : gc_up B 6 (upd (B 6) v v28) = B28
  refine gk_iload_n G dX1_setUntil_29 0 rfl ?_
  exact RET _ _ _ _ _ _ ((F, B28), (F2, B2)) dX1_setUntil_30 rfl ⟨rfl, (by subst eB28; subst ev28; exact gc_rep_set6 hr)⟩ rfl (Nat.le_of_ble_eq_true rfl) (Nat.le_of_ble_eq_true rfl)
set_option maxRecDepth 100000 in
set_option maxHeartbeats 1000000 in
theorem c1_pass_ok (l : Launch) (D : va_G) (cI cZ cJ : ClassId) (g h1 h2 : Nat) (q : Nat → Nat) (F : Nat → Int32) (B : Nat → Nat → Int32) (q2 : Nat → Nat) (F2 : Nat → Int32) (B2 : Nat → Nat → Int32) (M : gm_M) (v : Nat) (wf : gm_wf M) (hr : gc_rep F B M) (hrest : gm_rest M) (hh : M 9 0 < 1999000) (hv0 : 1 ≤ v) (hv : v < 61) : gk_I l yX1_pass wsX1_pass ({ frames := 4, cells := 0, slots := 0, locals := 93 } : Room) D (g_T cI cZ cJ) gn_E [.ref g, .int (nI v)] (gw_G g h1 h2 ++ (gs_W cI cZ h1 q F B ++ (gs_W cI cZ h2 q2 F2 B2))) 0 0 (fun (r : Int32) (u : gw_U) => r = nI (gm_hrs M v 16 0 - M 16 0) ∧ gc_rep u.1.1 u.1.2 (gm_hrs M v)) (fun u => (gw_X cI cZ g h1 h2 q q2 u)) := by
  refine gk_I_of (ty := .int) (cc := cX1_pass) (nL := 2) (by decide +kernel) rfl (Nat.le_of_ble_eq_true rfl) ?_
  intro p e s m below meth c A Q hnm hE G RET
  obtain ⟨hz1, hz2, hz3, hz4, hz5, hz6, hz7, hz8⟩ := id wf
  have hinX1 : ∀ w ∈ wsX10, w ∈ wsX1_pass := fun w h9 => (List.mem_cons_of_mem _ (List.mem_append_left _ (List.mem_append_left _ (List.mem_append_right _ h9))))
  have k10 := G.2.2.2.2.1 (.fieldLink RX1 10 "GustMill" "now" "LGustMill$State;") (List.mem_cons_of_mem _ (List.mem_append_left _ (List.mem_append_left _ (List.mem_append_left _ (List.mem_append_left _ (List.mem_of_getElem? (i := 0) rfl))))))
  refine gk_iload_n G dX1_pass_0 1 rfl ?_
  refine gk_callVS (wc := []) (wr := (gw_G g h1 h2 ++ (gs_W cI cZ h1 q F B ++ (gs_W cI cZ h2 q2 F2 B2)))) (isC := []) (isR := [0, 1, 2, 3, 4, 5, 6, 7, 8, 9, 10, 11, 12, 13, 14, 15, 16, 17, 18, 19, 20]) G (c1_requireHours_ok l D cI cZ cJ v (by omega) (by omega)) gX1_pass_X1_requireHours rfl 1 (by decide +kernel) rfl rfl ⟨(Nat.le_of_ble_eq_true rfl), (Nat.le_of_ble_eq_true rfl)⟩ rfl gk_ok0 trivial rfl (by decide) rfl (by decide) (by decide) rfl (Nat.le_of_ble_eq_true rfl) dX1_pass_1 ⟨(Nat.le_of_ble_eq_true rfl), (Nat.le_of_ble_eq_true rfl)⟩ (fun u1 hp1 => ?_)
  show gk_C p l e ({ frames := 4, cells := 0, slots := 0, locals := 93 } : Room) s m ([.ref g, .int (nI v)] : List Value).toArray below meth c 2 D A Q 0 0 (gw_G g h1 h2 ++ (gs_W cI cZ h1 q F B ++ (gs_W cI cZ h2 q2 F2 B2))) [(0, .ref g), (1, .int (nI v))] 4 []
  refine gk_aload_n G dX1_pass_4 0 rfl ?_
  refine gk_get (v' := .ref h1) G hinX1 (q0 := 0) rfl rfl 0 (by decide) k10 rfl rfl dX1_pass_5 ?_
  refine gk_iload_n G dX1_pass_8 1 rfl ?_
  refine gk_callIV (wr := (gw_G g h1 h2 ++ (gs_W cI cZ h2 q2 F2 B2))) G (c0_run l D cI cZ cJ h1 q F B M v wf hr hrest (by omega)) gX1_pass_X0_run rfl 1 (by decide +kernel) rfl rfl ⟨(Nat.le_of_ble_eq_true rfl), (Nat.le_of_ble_eq_true rfl)⟩ rfl (q0 := 0) rfl (T := TX0) (N := 16) rfl gk_ok0 trivial [1, 2, 3, 4, 5, 6, 7, 8, 9, 10] rfl (by decide) [0, 11, 12, 13, 14, 15, 16, 17, 18, 19, 20] rfl (by decide) (by decide) rfl (Nat.le_of_ble_eq_true rfl) dX1_pass_9 ⟨(Nat.le_of_ble_eq_true rfl), (Nat.le_of_ble_eq_true rfl)⟩ (fun r9 u9 hp9 => ?_)
  obtain ⟨F9, B9⟩ := u9
  have hr9 : gc_rep F9 B9 (gm_hrs M v) := hp9.2
  obtain rfl : r9 = nI (gm_hrs M v 16 0 - M 16 0) := hp9.1
  refine gk_wsub (w' := (gw_G g h1 h2 ++ (gs_W cI cZ h1 q F9 B9 ++ (gs_W cI cZ h2 q2 F2 B2)))) [0, 11, 12, 13, 14, 15, 16, 17, 18, 19, 20, 1, 2, 3, 4, 5, 6, 7, 8, 9, 10] rfl (by decide) ?_
  show gk_C p l e ({ frames := 4, cells := 0, slots := 0, locals := 93 } : Room) s m ([.ref g, .int (nI v)] : List Value).toArray below meth c 2 D A Q 0 0 (gw_G g h1 h2 ++ (gs_W cI cZ h1 q F9 B9 ++ (gs_W cI cZ h2 q2 F2 B2))) [(0, .ref g), (1, .int (nI v))] 12 [.int (nI (gm_hrs M v 16 0 - M 16 0))]
  exact RET _ _ _ _ _ _ ((F9, B9), (F2, B2)) dX1_pass_12 rfl ⟨rfl, hr9⟩ rfl (Nat.le_of_ble_eq_true rfl) (Nat.le_of_ble_eq_true rfl)
end
section
set_option maxRecDepth 100000 in
set_option maxHeartbeats 1000000 in
theorem c1_hour (l : Launch) (D : va_G) (cI cZ cJ : ClassId) (g h1 h2 : Nat) (q : Nat → Nat) (F : Nat → Int32) (B : Nat → Nat → Int32) (q2 : Nat → Nat) (F2 : Nat → Int32) (B2 : Nat → Nat → Int32) (M : gm_M)  (wf : gm_wf M) (hr : gc_rep F B M)  : gk_I l yX1_hour wsX1_hour ({ frames := 0, cells := 0, slots := 0, locals := 0 } : Room) D (g_T cI cZ cJ) gn_E [.ref g] (gw_G g h1 h2 ++ (gs_W cI cZ h1 q F B ++ (gs_W cI cZ h2 q2 F2 B2))) 0 0 (fun (r : Int32) (u : gw_U) => r = nI (M 9 0) ∧ gc_rep u.1.1 u.1.2 M) (fun u => (gw_X cI cZ g h1 h2 q q2 u)) := by
  refine gk_I_of (ty := .int) (cc := cX1_hour) (nL := 1) (by decide +kernel) rfl (Nat.le_of_ble_eq_true rfl) ?_
  intro p e s m below meth c A Q hnm hE G RET
  obtain ⟨hz1, hz2, hz3, hz4, hz5, hz6, hz7, hz8⟩ := id wf
  have hinX0 : ∀ w ∈ wsX00, w ∈ wsX1_hour := fun w h9 => (List.mem_cons_of_mem _ (List.mem_append_right _ h9))
  have hinX1 : ∀ w ∈ wsX10, w ∈ wsX1_hour := fun w h9 => (List.mem_cons_of_mem _ (List.mem_append_left _ (List.mem_append_right _ h9)))
  have k10 := G.2.2.2.2.1 (.fieldLink RX1 10 "GustMill" "now" "LGustMill$State;") (List.mem_cons_of_mem _ (List.mem_append_left _ (List.mem_append_left _ (List.mem_of_getElem? (i := 0) rfl))))
  have kN99 := gn_99 (args := ([.ref g] : List Value).toArray) hE
  refine gk_aload_n G dX1_hour_0 0 rfl ?_
  refine gk_get (v' := .ref h1) G hinX1 (q0 := 0) rfl rfl 0 (by decide) k10 rfl rfl dX1_hour_1 ?_
  refine gk_getN (v' := .int (nI (M 9 0))) G hinX0 (q0 := 1) rfl rfl 9 (by decide) kN99 rfl (congrArg Value.int (hr.1.1)) dX1_hour_4 ?_
  exact RET _ _ _ _ _ _ ((F, B), (F2, B2)) dX1_hour_7 rfl ⟨rfl, hr⟩ rfl (Nat.le_of_ble_eq_true rfl) (Nat.le_of_ble_eq_true rfl)
set_option maxRecDepth 100000 in
set_option maxHeartbeats 1000000 in
theorem c1_stones (l : Launch) (D : va_G) (cI cZ cJ : ClassId) (g h1 h2 : Nat) (q : Nat → Nat) (F : Nat → Int32) (B : Nat → Nat → Int32) (q2 : Nat → Nat) (F2 : Nat → Int32) (B2 : Nat → Nat → Int32) (M : gm_M)  (wf : gm_wf M) (hr : gc_rep F B M)  : gk_I l yX1_stones wsX1_stones ({ frames := 0, cells := 0, slots := 0, locals := 0 } : Room) D (g_T cI cZ cJ) gn_E [.ref g] (gw_G g h1 h2 ++ (gs_W cI cZ h1 q F B ++ (gs_W cI cZ h2 q2 F2 B2))) 0 0 (fun (r : Int32) (u : gw_U) => r = nI (M 10 0) ∧ gc_rep u.1.1 u.1.2 M) (fun u => (gw_X cI cZ g h1 h2 q q2 u)) := by
  refine gk_I_of (ty := .int) (cc := cX1_stones) (nL := 1) (by decide +kernel) rfl (Nat.le_of_ble_eq_true rfl) ?_
  intro p e s m below meth c A Q hnm hE G RET
  obtain ⟨hz1, hz2, hz3, hz4, hz5, hz6, hz7, hz8⟩ := id wf
  have hinX0 : ∀ w ∈ wsX00, w ∈ wsX1_stones := fun w h9 => (List.mem_cons_of_mem _ (List.mem_append_right _ h9))
  have hinX1 : ∀ w ∈ wsX10, w ∈ wsX1_stones := fun w h9 => (List.mem_cons_of_mem _ (List.mem_append_left _ (List.mem_append_right _ h9)))
  have k10 := G.2.2.2.2.1 (.fieldLink RX1 10 "GustMill" "now" "LGustMill$State;") (List.mem_cons_of_mem _ (List.mem_append_left _ (List.mem_append_left _ (List.mem_of_getElem? (i := 0) rfl))))
  have kN26 := gn_26 (args := ([.ref g] : List Value).toArray) hE
  refine gk_aload_n G dX1_stones_0 0 rfl ?_
  refine gk_get (v' := .ref h1) G hinX1 (q0 := 0) rfl rfl 0 (by decide) k10 rfl rfl dX1_stones_1 ?_
  refine gk_getN (v' := .int (nI (M 10 0))) G hinX0 (q0 := 1) rfl rfl 10 (by decide) kN26 rfl (congrArg Value.int (hr.1.2.1)) dX1_stones_4 ?_
  exact RET _ _ _ _ _ _ ((F, B), (F2, B2)) dX1_stones_7 rfl ⟨rfl, hr⟩ rfl (Nat.le_of_ble_eq_true rfl) (Nat.le_of_ble_eq_true rfl)
set_option maxRecDepth 100000 in
set_option maxHeartbeats 1000000 in
theorem c1_sacks (l : Launch) (D : va_G) (cI cZ cJ : ClassId) (g h1 h2 : Nat) (q : Nat → Nat) (F : Nat → Int32) (B : Nat → Nat → Int32) (q2 : Nat → Nat) (F2 : Nat → Int32) (B2 : Nat → Nat → Int32) (M : gm_M)  (wf : gm_wf M) (hr : gc_rep F B M)  : gk_I l yX1_sacks wsX1_sacks ({ frames := 0, cells := 0, slots := 0, locals := 0 } : Room) D (g_T cI cZ cJ) gn_E [.ref g] (gw_G g h1 h2 ++ (gs_W cI cZ h1 q F B ++ (gs_W cI cZ h2 q2 F2 B2))) 0 0 (fun (r : Int32) (u : gw_U) => r = nI (M 11 0) ∧ gc_rep u.1.1 u.1.2 M) (fun u => (gw_X cI cZ g h1 h2 q q2 u)) := by
  refine gk_I_of (ty := .int) (cc := cX1_sacks) (nL := 1) (by decide +kernel) rfl (Nat.le_of_ble_eq_true rfl) ?_
  intro p e s m below meth c A Q hnm hE G RET
  obtain ⟨hz1, hz2, hz3, hz4, hz5, hz6, hz7, hz8⟩ := id wf
  have hinX0 : ∀ w ∈ wsX00, w ∈ wsX1_sacks := fun w h9 => (List.mem_cons_of_mem _ (List.mem_append_right _ h9))
  have hinX1 : ∀ w ∈ wsX10, w ∈ wsX1_sacks := fun w h9 => (List.mem_cons_of_mem _ (List.mem_append_left _ (List.mem_append_right _ h9)))
  have k10 := G.2.2.2.2.1 (.fieldLink RX1 10 "GustMill" "now" "LGustMill$State;") (List.mem_cons_of_mem _ (List.mem_append_left _ (List.mem_append_left _ (List.mem_of_getElem? (i := 0) rfl))))
  have kN70 := gn_70 (args := ([.ref g] : List Value).toArray) hE
  refine gk_aload_n G dX1_sacks_0 0 rfl ?_
  refine gk_get (v' := .ref h1) G hinX1 (q0 := 0) rfl rfl 0 (by decide) k10 rfl rfl dX1_sacks_1 ?_
  refine gk_getN (v' := .int (nI (M 11 0))) G hinX0 (q0 := 1) rfl rfl 11 (by decide) kN70 rfl (congrArg Value.int (hr.1.2.2.1)) dX1_sacks_4 ?_
  exact RET _ _ _ _ _ _ ((F, B), (F2, B2)) dX1_sacks_7 rfl ⟨rfl, hr⟩ rfl (Nat.le_of_ble_eq_true rfl) (Nat.le_of_ble_eq_true rfl)
set_option maxRecDepth 100000 in
set_option maxHeartbeats 1000000 in
theorem c1_rule (l : Launch) (D : va_G) (cI cZ cJ : ClassId) (g h1 h2 : Nat) (q : Nat → Nat) (F : Nat → Int32) (B : Nat → Nat → Int32) (q2 : Nat → Nat) (F2 : Nat → Int32) (B2 : Nat → Nat → Int32) (M : gm_M)  (wf : gm_wf M) (hr : gc_rep F B M)  : gk_I l yX1_rule wsX1_rule ({ frames := 0, cells := 0, slots := 0, locals := 0 } : Room) D (g_T cI cZ cJ) gn_E [.ref g] (gw_G g h1 h2 ++ (gs_W cI cZ h1 q F B ++ (gs_W cI cZ h2 q2 F2 B2))) 0 0 (fun (r : Int32) (u : gw_U) => r = nI (M 14 0) ∧ gc_rep u.1.1 u.1.2 M) (fun u => (gw_X cI cZ g h1 h2 q q2 u)) := by
  refine gk_I_of (ty := .int) (cc := cX1_rule) (nL := 1) (by decide +kernel) rfl (Nat.le_of_ble_eq_true rfl) ?_
  intro p e s m below meth c A Q hnm hE G RET
  obtain ⟨hz1, hz2, hz3, hz4, hz5, hz6, hz7, hz8⟩ := id wf
  have hinX0 : ∀ w ∈ wsX00, w ∈ wsX1_rule := fun w h9 => (List.mem_cons_of_mem _ (List.mem_append_right _ h9))
  have hinX1 : ∀ w ∈ wsX10, w ∈ wsX1_rule := fun w h9 => (List.mem_cons_of_mem _ (List.mem_append_left _ (List.mem_append_right _ h9)))
  have k10 := G.2.2.2.2.1 (.fieldLink RX1 10 "GustMill" "now" "LGustMill$State;") (List.mem_cons_of_mem _ (List.mem_append_left _ (List.mem_append_left _ (List.mem_of_getElem? (i := 0) rfl))))
  have kN54 := gn_54 (args := ([.ref g] : List Value).toArray) hE
  refine gk_aload_n G dX1_rule_0 0 rfl ?_
  refine gk_get (v' := .ref h1) G hinX1 (q0 := 0) rfl rfl 0 (by decide) k10 rfl rfl dX1_rule_1 ?_
  refine gk_getN (v' := .int (nI (M 14 0))) G hinX0 (q0 := 1) rfl rfl 14 (by decide) kN54 rfl (congrArg Value.int (hr.1.2.2.2.2.2.1)) dX1_rule_4 ?_
  exact RET _ _ _ _ _ _ ((F, B), (F2, B2)) dX1_rule_7 rfl ⟨rfl, hr⟩ rfl (Nat.le_of_ble_eq_true rfl) (Nat.le_of_ble_eq_true rfl)
set_option maxRecDepth 100000 in
set_option maxHeartbeats 1000000 in
theorem c1_changes (l : Launch) (D : va_G) (cI cZ cJ : ClassId) (g h1 h2 : Nat) (q : Nat → Nat) (F : Nat → Int32) (B : Nat → Nat → Int32) (q2 : Nat → Nat) (F2 : Nat → Int32) (B2 : Nat → Nat → Int32) (M : gm_M)  (wf : gm_wf M) (hr : gc_rep F B M)  : gk_I l yX1_changes wsX1_changes ({ frames := 0, cells := 0, slots := 0, locals := 0 } : Room) D (g_T cI cZ cJ) gn_E [.ref g] (gw_G g h1 h2 ++ (gs_W cI cZ h1 q F B ++ (gs_W cI cZ h2 q2 F2 B2))) 0 0 (fun (r : Int32) (u : gw_U) => r = nI (M 13 0) ∧ gc_rep u.1.1 u.1.2 M) (fun u => (gw_X cI cZ g h1 h2 q q2 u)) := by
  refine gk_I_of (ty := .int) (cc := cX1_changes) (nL := 1) (by decide +kernel) rfl (Nat.le_of_ble_eq_true rfl) ?_
  intro p e s m below meth c A Q hnm hE G RET
  obtain ⟨hz1, hz2, hz3, hz4, hz5, hz6, hz7, hz8⟩ := id wf
  have hinX0 : ∀ w ∈ wsX00, w ∈ wsX1_changes := fun w h9 => (List.mem_cons_of_mem _ (List.mem_append_right _ h9))
  have hinX1 : ∀ w ∈ wsX10, w ∈ wsX1_changes := fun w h9 => (List.mem_cons_of_mem _ (List.mem_append_left _ (List.mem_append_right _ h9)))
  have k10 := G.2.2.2.2.1 (.fieldLink RX1 10 "GustMill" "now" "LGustMill$State;") (List.mem_cons_of_mem _ (List.mem_append_left _ (List.mem_append_left _ (List.mem_of_getElem? (i := 0) rfl))))
  have kN120 := gn_120 (args := ([.ref g] : List Value).toArray) hE
  refine gk_aload_n G dX1_changes_0 0 rfl ?_
  refine gk_get (v' := .ref h1) G hinX1 (q0 := 0) rfl rfl 0 (by decide) k10 rfl rfl dX1_changes_1 ?_
  refine gk_getN (v' := .int (nI (M 13 0))) G hinX0 (q0 := 1) rfl rfl 13 (by decide) kN120 rfl (congrArg Value.int (hr.1.2.2.2.2.1)) dX1_changes_4 ?_
  exact RET _ _ _ _ _ _ ((F, B), (F2, B2)) dX1_changes_7 rfl ⟨rfl, hr⟩ rfl (Nat.le_of_ble_eq_true rfl) (Nat.le_of_ble_eq_true rfl)
set_option maxRecDepth 100000 in
set_option maxHeartbeats 1000000 in
theorem c1_ground (l : Launch) (D : va_G) (cI cZ cJ : ClassId) (g h1 h2 : Nat) (q : Nat → Nat) (F : Nat → Int32) (B : Nat → Nat → Int32) (q2 : Nat → Nat) (F2 : Nat → Int32) (B2 : Nat → Nat → Int32) (M : gm_M)  (wf : gm_wf M) (hr : gc_rep F B M)  : gk_I l yX1_ground wsX1_ground ({ frames := 0, cells := 0, slots := 0, locals := 0 } : Room) D (g_T cI cZ cJ) gn_E [.ref g] (gw_G g h1 h2 ++ (gs_W cI cZ h1 q F B ++ (gs_W cI cZ h2 q2 F2 B2))) 0 0 (fun (r : Int32) (u : gw_U) => r = nI (gm_gct M (M 11 0)) ∧ gc_rep u.1.1 u.1.2 M) (fun u => (gw_X cI cZ g h1 h2 q q2 u)) := by
  refine gk_I_of (ty := .int) (cc := cX1_ground) (nL := 1) (by decide +kernel) rfl (Nat.le_of_ble_eq_true rfl) ?_
  intro p e s m below meth c A Q hnm hE G RET
  obtain ⟨hz1, hz2, hz3, hz4, hz5, hz6, hz7, hz8⟩ := id wf
  have hinX0 : ∀ w ∈ wsX00, w ∈ wsX1_ground := fun w h9 => (List.mem_cons_of_mem _ (List.mem_append_right _ h9))
  have hinX1 : ∀ w ∈ wsX10, w ∈ wsX1_ground := fun w h9 => (List.mem_cons_of_mem _ (List.mem_append_left _ (List.mem_append_right _ h9)))
  have k10 := G.2.2.2.2.1 (.fieldLink RX1 10 "GustMill" "now" "LGustMill$State;") (List.mem_cons_of_mem _ (List.mem_append_left _ (List.mem_append_left _ (List.mem_of_getElem? (i := 0) rfl))))
  have kN117 := gn_117 (args := ([.ref g] : List Value).toArray) hE
  refine gk_aload_n G dX1_ground_0 0 rfl ?_
  refine gk_get (v' := .ref h1) G hinX1 (q0 := 0) rfl rfl 0 (by decide) k10 rfl rfl dX1_ground_1 ?_
  refine gk_getN (v' := .int (nI (gm_gct M (M 11 0)))) G hinX0 (q0 := 1) rfl rfl 12 (by decide) kN117 rfl (congrArg Value.int (hr.1.2.2.2.1)) dX1_ground_4 ?_
  exact RET _ _ _ _ _ _ ((F, B), (F2, B2)) dX1_ground_7 rfl ⟨rfl, hr⟩ rfl (Nat.le_of_ble_eq_true rfl) (Nat.le_of_ble_eq_true rfl)
set_option maxRecDepth 100000 in
set_option maxHeartbeats 1000000 in
theorem c1_wind (l : Launch) (D : va_G) (cI cZ cJ : ClassId) (g h1 h2 : Nat) (q : Nat → Nat) (F : Nat → Int32) (B : Nat → Nat → Int32) (q2 : Nat → Nat) (F2 : Nat → Int32) (B2 : Nat → Nat → Int32) (M : gm_M)  (wf : gm_wf M) (hr : gc_rep F B M) (hh : M 9 0 < 2000000) : gk_I l yX1_wind wsX1_wind ({ frames := 2, cells := 0, slots := 0, locals := 42 } : Room) D (g_T cI cZ cJ) gn_E [.ref g] (gw_G g h1 h2 ++ (gs_W cI cZ h1 q F B ++ (gs_W cI cZ h2 q2 F2 B2))) 0 0 (fun (r : Int32) (u : gw_U) => r = nI (gm_wnd M) ∧ gc_rep u.1.1 u.1.2 M) (fun u => (gw_X cI cZ g h1 h2 q q2 u)) := by
  refine gk_I_of (ty := .int) (cc := cX1_wind) (nL := 1) (by decide +kernel) rfl (Nat.le_of_ble_eq_true rfl) ?_
  intro p e s m below meth c A Q hnm hE G RET
  obtain ⟨hz1, hz2, hz3, hz4, hz5, hz6, hz7, hz8⟩ := id wf
  have hinX1 : ∀ w ∈ wsX10, w ∈ wsX1_wind := fun w h9 => (List.mem_cons_of_mem _ (List.mem_append_left _ (List.mem_append_right _ h9)))
  have k10 := G.2.2.2.2.1 (.fieldLink RX1 10 "GustMill" "now" "LGustMill$State;") (List.mem_cons_of_mem _ (List.mem_append_left _ (List.mem_append_left _ (List.mem_of_getElem? (i := 0) rfl))))
  refine gk_aload_n G dX1_wind_0 0 rfl ?_
  refine gk_get (v' := .ref h1) G hinX1 (q0 := 0) rfl rfl 0 (by decide) k10 rfl rfl dX1_wind_1 ?_
  refine gk_callIV (wr := (gw_G g h1 h2 ++ (gs_W cI cZ h2 q2 F2 B2))) G (c0_windOfHour l D cI cZ cJ h1 q F B M wf hr hh) gX1_wind_X0_windOfHour rfl 0 (by decide +kernel) rfl rfl ⟨(Nat.le_of_ble_eq_true rfl), (Nat.le_of_ble_eq_true rfl)⟩ rfl (q0 := 0) rfl (T := TX0) (N := 16) rfl gk_ok0 trivial [1, 2, 3, 4, 5, 6, 7, 8, 9, 10] rfl (by decide) [0, 11, 12, 13, 14, 15, 16, 17, 18, 19, 20] rfl (by decide) (by decide) rfl (Nat.le_of_ble_eq_true rfl) dX1_wind_4 ⟨(Nat.le_of_ble_eq_true rfl), (Nat.le_of_ble_eq_true rfl)⟩ (fun r4 u4 hp4 => ?_)
  obtain rfl : r4 = nI (gm_wnd M) := hp4
  refine gk_wsub (w' := (gw_G g h1 h2 ++ (gs_W cI cZ h1 q F B ++ (gs_W cI cZ h2 q2 F2 B2)))) [0, 11, 12, 13, 14, 15, 16, 17, 18, 19, 20, 1, 2, 3, 4, 5, 6, 7, 8, 9, 10] rfl (by decide) ?_
  show gk_C p l e ({ frames := 2, cells := 0, slots := 0, locals := 42 } : Room) s m ([.ref g] : List Value).toArray below meth c 1 D A Q 0 0 (gw_G g h1 h2 ++ (gs_W cI cZ h1 q F B ++ (gs_W cI cZ h2 q2 F2 B2))) [(0, .ref g)] 7 [.int (nI (gm_wnd M))]
  exact RET _ _ _ _ _ _ ((F, B), (F2, B2)) dX1_wind_7 rfl ⟨rfl, hr⟩ rfl (Nat.le_of_ble_eq_true rfl) (Nat.le_of_ble_eq_true rfl)
set_option maxRecDepth 100000 in
set_option maxHeartbeats 1000000 in
theorem c1_sackOn_ok (l : Launch) (D : va_G) (cI cZ cJ : ClassId) (g h1 h2 : Nat) (q : Nat → Nat) (F : Nat → Int32) (B : Nat → Nat → Int32) (q2 : Nat → Nat) (F2 : Nat → Int32) (B2 : Nat → Nat → Int32) (M : gm_M) (v : Nat) (wf : gm_wf M) (hr : gc_rep F B M) (hv : v < M 10 0) : gk_I l yX1_sackOn wsX1_sackOn ({ frames := 0, cells := 0, slots := 0, locals := 0 } : Room) D (g_T cI cZ cJ) gn_E [.ref g, .int (nI v)] (gw_G g h1 h2 ++ (gs_W cI cZ h1 q F B ++ (gs_W cI cZ h2 q2 F2 B2))) 0 0 (fun (r : Int32) (u : gw_U) => r = gm_e (gm_who M v (M 11 0)) ∧ gc_rep u.1.1 u.1.2 M) (fun u => (gw_X cI cZ g h1 h2 q q2 u)) := by
  refine gk_I_of (ty := .int) (cc := cX1_sackOn) (nL := 2) (by decide +kernel) rfl (Nat.le_of_ble_eq_true rfl) ?_
  intro p e s m below meth c A Q hnm hE G RET
  obtain ⟨hz1, hz2, hz3, hz4, hz5, hz6, hz7, hz8⟩ := id wf
  have hinX0 : ∀ w ∈ wsX00, w ∈ wsX1_sackOn := fun w h9 => (List.mem_cons_of_mem _ (List.mem_append_left _ (List.mem_append_right _ h9)))
  have hinX1 : ∀ w ∈ wsX10, w ∈ wsX1_sackOn := fun w h9 => (List.mem_cons_of_mem _ (List.mem_append_left _ (List.mem_append_left _ (List.mem_append_right _ h9))))
  have k10 := G.2.2.2.2.1 (.fieldLink RX1 10 "GustMill" "now" "LGustMill$State;") (List.mem_cons_of_mem _ (List.mem_append_left _ (List.mem_append_left _ (List.mem_append_left _ (List.mem_of_getElem? (i := 2) rfl)))))
  have kN26 := gn_26 (args := ([.ref g, .int (nI v)] : List Value).toArray) hE
  have kN108 := gn_108 (args := ([.ref g, .int (nI v)] : List Value).toArray) hE
  refine gk_iload_n G dX1_sackOn_0 1 rfl ?_
  refine gk_if_lt (tgt := 15) G dX1_sackOn_1 (by decide) (fun c_1 => ?_) (fun c_1 => ?_)
  · replace c_1 := (nI_ltI (a := v) (b := 0) (by omega) (by omega)).mp c_1
    exact absurd c_1 (by omega)
  · replace c_1 := (not_congr (nI_ltI (a := v) (b := 0) (by omega) (by omega))).mp c_1
    refine gk_iload_n G dX1_sackOn_4 1 rfl ?_
    refine gk_aload_n G dX1_sackOn_5 0 rfl ?_
    refine gk_get (v' := .ref h1) G hinX1 (q0 := 0) rfl rfl 0 (by decide) k10 rfl rfl dX1_sackOn_6 ?_
    refine gk_getN (v' := .int (nI (M 10 0))) G hinX0 (q0 := 1) rfl rfl 10 (by decide) kN26 rfl (congrArg Value.int (hr.1.2.1)) dX1_sackOn_9 ?_
    refine gk_icmp_lt (tgt := 25) G dX1_sackOn_12 (by decide) (fun c_12 => ?_) (fun c_12 => ?_)
    · replace c_12 := (nI_ltI (a := v) (b := M 10 0) (by omega) (by omega)).mp c_12
      refine gk_aload_n G dX1_sackOn_25 0 rfl ?_
      refine gk_get (v' := .ref h1) G hinX1 (q0 := 0) rfl rfl 0 (by decide) k10 rfl rfl dX1_sackOn_26 ?_
      refine gk_getN (v' := .ref (q 2)) G hinX0 (q0 := 1) rfl rfl 2 (by decide) kN108 rfl rfl dX1_sackOn_29 ?_
      refine gk_iload_n G dX1_sackOn_32 1 rfl ?_
      refine gk_iald (v := gm_e (gm_who M v (M 11 0))) G (q0 := 4) (t0 := 0) rfl rfl v rfl (by omega) (by decide) (hr.2.2.2.1 v (by omega)) dX1_sackOn_33 ?_
      exact RET _ _ _ _ _ _ ((F, B), (F2, B2)) dX1_sackOn_34 rfl ⟨rfl, hr⟩ rfl (Nat.le_of_ble_eq_true rfl) (Nat.le_of_ble_eq_true rfl)
    · replace c_12 := (not_congr (nI_ltI (a := v) (b := M 10 0) (by omega) (by omega))).mp c_12
      exact absurd c_12 (by omega)
set_option maxRecDepth 100000 in
set_option maxHeartbeats 1000000 in
theorem c1_stoneOf_ok (l : Launch) (D : va_G) (cI cZ cJ : ClassId) (g h1 h2 : Nat) (q : Nat → Nat) (F : Nat → Int32) (B : Nat → Nat → Int32) (q2 : Nat → Nat) (F2 : Nat → Int32) (B2 : Nat → Nat → Int32) (M : gm_M) (v : Nat) (wf : gm_wf M) (hr : gc_rep F B M) (hv : v < M 11 0) : gk_I l yX1_stoneOf wsX1_stoneOf ({ frames := 1, cells := 0, slots := 0, locals := 21 } : Room) D (g_T cI cZ cJ) gn_E [.ref g, .int (nI v)] (gw_G g h1 h2 ++ (gs_W cI cZ h1 q F B ++ (gs_W cI cZ h2 q2 F2 B2))) 0 0 (fun (r : Int32) (u : gw_U) => r = gm_e (M 7 v) ∧ gc_rep u.1.1 u.1.2 M) (fun u => (gw_X cI cZ g h1 h2 q q2 u)) := by
  refine gk_I_of (ty := .int) (cc := cX1_stoneOf) (nL := 2) (by decide +kernel) rfl (Nat.le_of_ble_eq_true rfl) ?_
  intro p e s m below meth c A Q hnm hE G RET
  obtain ⟨hz1, hz2, hz3, hz4, hz5, hz6, hz7, hz8⟩ := id wf
  have hinX0 : ∀ w ∈ wsX00, w ∈ wsX1_stoneOf := fun w h9 => (List.mem_cons_of_mem _ (List.mem_append_left _ (List.mem_append_right _ h9)))
  have hinX1 : ∀ w ∈ wsX10, w ∈ wsX1_stoneOf := fun w h9 => (List.mem_cons_of_mem _ (List.mem_append_left _ (List.mem_append_left _ (List.mem_append_right _ h9))))
  have k10 := G.2.2.2.2.1 (.fieldLink RX1 10 "GustMill" "now" "LGustMill$State;") (List.mem_cons_of_mem _ (List.mem_append_left _ (List.mem_append_left _ (List.mem_append_left _ (List.mem_of_getElem? (i := 0) rfl)))))
  have kN82 := gn_82 (args := ([.ref g, .int (nI v)] : List Value).toArray) hE
  refine gk_aload_n G dX1_stoneOf_0 0 rfl ?_
  refine gk_iload_n G dX1_stoneOf_1 1 rfl ?_
  refine gk_callVV (wr := []) G (c1_requireSack_ok l D cI cZ cJ g h1 h2 q F B q2 F2 B2 M v wf hr (by omega)) gX1_stoneOf_X1_requireSack rfl 1 (by decide +kernel) rfl rfl ⟨(Nat.le_of_ble_eq_true rfl), (Nat.le_of_ble_eq_true rfl)⟩ rfl (q0 := 0) rfl (T := TX1) (N := 2) rfl gn_ok hE [0, 1, 2, 3, 4, 5, 6, 7, 8, 9, 10, 11, 12, 13, 14, 15, 16, 17, 18, 19, 20] rfl (by decide) [] rfl (by decide) (by decide) rfl (Nat.le_of_ble_eq_true rfl) dX1_stoneOf_2 ⟨(Nat.le_of_ble_eq_true rfl), (Nat.le_of_ble_eq_true rfl)⟩ (fun u2 hp2 => ?_)
  show gk_C p l e ({ frames := 1, cells := 0, slots := 0, locals := 21 } : Room) s m ([.ref g, .int (nI v)] : List Value).toArray below meth c 2 D A Q 0 0 (gw_G g h1 h2 ++ (gs_W cI cZ h1 q F B ++ (gs_W cI cZ h2 q2 F2 B2))) [(0, .ref g), (1, .int (nI v))] 5 []
  refine gk_aload_n G dX1_stoneOf_5 0 rfl ?_
  refine gk_get (v' := .ref h1) G hinX1 (q0 := 0) rfl rfl 0 (by decide) k10 rfl rfl dX1_stoneOf_6 ?_
  refine gk_getN (v' := .ref (q 7)) G hinX0 (q0 := 1) rfl rfl 7 (by decide) kN82 rfl rfl dX1_stoneOf_9 ?_
  refine gk_iload_n G dX1_stoneOf_12 1 rfl ?_
  refine gk_iald (v := gm_e (M 7 v)) G (q0 := 9) (t0 := 0) rfl rfl v rfl (by omega) (by decide) (hr.2.2.2.2.2.2.2.1 v (by omega)) dX1_stoneOf_13 ?_
  exact RET _ _ _ _ _ _ ((F, B), (F2, B2)) dX1_stoneOf_14 rfl ⟨rfl, hr⟩ rfl (Nat.le_of_ble_eq_true rfl) (Nat.le_of_ble_eq_true rfl)
set_option maxRecDepth 100000 in
set_option maxHeartbeats 1000000 in
theorem c1_leftOf_ok (l : Launch) (D : va_G) (cI cZ cJ : ClassId) (g h1 h2 : Nat) (q : Nat → Nat) (F : Nat → Int32) (B : Nat → Nat → Int32) (q2 : Nat → Nat) (F2 : Nat → Int32) (B2 : Nat → Nat → Int32) (M : gm_M) (v : Nat) (wf : gm_wf M) (hr : gc_rep F B M) (hv : v < M 11 0) : gk_I l yX1_leftOf wsX1_leftOf ({ frames := 1, cells := 0, slots := 0, locals := 21 } : Room) D (g_T cI cZ cJ) gn_E [.ref g, .int (nI v)] (gw_G g h1 h2 ++ (gs_W cI cZ h1 q F B ++ (gs_W cI cZ h2 q2 F2 B2))) 0 0 (fun (r : Int32) (u : gw_U) => r = nI (M 5 v) ∧ gc_rep u.1.1 u.1.2 M) (fun u => (gw_X cI cZ g h1 h2 q q2 u)) := by
  refine gk_I_of (ty := .int) (cc := cX1_leftOf) (nL := 2) (by decide +kernel) rfl (Nat.le_of_ble_eq_true rfl) ?_
  intro p e s m below meth c A Q hnm hE G RET
  obtain ⟨hz1, hz2, hz3, hz4, hz5, hz6, hz7, hz8⟩ := id wf
  have hinX0 : ∀ w ∈ wsX00, w ∈ wsX1_leftOf := fun w h9 => (List.mem_cons_of_mem _ (List.mem_append_left _ (List.mem_append_right _ h9)))
  have hinX1 : ∀ w ∈ wsX10, w ∈ wsX1_leftOf := fun w h9 => (List.mem_cons_of_mem _ (List.mem_append_left _ (List.mem_append_left _ (List.mem_append_right _ h9))))
  have k10 := G.2.2.2.2.1 (.fieldLink RX1 10 "GustMill" "now" "LGustMill$State;") (List.mem_cons_of_mem _ (List.mem_append_left _ (List.mem_append_left _ (List.mem_append_left _ (List.mem_of_getElem? (i := 0) rfl)))))
  have kN111 := gn_111 (args := ([.ref g, .int (nI v)] : List Value).toArray) hE
  refine gk_aload_n G dX1_leftOf_0 0 rfl ?_
  refine gk_iload_n G dX1_leftOf_1 1 rfl ?_
  refine gk_callVV (wr := []) G (c1_requireSack_ok l D cI cZ cJ g h1 h2 q F B q2 F2 B2 M v wf hr (by omega)) gX1_leftOf_X1_requireSack rfl 1 (by decide +kernel) rfl rfl ⟨(Nat.le_of_ble_eq_true rfl), (Nat.le_of_ble_eq_true rfl)⟩ rfl (q0 := 0) rfl (T := TX1) (N := 2) rfl gn_ok hE [0, 1, 2, 3, 4, 5, 6, 7, 8, 9, 10, 11, 12, 13, 14, 15, 16, 17, 18, 19, 20] rfl (by decide) [] rfl (by decide) (by decide) rfl (Nat.le_of_ble_eq_true rfl) dX1_leftOf_2 ⟨(Nat.le_of_ble_eq_true rfl), (Nat.le_of_ble_eq_true rfl)⟩ (fun u2 hp2 => ?_)
  show gk_C p l e ({ frames := 1, cells := 0, slots := 0, locals := 21 } : Room) s m ([.ref g, .int (nI v)] : List Value).toArray below meth c 2 D A Q 0 0 (gw_G g h1 h2 ++ (gs_W cI cZ h1 q F B ++ (gs_W cI cZ h2 q2 F2 B2))) [(0, .ref g), (1, .int (nI v))] 5 []
  refine gk_aload_n G dX1_leftOf_5 0 rfl ?_
  refine gk_get (v' := .ref h1) G hinX1 (q0 := 0) rfl rfl 0 (by decide) k10 rfl rfl dX1_leftOf_6 ?_
  refine gk_getN (v' := .ref (q 5)) G hinX0 (q0 := 1) rfl rfl 5 (by decide) kN111 rfl rfl dX1_leftOf_9 ?_
  refine gk_iload_n G dX1_leftOf_12 1 rfl ?_
  refine gk_iald (v := nI (M 5 v)) G (q0 := 7) (t0 := 0) rfl rfl v rfl (by omega) (by decide) (hr.2.2.2.2.2.1 v (by omega)) dX1_leftOf_13 ?_
  exact RET _ _ _ _ _ _ ((F, B), (F2, B2)) dX1_leftOf_14 rfl ⟨rfl, hr⟩ rfl (Nat.le_of_ble_eq_true rfl) (Nat.le_of_ble_eq_true rfl)
set_option maxRecDepth 100000 in
set_option maxHeartbeats 1000000 in
theorem c1_untilOf_ok (l : Launch) (D : va_G) (cI cZ cJ : ClassId) (g h1 h2 : Nat) (q : Nat → Nat) (F : Nat → Int32) (B : Nat → Nat → Int32) (q2 : Nat → Nat) (F2 : Nat → Int32) (B2 : Nat → Nat → Int32) (M : gm_M) (v : Nat) (wf : gm_wf M) (hr : gc_rep F B M) (hv : v < M 11 0) : gk_I l yX1_untilOf wsX1_untilOf ({ frames := 1, cells := 0, slots := 0, locals := 21 } : Room) D (g_T cI cZ cJ) gn_E [.ref g, .int (nI v)] (gw_G g h1 h2 ++ (gs_W cI cZ h1 q F B ++ (gs_W cI cZ h2 q2 F2 B2))) 0 0 (fun (r : Int32) (u : gw_U) => r = nI (M 6 v) ∧ gc_rep u.1.1 u.1.2 M) (fun u => (gw_X cI cZ g h1 h2 q q2 u)) := by
  refine gk_I_of (ty := .int) (cc := cX1_untilOf) (nL := 2) (by decide +kernel) rfl (Nat.le_of_ble_eq_true rfl) ?_
  intro p e s m below meth c A Q hnm hE G RET
  obtain ⟨hz1, hz2, hz3, hz4, hz5, hz6, hz7, hz8⟩ := id wf
  have hinX0 : ∀ w ∈ wsX00, w ∈ wsX1_untilOf := fun w h9 => (List.mem_cons_of_mem _ (List.mem_append_left _ (List.mem_append_right _ h9)))
  have hinX1 : ∀ w ∈ wsX10, w ∈ wsX1_untilOf := fun w h9 => (List.mem_cons_of_mem _ (List.mem_append_left _ (List.mem_append_left _ (List.mem_append_right _ h9))))
  have k10 := G.2.2.2.2.1 (.fieldLink RX1 10 "GustMill" "now" "LGustMill$State;") (List.mem_cons_of_mem _ (List.mem_append_left _ (List.mem_append_left _ (List.mem_append_left _ (List.mem_of_getElem? (i := 0) rfl)))))
  have kN90 := gn_90 (args := ([.ref g, .int (nI v)] : List Value).toArray) hE
  refine gk_aload_n G dX1_untilOf_0 0 rfl ?_
  refine gk_iload_n G dX1_untilOf_1 1 rfl ?_
  refine gk_callVV (wr := []) G (c1_requireSack_ok l D cI cZ cJ g h1 h2 q F B q2 F2 B2 M v wf hr (by omega)) gX1_untilOf_X1_requireSack rfl 1 (by decide +kernel) rfl rfl ⟨(Nat.le_of_ble_eq_true rfl), (Nat.le_of_ble_eq_true rfl)⟩ rfl (q0 := 0) rfl (T := TX1) (N := 2) rfl gn_ok hE [0, 1, 2, 3, 4, 5, 6, 7, 8, 9, 10, 11, 12, 13, 14, 15, 16, 17, 18, 19, 20] rfl (by decide) [] rfl (by decide) (by decide) rfl (Nat.le_of_ble_eq_true rfl) dX1_untilOf_2 ⟨(Nat.le_of_ble_eq_true rfl), (Nat.le_of_ble_eq_true rfl)⟩ (fun u2 hp2 => ?_)
  show gk_C p l e ({ frames := 1, cells := 0, slots := 0, locals := 21 } : Room) s m ([.ref g, .int (nI v)] : List Value).toArray below meth c 2 D A Q 0 0 (gw_G g h1 h2 ++ (gs_W cI cZ h1 q F B ++ (gs_W cI cZ h2 q2 F2 B2))) [(0, .ref g), (1, .int (nI v))] 5 []
  refine gk_aload_n G dX1_untilOf_5 0 rfl ?_
  refine gk_get (v' := .ref h1) G hinX1 (q0 := 0) rfl rfl 0 (by decide) k10 rfl rfl dX1_untilOf_6 ?_
  refine gk_getN (v' := .ref (q 6)) G hinX0 (q0 := 1) rfl rfl 6 (by decide) kN90 rfl rfl dX1_untilOf_9 ?_
  refine gk_iload_n G dX1_untilOf_12 1 rfl ?_
  refine gk_iald (v := nI (M 6 v)) G (q0 := 8) (t0 := 0) rfl rfl v rfl (by omega) (by decide) (hr.2.2.2.2.2.2.1 v (by omega)) dX1_untilOf_13 ?_
  exact RET _ _ _ _ _ _ ((F, B), (F2, B2)) dX1_untilOf_14 rfl ⟨rfl, hr⟩ rfl (Nat.le_of_ble_eq_true rfl) (Nat.le_of_ble_eq_true rfl)
set_option maxRecDepth 100000 in
set_option maxHeartbeats 1000000 in
theorem c1_groundAt_ok (l : Launch) (D : va_G) (cI cZ cJ : ClassId) (g h1 h2 : Nat) (q : Nat → Nat) (F : Nat → Int32) (B : Nat → Nat → Int32) (q2 : Nat → Nat) (F2 : Nat → Int32) (B2 : Nat → Nat → Int32) (M : gm_M) (v : Nat) (wf : gm_wf M) (hr : gc_rep F B M) (hv : v < M 11 0) : gk_I l yX1_groundAt wsX1_groundAt ({ frames := 1, cells := 0, slots := 0, locals := 21 } : Room) D (g_T cI cZ cJ) gn_E [.ref g, .int (nI v)] (gw_G g h1 h2 ++ (gs_W cI cZ h1 q F B ++ (gs_W cI cZ h2 q2 F2 B2))) 0 0 (fun (r : Int32) (u : gw_U) => r = gm_e (M 8 v) ∧ gc_rep u.1.1 u.1.2 M) (fun u => (gw_X cI cZ g h1 h2 q q2 u)) := by
  refine gk_I_of (ty := .int) (cc := cX1_groundAt) (nL := 2) (by decide +kernel) rfl (Nat.le_of_ble_eq_true rfl) ?_
  intro p e s m below meth c A Q hnm hE G RET
  obtain ⟨hz1, hz2, hz3, hz4, hz5, hz6, hz7, hz8⟩ := id wf
  have hinX0 : ∀ w ∈ wsX00, w ∈ wsX1_groundAt := fun w h9 => (List.mem_cons_of_mem _ (List.mem_append_left _ (List.mem_append_right _ h9)))
  have hinX1 : ∀ w ∈ wsX10, w ∈ wsX1_groundAt := fun w h9 => (List.mem_cons_of_mem _ (List.mem_append_left _ (List.mem_append_left _ (List.mem_append_right _ h9))))
  have k10 := G.2.2.2.2.1 (.fieldLink RX1 10 "GustMill" "now" "LGustMill$State;") (List.mem_cons_of_mem _ (List.mem_append_left _ (List.mem_append_left _ (List.mem_append_left _ (List.mem_of_getElem? (i := 0) rfl)))))
  have kN114 := gn_114 (args := ([.ref g, .int (nI v)] : List Value).toArray) hE
  refine gk_aload_n G dX1_groundAt_0 0 rfl ?_
  refine gk_iload_n G dX1_groundAt_1 1 rfl ?_
  refine gk_callVV (wr := []) G (c1_requireSack_ok l D cI cZ cJ g h1 h2 q F B q2 F2 B2 M v wf hr (by omega)) gX1_groundAt_X1_requireSack rfl 1 (by decide +kernel) rfl rfl ⟨(Nat.le_of_ble_eq_true rfl), (Nat.le_of_ble_eq_true rfl)⟩ rfl (q0 := 0) rfl (T := TX1) (N := 2) rfl gn_ok hE [0, 1, 2, 3, 4, 5, 6, 7, 8, 9, 10, 11, 12, 13, 14, 15, 16, 17, 18, 19, 20] rfl (by decide) [] rfl (by decide) (by decide) rfl (Nat.le_of_ble_eq_true rfl) dX1_groundAt_2 ⟨(Nat.le_of_ble_eq_true rfl), (Nat.le_of_ble_eq_true rfl)⟩ (fun u2 hp2 => ?_)
  show gk_C p l e ({ frames := 1, cells := 0, slots := 0, locals := 21 } : Room) s m ([.ref g, .int (nI v)] : List Value).toArray below meth c 2 D A Q 0 0 (gw_G g h1 h2 ++ (gs_W cI cZ h1 q F B ++ (gs_W cI cZ h2 q2 F2 B2))) [(0, .ref g), (1, .int (nI v))] 5 []
  refine gk_aload_n G dX1_groundAt_5 0 rfl ?_
  refine gk_get (v' := .ref h1) G hinX1 (q0 := 0) rfl rfl 0 (by decide) k10 rfl rfl dX1_groundAt_6 ?_
  refine gk_getN (v' := .ref (q 8)) G hinX0 (q0 := 1) rfl rfl 8 (by decide) kN114 rfl rfl dX1_groundAt_9 ?_
  refine gk_iload_n G dX1_groundAt_12 1 rfl ?_
  refine gk_iald (v := gm_e (M 8 v)) G (q0 := 10) (t0 := 0) rfl rfl v rfl (by omega) (by decide) (hr.2.2.2.2.2.2.2.2 v (by omega)) dX1_groundAt_13 ?_
  exact RET _ _ _ _ _ _ ((F, B), (F2, B2)) dX1_groundAt_14 rfl ⟨rfl, hr⟩ rfl (Nat.le_of_ble_eq_true rfl) (Nat.le_of_ble_eq_true rfl)
set_option maxRecDepth 100000 in
set_option maxHeartbeats 1000000 in
theorem c1_first (l : Launch) (D : va_G) (cI cZ cJ : ClassId) (g h1 h2 : Nat) (q : Nat → Nat) (F : Nat → Int32) (B : Nat → Nat → Int32) (q2 : Nat → Nat) (F2 : Nat → Int32) (B2 : Nat → Nat → Int32) (M : gm_M)  (wf : gm_wf M) (hr : gc_rep F B M) (hrest : gm_rest M) : gk_I l yX1_first wsX1_first ({ frames := 2, cells := 0, slots := 0, locals := 47 } : Room) D (g_T cI cZ cJ) gn_E [.ref g] (gw_G g h1 h2 ++ (gs_W cI cZ h1 q F B ++ (gs_W cI cZ h2 q2 F2 B2))) 0 0 (fun (r : Int32) (u : gw_U) => r = gm_e (gm_nxt M 0 (M 11 0)) ∧ gc_rep u.1.1 u.1.2 M) (fun u => (gw_X cI cZ g h1 h2 q q2 u)) := by
  refine gk_I_of (ty := .int) (cc := cX1_first) (nL := 1) (by decide +kernel) rfl (Nat.le_of_ble_eq_true rfl) ?_
  intro p e s m below meth c A Q hnm hE G RET
  obtain ⟨hz1, hz2, hz3, hz4, hz5, hz6, hz7, hz8⟩ := id wf
  have hinX1 : ∀ w ∈ wsX10, w ∈ wsX1_first := fun w h9 => (List.mem_cons_of_mem _ (List.mem_append_left _ (List.mem_append_right _ h9)))
  have k10 := G.2.2.2.2.1 (.fieldLink RX1 10 "GustMill" "now" "LGustMill$State;") (List.mem_cons_of_mem _ (List.mem_append_left _ (List.mem_append_left _ (List.mem_of_getElem? (i := 0) rfl))))
  refine gk_aload_n G dX1_first_0 0 rfl ?_
  refine gk_get (v' := .ref h1) G hinX1 (q0 := 0) rfl rfl 0 (by decide) k10 rfl rfl dX1_first_1 ?_
  refine gk_iconst (v := nI 0) G dX1_first_4 (by decide) ?_
  refine gk_callIV (wr := (gw_G g h1 h2 ++ (gs_W cI cZ h2 q2 F2 B2))) G (c0_firstByRule l D cI cZ cJ h1 q F B M 0 wf hr hrest (by omega)) gX1_first_X0_firstByRule rfl 1 (by decide +kernel) rfl rfl ⟨(Nat.le_of_ble_eq_true rfl), (Nat.le_of_ble_eq_true rfl)⟩ rfl (q0 := 0) rfl (T := TX0) (N := 16) rfl gk_ok0 trivial [1, 2, 3, 4, 5, 6, 7, 8, 9, 10] rfl (by decide) [0, 11, 12, 13, 14, 15, 16, 17, 18, 19, 20] rfl (by decide) (by decide) rfl (Nat.le_of_ble_eq_true rfl) dX1_first_5 ⟨(Nat.le_of_ble_eq_true rfl), (Nat.le_of_ble_eq_true rfl)⟩ (fun r5 u5 hp5 => ?_)
  obtain rfl : r5 = gm_e (gm_nxt M 0 (M 11 0)) := hp5
  refine gk_wsub (w' := (gw_G g h1 h2 ++ (gs_W cI cZ h1 q F B ++ (gs_W cI cZ h2 q2 F2 B2)))) [0, 11, 12, 13, 14, 15, 16, 17, 18, 19, 20, 1, 2, 3, 4, 5, 6, 7, 8, 9, 10] rfl (by decide) ?_
  show gk_C p l e ({ frames := 2, cells := 0, slots := 0, locals := 47 } : Room) s m ([.ref g] : List Value).toArray below meth c 1 D A Q 0 0 (gw_G g h1 h2 ++ (gs_W cI cZ h1 q F B ++ (gs_W cI cZ h2 q2 F2 B2))) [(0, .ref g)] 8 [.int (gm_e (gm_nxt M 0 (M 11 0)))]
  exact RET _ _ _ _ _ _ ((F, B), (F2, B2)) dX1_first_8 rfl ⟨rfl, hr⟩ rfl (Nat.le_of_ble_eq_true rfl) (Nat.le_of_ble_eq_true rfl)
set_option maxRecDepth 100000 in
set_option maxHeartbeats 1000000 in
theorem c1_placeOf_ok (l : Launch) (D : va_G) (cI cZ cJ : ClassId) (g h1 h2 : Nat) (q : Nat → Nat) (F : Nat → Int32) (B : Nat → Nat → Int32) (q2 : Nat → Nat) (F2 : Nat → Int32) (B2 : Nat → Nat → Int32) (M : gm_M) (v : Nat) (wf : gm_wf M) (hr : gc_rep F B M) (hrest : gm_rest M) (hv : v < M 11 0) : gk_I l yX1_placeOf wsX1_placeOf ({ frames := 2, cells := 0, slots := 0, locals := 46 } : Room) D (g_T cI cZ cJ) gn_E [.ref g, .int (nI v)] (gw_G g h1 h2 ++ (gs_W cI cZ h1 q F B ++ (gs_W cI cZ h2 q2 F2 B2))) 0 0 (fun (r : Int32) (u : gw_U) => r = gm_plc M v ∧ gc_rep u.1.1 u.1.2 M) (fun u => (gw_X cI cZ g h1 h2 q q2 u)) := by
  refine gk_I_of (ty := .int) (cc := cX1_placeOf) (nL := 2) (by decide +kernel) rfl (Nat.le_of_ble_eq_true rfl) ?_
  intro p e s m below meth c A Q hnm hE G RET
  obtain ⟨hz1, hz2, hz3, hz4, hz5, hz6, hz7, hz8⟩ := id wf
  have hv7 := hz7 v hv
  have hinX1 : ∀ w ∈ wsX10, w ∈ wsX1_placeOf := fun w h9 => (List.mem_cons_of_mem _ (List.mem_append_left _ (List.mem_append_left _ (List.mem_append_right _ h9))))
  have k10 := G.2.2.2.2.1 (.fieldLink RX1 10 "GustMill" "now" "LGustMill$State;") (List.mem_cons_of_mem _ (List.mem_append_left _ (List.mem_append_left _ (List.mem_append_left _ (List.mem_append_left _ (List.mem_of_getElem? (i := 0) rfl))))))
  refine gk_aload_n G dX1_placeOf_0 0 rfl ?_
  refine gk_iload_n G dX1_placeOf_1 1 rfl ?_
  refine gk_callVV (wr := []) G (c1_requireSack_ok l D cI cZ cJ g h1 h2 q F B q2 F2 B2 M v wf hr (by omega)) gX1_placeOf_X1_requireSack rfl 1 (by decide +kernel) rfl rfl ⟨(Nat.le_of_ble_eq_true rfl), (Nat.le_of_ble_eq_true rfl)⟩ rfl (q0 := 0) rfl (T := TX1) (N := 2) rfl gn_ok hE [0, 1, 2, 3, 4, 5, 6, 7, 8, 9, 10, 11, 12, 13, 14, 15, 16, 17, 18, 19, 20] rfl (by decide) [] rfl (by decide) (by decide) rfl (Nat.le_of_ble_eq_true rfl) dX1_placeOf_2 ⟨(Nat.le_of_ble_eq_true rfl), (Nat.le_of_ble_eq_true rfl)⟩ (fun u2 hp2 => ?_)
  show gk_C p l e ({ frames := 2, cells := 0, slots := 0, locals := 46 } : Room) s m ([.ref g, .int (nI v)] : List Value).toArray below meth c 2 D A Q 0 0 (gw_G g h1 h2 ++ (gs_W cI cZ h1 q F B ++ (gs_W cI cZ h2 q2 F2 B2))) [(0, .ref g), (1, .int (nI v))] 5 []
  refine gk_aload_n G dX1_placeOf_5 0 rfl ?_
  refine gk_get (v' := .ref h1) G hinX1 (q0 := 0) rfl rfl 0 (by decide) k10 rfl rfl dX1_placeOf_6 ?_
  refine gk_iload_n G dX1_placeOf_9 1 rfl ?_
  refine gk_callIV (wr := (gw_G g h1 h2 ++ (gs_W cI cZ h2 q2 F2 B2))) G (c0_isGround l D cI cZ cJ h1 q F B M v wf hr hv) gX1_placeOf_X0_isGround rfl 1 (by decide +kernel) rfl rfl ⟨(Nat.le_of_ble_eq_true rfl), (Nat.le_of_ble_eq_true rfl)⟩ rfl (q0 := 0) rfl (T := TX0) (N := 16) rfl gk_ok0 trivial [1, 2, 3, 4, 5, 6, 7, 8, 9, 10] rfl (by decide) [0, 11, 12, 13, 14, 15, 16, 17, 18, 19, 20] rfl (by decide) (by decide) rfl (Nat.le_of_ble_eq_true rfl) dX1_placeOf_10 ⟨(Nat.le_of_ble_eq_true rfl), (Nat.le_of_ble_eq_true rfl)⟩ (fun r10 u10 hp10 => ?_)
  obtain rfl : r10 = gm_b (M 5 v = 0) := hp10
  refine gk_wsub (w' := (gw_G g h1 h2 ++ (gs_W cI cZ h1 q F B ++ (gs_W cI cZ h2 q2 F2 B2)))) [0, 11, 12, 13, 14, 15, 16, 17, 18, 19, 20, 1, 2, 3, 4, 5, 6, 7, 8, 9, 10] rfl (by decide) ?_
  show gk_C p l e ({ frames := 2, cells := 0, slots := 0, locals := 46 } : Room) s m ([.ref g, .int (nI v)] : List Value).toArray below meth c 2 D A Q 0 0 (gw_G g h1 h2 ++ (gs_W cI cZ h1 q F B ++ (gs_W cI cZ h2 q2 F2 B2))) [(0, .ref g), (1, .int (nI v))] 13 [.int (gm_b (M 5 v = 0))]
  refine gk_if_eq (tgt := 20) G dX1_placeOf_13 (by decide) (fun c_13 => ?_) (fun c_13 => ?_)
  · replace c_13 := gm_b_eq.mp c_13
    have e8 : M 8 v = 0 := Decidable.byContradiction (fun q9 => c_13 (hv7.2.2.2.2.2.1 q9).2)
    refine gk_aload_n G dX1_placeOf_20 0 rfl ?_
    refine gk_get (v' := .ref h1) G hinX1 (q0 := 0) rfl rfl 0 (by decide) k10 rfl rfl dX1_placeOf_21 ?_
    refine gk_iload_n G dX1_placeOf_24 1 rfl ?_
    refine gk_callIV (wr := (gw_G g h1 h2 ++ (gs_W cI cZ h2 q2 F2 B2))) G (c0_countAhead l D cI cZ cJ h1 q F B M v wf hr hrest hv) gX1_placeOf_X0_countAhead rfl 1 (by decide +kernel) rfl rfl ⟨(Nat.le_of_ble_eq_true rfl), (Nat.le_of_ble_eq_true rfl)⟩ rfl (q0 := 0) rfl (T := TX0) (N := 16) rfl gk_ok0 trivial [1, 2, 3, 4, 5, 6, 7, 8, 9, 10] rfl (by decide) [0, 11, 12, 13, 14, 15, 16, 17, 18, 19, 20] rfl (by decide) (by decide) rfl (Nat.le_of_ble_eq_true rfl) dX1_placeOf_25 ⟨(Nat.le_of_ble_eq_true rfl), (Nat.le_of_ble_eq_true rfl)⟩ (fun r25 u25 hp25 => ?_)
    obtain rfl : r25 = nI (gm_cnt M v (M 11 0)) := hp25
    refine gk_wsub (w' := (gw_G g h1 h2 ++ (gs_W cI cZ h1 q F B ++ (gs_W cI cZ h2 q2 F2 B2)))) [0, 11, 12, 13, 14, 15, 16, 17, 18, 19, 20, 1, 2, 3, 4, 5, 6, 7, 8, 9, 10] rfl (by decide) ?_
    show gk_C p l e ({ frames := 2, cells := 0, slots := 0, locals := 46 } : Room) s m ([.ref g, .int (nI v)] : List Value).toArray below meth c 2 D A Q 0 0 (gw_G g h1 h2 ++ (gs_W cI cZ h1 q F B ++ (gs_W cI cZ h2 q2 F2 B2))) [(0, .ref g), (1, .int (nI v))] 28 [.int (nI (gm_cnt M v (M 11 0)))]
    exact RET _ _ _ _ _ _ ((F, B), (F2, B2)) dX1_placeOf_28 rfl ⟨(by unfold gm_plc; first | rw [if_pos e8] | rw [if_neg e8]), hr⟩ rfl (Nat.le_of_ble_eq_true rfl) (Nat.le_of_ble_eq_true rfl)
  · replace c_13 := gm_b_ne.mp c_13
    have e8 : M 8 v ≠ 0 := hrest v hv c_13
    refine gk_iconst (v := -1) G dX1_placeOf_16 (by decide) ?_
    refine gk_goto (tgt := 28) G dX1_placeOf_17 (by decide) ?_
    exact RET _ _ _ _ _ _ ((F, B), (F2, B2)) dX1_placeOf_28 rfl ⟨(by unfold gm_plc; first | rw [if_pos e8] | rw [if_neg e8]), hr⟩ rfl (Nat.le_of_ble_eq_true rfl) (Nat.le_of_ble_eq_true rfl)
theorem gm_rst_lt {M : gm_M} (wf : gm_wf M) (v : Nat) : ∀ k : Nat, k ≤ M 11 0 → gm_rst M v k ≤ 60 * k
  | 0, _ => Nat.le_refl 0
  | k + 1, hk => by
    have ih := gm_rst_lt wf v k (by omega)
    have h7 := wf.2.2.2.2.2.2.1 k (by omega)
    show gm_rst M v k + (if M 4 k = v then M 5 k else 0) ≤ 60 * (k + 1)
    split <;> omega
set_option maxRecDepth 100000 in
set_option maxHeartbeats 1000000 in
theorem c1_leftFor_ok (l : Launch) (D : va_G) (cI cZ cJ : ClassId) (g h1 h2 : Nat) (q : Nat → Nat) (F : Nat → Int32) (B : Nat → Nat → Int32) (q2 : Nat → Nat) (F2 : Nat → Int32) (B2 : Nat → Nat → Int32) (M : gm_M) (v : Nat) (wf : gm_wf M) (hr : gc_rep F B M) (hv : v < 8) : gk_I l yX1_leftFor wsX1_leftFor ({ frames := 1, cells := 0, slots := 0, locals := 20 } : Room) D (g_T cI cZ cJ) gn_E [.ref g, .int (nI v)] (gw_G g h1 h2 ++ (gs_W cI cZ h1 q F B ++ (gs_W cI cZ h2 q2 F2 B2))) 0 0 (fun (r : Int32) (u : gw_U) => r = nI (gm_rst M v (M 11 0)) ∧ gc_rep u.1.1 u.1.2 M) (fun u => (gw_X cI cZ g h1 h2 q q2 u)) := by
  refine gk_I_of (ty := .int) (cc := cX1_leftFor) (nL := 4) (by decide +kernel) rfl (Nat.le_of_ble_eq_true rfl) ?_
  intro p e s m below meth c A Q hnm hE G RET
  obtain ⟨hz1, hz2, hz3, hz4, hz5, hz6, hz7, hz8⟩ := id wf
  have hinX0 : ∀ w ∈ wsX00, w ∈ wsX1_leftFor := fun w h9 => (List.mem_cons_of_mem _ (List.mem_append_left _ (List.mem_append_right _ h9)))
  have hinX1 : ∀ w ∈ wsX10, w ∈ wsX1_leftFor := fun w h9 => (List.mem_cons_of_mem _ (List.mem_append_left _ (List.mem_append_left _ (List.mem_append_right _ h9))))
  have k10 := G.2.2.2.2.1 (.fieldLink RX1 10 "GustMill" "now" "LGustMill$State;") (List.mem_cons_of_mem _ (List.mem_append_left _ (List.mem_append_left _ (List.mem_append_left _ (List.mem_of_getElem? (i := 0) rfl)))))
  have kN70 := gn_70 (args := ([.ref g, .int (nI v)] : List Value).toArray) hE
  have kN111 := gn_111 (args := ([.ref g, .int (nI v)] : List Value).toArray) hE
  have kN134 := gn_134 (args := ([.ref g, .int (nI v)] : List Value).toArray) hE
  have L8 : ∀ (n : Nat) (k : Nat), M 11 0 - k < n → (k ≤ M 11 0) → gk_C p l e ({ frames := 1, cells := 0, slots := 0, locals := 20 } : Room) s m ([.ref g, .int (nI v)] : List Value).toArray below meth c 4 D A Q 0 0 (gw_G g h1 h2 ++ (gs_W cI cZ h1 q F B ++ (gs_W cI cZ h2 q2 F2 B2))) [(0, .ref g), (1, .int (nI v)), (2, .int (nI (gm_rst M v k))), (3, .int (nI k))] 8 [] := by
    intro n
    induction n with
    | zero => intro k h0; exact absurd h0 (Nat.not_lt_zero _)
    | succ n ih =>
      intro k h0 w0
      refine gk_iload_n G dX1_leftFor_8 3 rfl ?_
      refine gk_aload_n G dX1_leftFor_9 0 rfl ?_
      refine gk_get (v' := .ref h1) G hinX1 (q0 := 0) rfl rfl 0 (by decide) k10 rfl rfl dX1_leftFor_10 ?_
      refine gk_getN (v' := .int (nI (M 11 0))) G hinX0 (q0 := 1) rfl rfl 11 (by decide) kN70 rfl (congrArg Value.int (hr.1.2.2.1)) dX1_leftFor_13 ?_
      refine gk_icmp_ge (tgt := 50) G dX1_leftFor_16 (by decide) (fun c_16 => ?_) (fun c_16 => ?_)
      · replace c_16 := (nI_leI (a := M 11 0) (b := k) (by omega) (by omega)).mp c_16
        refine gk_iload_n G dX1_leftFor_50 2 rfl ?_
        exact RET _ _ _ _ _ _ ((F, B), (F2, B2)) dX1_leftFor_51 rfl ⟨(by rw [show k = M 11 0 by omega]), hr⟩ rfl (Nat.le_of_ble_eq_true rfl) (Nat.le_of_ble_eq_true rfl)
      · replace c_16 := (not_congr (nI_leI (a := M 11 0) (b := k) (by omega) (by omega))).mp c_16
        have hk7 := hz7 k (by omega)
        have hrk := gm_rst_lt wf v k (by omega)
        refine gk_aload_n G dX1_leftFor_19 0 rfl ?_
        refine gk_get (v' := .ref h1) G hinX1 (q0 := 0) rfl rfl 0 (by decide) k10 rfl rfl dX1_leftFor_20 ?_
        refine gk_getN (v' := .ref (q 4)) G hinX0 (q0 := 1) rfl rfl 4 (by decide) kN134 rfl rfl dX1_leftFor_23 ?_
        refine gk_iload_n G dX1_leftFor_26 3 rfl ?_
        refine gk_iald (v := nI (M 4 k)) G (q0 := 6) (t0 := 0) rfl rfl k rfl (by omega) (by decide) (hr.2.2.2.2.1 k (by omega)) dX1_leftFor_27 ?_
        refine gk_iload_n G dX1_leftFor_28 1 rfl ?_
        refine gk_icmp_ne (tgt := 44) G dX1_leftFor_29 (by decide) (fun c_29 => ?_) (fun c_29 => ?_)
        · replace c_29 := (not_congr (nI_eq (a := M 4 k) (b := v) (by omega) (by omega))).mp c_29
          refine gk_iinc (j := 3) (v := nI (k + 1)) (lv' := [(3, .int (nI (k + 1))), (0, .ref g), (1, .int (nI v)), (2, .int (nI (gm_rst M v k)))]) G dX1_leftFor_44 rfl (nI_add k 1) (by decide) rfl ?_
          refine gk_goto (tgt := 8) G dX1_leftFor_47 (by decide) ?_
          have e9 : gm_rst M v (k + 1) = gm_rst M v k := by
            show gm_rst M v k + (if M 4 k = v then M 5 k else 0) = _
            rw [if_neg (by omega)]; rfl
          have t9 := ih (k + 1) (by omega) (by omega)
          rw [e9] at t9
          exact gk_lsub [1,2,3,0] rfl t9
        · replace c_29 := (nI_eq (a := M 4 k) (b := v) (by omega) (by omega)).mp c_29
          refine gk_iload_n G dX1_leftFor_32 2 rfl ?_
          refine gk_aload_n G dX1_leftFor_33 0 rfl ?_
          refine gk_get (v' := .ref h1) G hinX1 (q0 := 0) rfl rfl 0 (by decide) k10 rfl rfl dX1_leftFor_34 ?_
          refine gk_getN (v' := .ref (q 5)) G hinX0 (q0 := 1) rfl rfl 5 (by decide) kN111 rfl rfl dX1_leftFor_37 ?_
          refine gk_iload_n G dX1_leftFor_40 3 rfl ?_
          refine gk_iald (v := nI (M 5 k)) G (q0 := 7) (t0 := 0) rfl rfl k rfl (by omega) (by decide) (hr.2.2.2.2.2.1 k (by omega)) dX1_leftFor_41 ?_
          refine gk_iadd (v := nI ((gm_rst M v k) + (M 5 k))) G dX1_leftFor_42 (nI_add (gm_rst M v k) (M 5 k)) ?_
          refine gk_istore_n (lv' := [(2, .int (nI ((gm_rst M v k) + (M 5 k)))), (0, .ref g), (1, .int (nI v)), (3, .int (nI k))]) G dX1_leftFor_43 rfl (by decide) rfl ?_
          refine gk_iinc (j := 3) (v := nI (k + 1)) (lv' := [(3, .int (nI (k + 1))), (2, .int (nI ((gm_rst M v k) + (M 5 k)))), (0, .ref g), (1, .int (nI v))]) G dX1_leftFor_44 rfl (nI_add k 1) (by decide) rfl ?_
          refine gk_goto (tgt := 8) G dX1_leftFor_47 (by decide) ?_
          have e9 : gm_rst M v (k + 1) = (gm_rst M v k) + (M 5 k) := by
            show gm_rst M v k + (if M 4 k = v then M 5 k else 0) = _
            rw [if_pos (by omega)]
          have t9 := ih (k + 1) (by omega) (by omega)
          rw [e9] at t9
          exact gk_lsub [2,3,1,0] rfl t9
  refine gk_iload_n G dX1_leftFor_0 1 rfl ?_
  refine gk_callVS (wc := []) (wr := (gw_G g h1 h2 ++ (gs_W cI cZ h1 q F B ++ (gs_W cI cZ h2 q2 F2 B2)))) (isC := []) (isR := [0, 1, 2, 3, 4, 5, 6, 7, 8, 9, 10, 11, 12, 13, 14, 15, 16, 17, 18, 19, 20]) G (c1_requireBaker_ok l D cI cZ cJ v (by omega) (by omega)) gX1_leftFor_X1_requireBaker rfl 1 (by decide +kernel) rfl rfl ⟨(Nat.le_of_ble_eq_true rfl), (Nat.le_of_ble_eq_true rfl)⟩ rfl gk_ok0 trivial rfl (by decide) rfl (by decide) (by decide) rfl (Nat.le_of_ble_eq_true rfl) dX1_leftFor_1 ⟨(Nat.le_of_ble_eq_true rfl), (Nat.le_of_ble_eq_true rfl)⟩ (fun u1 hp1 => ?_)
  show gk_C p l e ({ frames := 1, cells := 0, slots := 0, locals := 20 } : Room) s m ([.ref g, .int (nI v)] : List Value).toArray below meth c 4 D A Q 0 0 (gw_G g h1 h2 ++ (gs_W cI cZ h1 q F B ++ (gs_W cI cZ h2 q2 F2 B2))) [(0, .ref g), (1, .int (nI v))] 4 []
  refine gk_iconst (v := nI 0) G dX1_leftFor_4 (by decide) ?_
  refine gk_istore_n (lv' := [(2, .int (nI 0)), (0, .ref g), (1, .int (nI v))]) G dX1_leftFor_5 rfl (by decide) rfl ?_
  refine gk_iconst (v := nI 0) G dX1_leftFor_6 (by decide) ?_
  refine gk_istore_n (lv' := [(3, .int (nI 0)), (2, .int (nI 0)), (0, .ref g), (1, .int (nI v))]) G dX1_leftFor_7 rfl (by decide) rfl ?_
  exact gk_lsub [2,3,1,0] rfl (L8 (M 11 0 + 1) 0 (by omega) (by omega))
set_option maxRecDepth 100000 in
set_option maxHeartbeats 1000000 in
theorem c1_late (l : Launch) (D : va_G) (cI cZ cJ : ClassId) (g h1 h2 : Nat) (q : Nat → Nat) (F : Nat → Int32) (B : Nat → Nat → Int32) (q2 : Nat → Nat) (F2 : Nat → Int32) (B2 : Nat → Nat → Int32) (M : gm_M)  (wf : gm_wf M) (hr : gc_rep F B M) (hrest : gm_rest M) (hh : M 9 0 < 2000000) : gk_I l yX1_late wsX1_late ({ frames := 2, cells := 0, slots := 0, locals := 43 } : Room) D (g_T cI cZ cJ) gn_E [.ref g] (gw_G g h1 h2 ++ (gs_W cI cZ h1 q F B ++ (gs_W cI cZ h2 q2 F2 B2))) 0 0 (fun (r : Int32) (u : gw_U) => r = nI (gm_late M 0 (M 11 0)) ∧ gc_rep u.1.1 u.1.2 M) (fun u => (gw_X cI cZ g h1 h2 q q2 u)) := by
  refine gk_I_of (ty := .int) (cc := cX1_late) (nL := 1) (by decide +kernel) rfl (Nat.le_of_ble_eq_true rfl) ?_
  intro p e s m below meth c A Q hnm hE G RET
  obtain ⟨hz1, hz2, hz3, hz4, hz5, hz6, hz7, hz8⟩ := id wf
  have hinX1 : ∀ w ∈ wsX10, w ∈ wsX1_late := fun w h9 => (List.mem_cons_of_mem _ (List.mem_append_left _ (List.mem_append_right _ h9)))
  have k10 := G.2.2.2.2.1 (.fieldLink RX1 10 "GustMill" "now" "LGustMill$State;") (List.mem_cons_of_mem _ (List.mem_append_left _ (List.mem_append_left _ (List.mem_of_getElem? (i := 0) rfl))))
  refine gk_aload_n G dX1_late_0 0 rfl ?_
  refine gk_get (v' := .ref h1) G hinX1 (q0 := 0) rfl rfl 0 (by decide) k10 rfl rfl dX1_late_1 ?_
  refine gk_callIV (wr := (gw_G g h1 h2 ++ (gs_W cI cZ h2 q2 F2 B2))) G (c0_hoursLate l D cI cZ cJ h1 q F B M wf hr hrest hh) gX1_late_X0_hoursLate rfl 0 (by decide +kernel) rfl rfl ⟨(Nat.le_of_ble_eq_true rfl), (Nat.le_of_ble_eq_true rfl)⟩ rfl (q0 := 0) rfl (T := TX0) (N := 16) rfl gk_ok0 trivial [1, 2, 3, 4, 5, 6, 7, 8, 9, 10] rfl (by decide) [0, 11, 12, 13, 14, 15, 16, 17, 18, 19, 20] rfl (by decide) (by decide) rfl (Nat.le_of_ble_eq_true rfl) dX1_late_4 ⟨(Nat.le_of_ble_eq_true rfl), (Nat.le_of_ble_eq_true rfl)⟩ (fun r4 u4 hp4 => ?_)
  obtain rfl : r4 = nI (gm_late M 0 (M 11 0)) := hp4
  refine gk_wsub (w' := (gw_G g h1 h2 ++ (gs_W cI cZ h1 q F B ++ (gs_W cI cZ h2 q2 F2 B2)))) [0, 11, 12, 13, 14, 15, 16, 17, 18, 19, 20, 1, 2, 3, 4, 5, 6, 7, 8, 9, 10] rfl (by decide) ?_
  show gk_C p l e ({ frames := 2, cells := 0, slots := 0, locals := 43 } : Room) s m ([.ref g] : List Value).toArray below meth c 1 D A Q 0 0 (gw_G g h1 h2 ++ (gs_W cI cZ h1 q F B ++ (gs_W cI cZ h2 q2 F2 B2))) [(0, .ref g)] 7 [.int (nI (gm_late M 0 (M 11 0)))]
  exact RET _ _ _ _ _ _ ((F, B), (F2, B2)) dX1_late_7 rfl ⟨rfl, hr⟩ rfl (Nat.le_of_ble_eq_true rfl) (Nat.le_of_ble_eq_true rfl)
end
section
theorem gm_d8 {X : gm_M} (wf : gm_wf X) {v : Nat} (hv : v < X 11 0) (h : X 5 v ≠ 0) : X 8 v = 0 :=
  Decidable.byContradiction (fun q9 => h ((wf.2.2.2.2.2.2.1 v hv).2.2.2.2.2.1 q9).2)
theorem gm_late_o (M : gm_M) (o : Nat) : ∀ n : Nat, gm_late M o n = gm_late M 0 n + o * (n - gm_gct M n)
  | 0 => rfl
  | n + 1 => by
    have ih := gm_late_o M o n
    have hg := gm_gct_le M n
    show gm_late M o n + (if M 8 n = 0 then o else M 8 n - 1 - M 6 n) = gm_late M 0 n + (if M 8 n = 0 then 0 else M 8 n - 1 - M 6 n) + o * (n + 1 - (gm_gct M n + (if M 8 n = 0 then 0 else 1)))
    rw [ih]
    by_cases h : M 8 n = 0
    · rw [if_pos h, if_pos h, if_pos h, show n + 1 - (gm_gct M n + 0) = (n - gm_gct M n) + 1 by omega, Nat.mul_add]; omega
    · rw [if_neg h, if_neg h, if_neg h, show n + 1 - (gm_gct M n + 1) = n - gm_gct M n by omega]; omega
set_option maxRecDepth 100000 in
set_option maxHeartbeats 1000000 in
theorem c1_lateWith_ok (l : Launch) (D : va_G) (cI cZ cJ : ClassId) (g h1 h2 : Nat) (q : Nat → Nat) (F : Nat → Int32) (B : Nat → Nat → Int32) (q2 : Nat → Nat) (F2 : Nat → Int32) (B2 : Nat → Nat → Int32) (M : gm_M) (v vo : Nat) (wf : gm_wf M) (hr : gc_rep F B M) (hrest : gm_rest M) (hh : M 9 0 < 1999000) (hv : v < 3) (hvo : vo ≤ 1) : gk_I l yX1_lateWith wsX1_lateWith ({ frames := 4, cells := 0, slots := 0, locals := 93 } : Room) D (g_T cI cZ cJ) gn_E [.ref g, .int (nI v), .int (nI vo)] (gw_G g h1 h2 ++ (gs_W cI cZ h1 q F B ++ (gs_W cI cZ h2 q2 F2 B2))) 0 0 (fun (r : Int32) (u : gw_U) => r = nI (gm_lw M v vo) ∧ gc_rep u.1.1 u.1.2 M) (fun u => (gw_X cI cZ g h1 h2 q q2 u)) := by
  refine gk_I_of (ty := .int) (cc := cX1_lateWith) (nL := 3) (by decide +kernel) rfl (Nat.le_of_ble_eq_true rfl) ?_
  intro p e s m below meth c A Q hnm hE G RET
  obtain ⟨hz1, hz2, hz3, hz4, hz5, hz6, hz7, hz8⟩ := id wf
  have hinX0 : ∀ w ∈ wsX00, w ∈ wsX1_lateWith := fun w h9 => (List.mem_cons_of_mem _ (List.mem_append_left _ (List.mem_append_right _ h9)))
  have hinX1 : ∀ w ∈ wsX10, w ∈ wsX1_lateWith := fun w h9 => (List.mem_cons_of_mem _ (List.mem_append_left _ (List.mem_append_left _ (List.mem_append_right _ h9))))
  have k10 := G.2.2.2.2.1 (.fieldLink RX1 10 "GustMill" "now" "LGustMill$State;") (List.mem_cons_of_mem _ (List.mem_append_left _ (List.mem_append_left _ (List.mem_append_left _ (List.mem_append_left _ (List.mem_of_getElem? (i := 1) rfl))))))
  have k16 := G.2.2.2.2.1 (.fieldLink RX1 16 "GustMill" "trial" "LGustMill$State;") (List.mem_cons_of_mem _ (List.mem_append_left _ (List.mem_append_left _ (List.mem_append_left _ (List.mem_append_left _ (List.mem_of_getElem? (i := 0) rfl))))))
  have kN54 := gn_54 (args := ([.ref g, .int (nI v), .int (nI vo)] : List Value).toArray) hE
  have kN57 := gn_57 (args := ([.ref g, .int (nI v), .int (nI vo)] : List Value).toArray) hE
  have kN70 := gn_70 (args := ([.ref g, .int (nI v), .int (nI vo)] : List Value).toArray) hE
  have kN117 := gn_117 (args := ([.ref g, .int (nI v), .int (nI vo)] : List Value).toArray) hE
  refine gk_iload_n G dX1_lateWith_0 1 rfl ?_
  refine gk_callVS (wc := []) (wr := (gw_G g h1 h2 ++ (gs_W cI cZ h1 q F B ++ (gs_W cI cZ h2 q2 F2 B2)))) (isC := []) (isR := [0, 1, 2, 3, 4, 5, 6, 7, 8, 9, 10, 11, 12, 13, 14, 15, 16, 17, 18, 19, 20]) G (c1_requireRule_ok l D cI cZ cJ v (by omega) (by omega)) gX1_lateWith_X1_requireRule rfl 1 (by decide +kernel) rfl rfl ⟨(Nat.le_of_ble_eq_true rfl), (Nat.le_of_ble_eq_true rfl)⟩ rfl gk_ok0 trivial rfl (by decide) rfl (by decide) (by decide) rfl (Nat.le_of_ble_eq_true rfl) dX1_lateWith_1 ⟨(Nat.le_of_ble_eq_true rfl), (Nat.le_of_ble_eq_true rfl)⟩ (fun u1 hp1 => ?_)
  show gk_C p l e ({ frames := 4, cells := 0, slots := 0, locals := 93 } : Room) s m ([.ref g, .int (nI v), .int (nI vo)] : List Value).toArray below meth c 3 D A Q 0 0 (gw_G g h1 h2 ++ (gs_W cI cZ h1 q F B ++ (gs_W cI cZ h2 q2 F2 B2))) [(0, .ref g), (1, .int (nI v)), (2, .int (nI vo))] 4 []
  refine gk_aload_n G dX1_lateWith_4 0 rfl ?_
  refine gk_get (v' := .ref h2) G hinX1 (q0 := 0) rfl rfl 1 (by decide) k16 rfl rfl dX1_lateWith_5 ?_
  refine gk_aload_n G dX1_lateWith_8 0 rfl ?_
  refine gk_get (v' := .ref h1) G hinX1 (q0 := 0) rfl rfl 0 (by decide) k10 rfl rfl dX1_lateWith_9 ?_
  refine gk_callVV (wr := gw_G g h1 h2) G (c0_become l D cI cZ cJ h2 q2 F2 B2 M h1 q F B wf hr) gX1_lateWith_X0_become rfl 1 (by decide +kernel) rfl rfl ⟨(Nat.le_of_ble_eq_true rfl), (Nat.le_of_ble_eq_true rfl)⟩ rfl (q0 := 0) rfl (T := TX0) (N := 16) rfl gk_ok0 trivial [11, 12, 13, 14, 15, 16, 17, 18, 19, 20, 1, 2, 3, 4, 5, 6, 7, 8, 9, 10] rfl (by decide) [0] rfl (by decide) (by decide) rfl (Nat.le_of_ble_eq_true rfl) dX1_lateWith_12 ⟨(Nat.le_of_ble_eq_true rfl), (Nat.le_of_ble_eq_true rfl)⟩ (fun u12 hp12 => ?_)
  obtain ⟨F12, B12⟩ := u12
  have hr12 : gc_rep F12 B12 M := hp12
  refine gk_wsub (w' := (gw_G g h1 h2 ++ (gs_W cI cZ h1 q F B ++ (gs_W cI cZ h2 q2 F12 B12)))) [0, 11, 12, 13, 14, 15, 16, 17, 18, 19, 20, 1, 2, 3, 4, 5, 6, 7, 8, 9, 10] rfl (by decide) ?_
  show gk_C p l e ({ frames := 4, cells := 0, slots := 0, locals := 93 } : Room) s m ([.ref g, .int (nI v), .int (nI vo)] : List Value).toArray below meth c 3 D A Q 0 0 (gw_G g h1 h2 ++ (gs_W cI cZ h1 q F B ++ (gs_W cI cZ h2 q2 F12 B12))) [(0, .ref g), (1, .int (nI v)), (2, .int (nI vo))] 15 []
  refine gk_aload_n G dX1_lateWith_15 0 rfl ?_
  refine gk_get (v' := .ref h2) G hinX1 (q0 := 0) rfl rfl 1 (by decide) k16 rfl rfl dX1_lateWith_16 ?_
  refine gk_iload_n G dX1_lateWith_19 1 rfl ?_
  refine gk_topi (fun v20 ev20 => ?_)
  refine gk_putN (w' := (gw_G g h1 h2 ++ (gs_W cI cZ h1 q F B ++ (gs_W cI cZ h2 q2 (upd F12 14 v20) B12)))) G hinX0 tyX0_ok nmX0 (q0 := 11) rfl rfl 14 (by decide) kN54 rfl rfl rfl (Nat.le_of_ble_eq_true rfl) rfl dX1_lateWith_20 ?_
  generalize eF20 : upd F12 14 v20 = F20
  refine gk_aload_n G dX1_lateWith_23 0 rfl ?_
  refine gk_get (v' := .ref h2) G hinX1 (q0 := 0) rfl rfl 1 (by decide) k16 rfl rfl dX1_lateWith_24 ?_
  refine gk_iload_n G dX1_lateWith_27 2 rfl ?_
  refine gk_topi (fun v28 ev28 => ?_)
  refine gk_putN (w' := (gw_G g h1 h2 ++ (gs_W cI cZ h1 q F B ++ (gs_W cI cZ h2 q2 (upd F20 15 v28) B12)))) G hinX0 tyX0_ok nmX0 (q0 := 11) rfl rfl 15 (by decide) kN57 rfl (gk_nz (by rw [ev28]; exact gm_01 hvo)) (gk_fz (by rw [ev28]; exact gm_01 hvo)) (Nat.le_of_ble_eq_true rfl) rfl dX1_lateWith_28 ?_
  generalize eF28 : upd F20 15 v28 = F28
  have hrT : gc_rep F28 B12 (gm_ru M v vo) := by subst eF28; subst ev28; subst eF20; subst ev20; exact gc_rep_set15 (gc_rep_set14 hr12)
  have wfT := gm_ru_wf wf (show v ≤ 2 by omega) hvo
  have restT := gm_ru_rest (r := v) (o := vo) hrest
  have e9T : (gm_ru M v vo) 9 0 = M 9 0 := gm_ru_ne M v vo 0 (by decide) (by decide)
  have e11T : (gm_hrs (gm_ru M v vo) 200) 11 0 = M 11 0 := (gm_hrs_ne _ 0 (by decide) (by decide) (by decide) (by decide) (by decide) (by decide) (by decide) 200).trans (gm_ru_ne M v vo 0 (by decide) (by decide))
  have wfX := gm_hrs_wf wfT 200
  have restX := gm_hrs_rest wfT restT 200
  have e9X : (gm_hrs (gm_ru M v vo) 200) 9 0 = (gm_ru M v vo) 9 0 + 200 := gm_hrs_9 _ 200
  have hg9 := gm_gct_le (gm_hrs (gm_ru M v vo) 200) ((gm_hrs (gm_ru M v vo) 200) 11 0)
  have hl9 := gm_late_o (gm_hrs (gm_ru M v vo) 200) 200 ((gm_hrs (gm_ru M v vo) 200) 11 0)
  have hlt := gm_lw_lt (r := v) (o := vo) wf (by omega) hvo hh
  refine gk_aload_n G dX1_lateWith_31 0 rfl ?_
  refine gk_get (v' := .ref h2) G hinX1 (q0 := 0) rfl rfl 1 (by decide) k16 rfl rfl dX1_lateWith_32 ?_
  refine gk_sipush (v := nI 200) G dX1_lateWith_35 (by decide) ?_
  refine gk_callIV (wr := (gw_G g h1 h2 ++ (gs_W cI cZ h1 q F B))) G (c0_run l D cI cZ cJ h2 q2 F28 B12 (gm_ru M v vo) 200 wfT hrT restT (by omega)) gX1_lateWith_X0_run rfl 1 (by decide +kernel) rfl rfl ⟨(Nat.le_of_ble_eq_true rfl), (Nat.le_of_ble_eq_true rfl)⟩ rfl (q0 := 0) rfl (T := TX0) (N := 16) rfl gk_ok0 trivial [11, 12, 13, 14, 15, 16, 17, 18, 19, 20] rfl (by decide) [0, 1, 2, 3, 4, 5, 6, 7, 8, 9, 10] rfl (by decide) (by decide) rfl (Nat.le_of_ble_eq_true rfl) dX1_lateWith_38 ⟨(Nat.le_of_ble_eq_true rfl), (Nat.le_of_ble_eq_true rfl)⟩ (fun r38 u38 hp38 => ?_)
  obtain ⟨F38, B38⟩ := u38
  have hr38 : gc_rep F38 B38 (gm_hrs (gm_ru M v vo) 200) := hp38.2
  obtain rfl : r38 = nI ((gm_hrs (gm_ru M v vo) 200) 16 0 - (gm_ru M v vo) 16 0) := hp38.1
  show gk_C p l e ({ frames := 4, cells := 0, slots := 0, locals := 93 } : Room) s m ([.ref g, .int (nI v), .int (nI vo)] : List Value).toArray below meth c 3 D A Q 0 0 (gw_G g h1 h2 ++ (gs_W cI cZ h1 q F B ++ (gs_W cI cZ h2 q2 F38 B38))) [(0, .ref g), (1, .int (nI v)), (2, .int (nI vo))] 41 [.int (nI ((gm_hrs (gm_ru M v vo) 200) 16 0 - (gm_ru M v vo) 16 0))]
  refine gk_pop G dX1_lateWith_41 rfl ?_
  refine gk_aload_n G dX1_lateWith_42 0 rfl ?_
  refine gk_get (v' := .ref h2) G hinX1 (q0 := 0) rfl rfl 1 (by decide) k16 rfl rfl dX1_lateWith_43 ?_
  refine gk_callIV (wr := (gw_G g h1 h2 ++ (gs_W cI cZ h1 q F B))) G (c0_hoursLate l D cI cZ cJ h2 q2 F38 B38 (gm_hrs (gm_ru M v vo) 200) wfX hr38 restX (by omega)) gX1_lateWith_X0_hoursLate rfl 0 (by decide +kernel) rfl rfl ⟨(Nat.le_of_ble_eq_true rfl), (Nat.le_of_ble_eq_true rfl)⟩ rfl (q0 := 0) rfl (T := TX0) (N := 16) rfl gk_ok0 trivial [11, 12, 13, 14, 15, 16, 17, 18, 19, 20] rfl (by decide) [0, 1, 2, 3, 4, 5, 6, 7, 8, 9, 10] rfl (by decide) (by decide) rfl (Nat.le_of_ble_eq_true rfl) dX1_lateWith_46 ⟨(Nat.le_of_ble_eq_true rfl), (Nat.le_of_ble_eq_true rfl)⟩ (fun r46 u46 hp46 => ?_)
  rw [show r46 = nI (gm_late (gm_hrs (gm_ru M v vo) 200) 0 ((gm_hrs (gm_ru M v vo) 200) 11 0)) from hp46]
  show gk_C p l e ({ frames := 4, cells := 0, slots := 0, locals := 93 } : Room) s m ([.ref g, .int (nI v), .int (nI vo)] : List Value).toArray below meth c 3 D A Q 0 0 (gw_G g h1 h2 ++ (gs_W cI cZ h1 q F B ++ (gs_W cI cZ h2 q2 F38 B38))) [(0, .ref g), (1, .int (nI v)), (2, .int (nI vo))] 49 [.int (nI (gm_late (gm_hrs (gm_ru M v vo) 200) 0 ((gm_hrs (gm_ru M v vo) 200) 11 0)))]
  refine gk_sipush (v := nI 200) G dX1_lateWith_49 (by decide) ?_
  refine gk_aload_n G dX1_lateWith_52 0 rfl ?_
  refine gk_get (v' := .ref h2) G hinX1 (q0 := 0) rfl rfl 1 (by decide) k16 rfl rfl dX1_lateWith_53 ?_
  refine gk_getN (v' := .int (nI ((gm_hrs (gm_ru M v vo) 200) 11 0))) G hinX0 (q0 := 11) rfl rfl 11 (by decide) kN70 rfl (congrArg Value.int (hr38.1.2.2.1)) dX1_lateWith_56 ?_
  refine gk_aload_n G dX1_lateWith_59 0 rfl ?_
  refine gk_get (v' := .ref h2) G hinX1 (q0 := 0) rfl rfl 1 (by decide) k16 rfl rfl dX1_lateWith_60 ?_
  refine gk_getN (v' := .int (nI (gm_gct (gm_hrs (gm_ru M v vo) 200) ((gm_hrs (gm_ru M v vo) 200) 11 0)))) G hinX0 (q0 := 11) rfl rfl 12 (by decide) kN117 rfl (congrArg Value.int (hr38.1.2.2.2.1)) dX1_lateWith_63 ?_
  refine gk_isub (v := nI (((gm_hrs (gm_ru M v vo) 200) 11 0) - (gm_gct (gm_hrs (gm_ru M v vo) 200) ((gm_hrs (gm_ru M v vo) 200) 11 0)))) G dX1_lateWith_66 (pk_sub (by omega)) ?_
  refine gk_imul (v := nI (200 * (((gm_hrs (gm_ru M v vo) 200) 11 0) - (gm_gct (gm_hrs (gm_ru M v vo) 200) ((gm_hrs (gm_ru M v vo) 200) 11 0))))) G dX1_lateWith_67 (pk_mul 200 (((gm_hrs (gm_ru M v vo) 200) 11 0) - (gm_gct (gm_hrs (gm_ru M v vo) 200) ((gm_hrs (gm_ru M v vo) 200) 11 0)))) ?_
  refine gk_iadd (v := nI ((gm_late (gm_hrs (gm_ru M v vo) 200) 0 ((gm_hrs (gm_ru M v vo) 200) 11 0)) + (200 * (((gm_hrs (gm_ru M v vo) 200) 11 0) - (gm_gct (gm_hrs (gm_ru M v vo) 200) ((gm_hrs (gm_ru M v vo) 200) 11 0)))))) G dX1_lateWith_68 (nI_add (gm_late (gm_hrs (gm_ru M v vo) 200) 0 ((gm_hrs (gm_ru M v vo) 200) 11 0)) (200 * (((gm_hrs (gm_ru M v vo) 200) 11 0) - (gm_gct (gm_hrs (gm_ru M v vo) 200) ((gm_hrs (gm_ru M v vo) 200) 11 0))))) ?_
  exact RET _ _ _ _ _ _ ((F, B), (F38, B38)) dX1_lateWith_69 rfl ⟨(by unfold gm_lw; rw [← e11T, hl9]), hr⟩ rfl (Nat.le_of_ble_eq_true rfl) (Nat.le_of_ble_eq_true rfl)
end
section
section GNEW
variable {p : Program} {l : Launch} {e : Env} {R : Room} {s : State} {m : MethodId} {args : Array Value} {below : List Frame} {meth : Method} {c : Code}
variable {own : String} {nL : Nat} {cc : ByteArray} {Ts : List Cond} {D : va_G} {tys : List (ClassId × FieldType)} {A : Nat → Prop} {cells slots pc : Nat} {Q : State → Prop} {w : va_W} {lv : List (Nat × Value)} {st : List Value} {ret : Option FieldType}
theorem gk_new (G : gk_G p s m args meth c own nL cc ret Ts D tys A) {C : String} {T : u_T} {N ci index : Nat} (hin : ∀ w ∈ u_ws C T N, w ∈ Ts) {ty : Nat → FieldType} (hty : ∀ k, k < N → parseFieldDescriptor (T k).2.2.1 = some (ty k)) (hcl : (Cond.classLink own index C).before args s = true) (hinst : (Cond.instantiable C N).before args s = true) (hini : (Cond.initialized C).before args s = true)
    (hc : vwCl[ci]? = some (C, T, N)) {fs : List Value} (hfs : ∀ j, j < N → defaultValue (ty j) = vp_V fs j) (hcells : cells + 1 ≤ R.cells) (hslots : slots + N ≤ R.slots) (d : decode cc pc = .ok (.new index, 3))
    (K : ∀ q : Nat, gk_C p l e R s m args below meth c nL D A Q (cells + 1) (slots + N) (w ++ [(q, .inr (ci, fs))]) lv (pc + 3) (.ref q :: st)) : gk_C p l e R s m args below meth c nL D A Q cells slots w lv pc st :=
  fun H locs ls hP hD hS hl => va_new G.1 G.2.1 G.2.2.2.2.1 hin ty hty G.2.2.2.1 hcl hinst hini G.2.2.2.2.2.1 hP hD hS G.2.2.2.2.2.2.1 hc hfs hcells hslots d (fun q H1 hP1 hD1 hS1 => K q H1 locs ls hP1 hD1 hS1 hl)
end GNEW
theorem gn_df16 : ∀ j, j < 16 → defaultValue (tyX0 j) = vp_V [.null, .null, .null, .null, .null, .null, .null, .null, .null, .int 0, .int 0, .int 0, .int 0, .int 0, .int 0, .int 0] j := by decide +kernel
abbrev gw_I : Type := Nat × Nat × (Nat → Nat) × (Nat → Nat) × gw_U
set_option maxRecDepth 100000 in
set_option maxHeartbeats 1000000 in
theorem c1_init (l : Launch) (D : va_G) (cI cZ cJ : ClassId) (g : Nat)  : gk_V l yX1_init wsX1_init ({ frames := 2, cells := 20, slots := 240, locals := 41 } : Room) D (g_T cI cZ cJ) gk_E0 [.ref g] [(g, .inr (1, [.null, .null]))] 20 240 (fun (u : gw_I) => gc_rep u.2.2.2.2.1.1 u.2.2.2.2.1.2 gm_new) (fun u => (gw_X cI cZ g u.1 u.2.1 u.2.2.1 u.2.2.2.1 u.2.2.2.2)) := by
  refine gk_V_of (cc := cX1_init) (nL := 1) (by decide +kernel) rfl (Nat.le_of_ble_eq_true rfl) ?_
  intro p e s m below meth c A Q hnm hE G RET
  have hinX0 : ∀ w ∈ wsX00, w ∈ wsX1_init := fun w h9 => (List.mem_cons_of_mem _ (List.mem_append_left _ (List.mem_append_right _ h9)))
  have hinX1 : ∀ w ∈ wsX10, w ∈ wsX1_init := fun w h9 => (List.mem_cons_of_mem _ (List.mem_append_right _ h9))
  have k10 := G.2.2.2.2.1 (.fieldLink RX1 10 "GustMill" "now" "LGustMill$State;") (List.mem_cons_of_mem _ (List.mem_append_left _ (List.mem_append_left _ (List.mem_append_left _ (List.mem_of_getElem? (i := 6) rfl)))))
  have k16 := G.2.2.2.2.1 (.fieldLink RX1 16 "GustMill" "trial" "LGustMill$State;") (List.mem_cons_of_mem _ (List.mem_append_left _ (List.mem_append_left _ (List.mem_append_left _ (List.mem_of_getElem? (i := 7) rfl)))))
  refine gk_aload_n G dX1_init_0 0 rfl ?_
  refine gk_objInit G (G.2.2.2.2.1 (.methodLink RX1 1 objectInit) (List.mem_cons_of_mem _ (List.mem_append_left _ (List.mem_append_left _ (List.mem_append_left _ (List.mem_of_getElem? (i := 0) rfl)))))) (G.2.2.2.2.1 (.instanceMethod objectInit) (List.mem_cons_of_mem _ (List.mem_append_left _ (List.mem_append_left _ (List.mem_append_left _ (List.mem_of_getElem? (i := 1) rfl)))))) (G.2.2.2.2.1 (.code objectInit ⟨#[0xb1]⟩ 1 none) (List.mem_cons_of_mem _ (List.mem_append_left _ (List.mem_append_left _ (List.mem_append_left _ (List.mem_of_getElem? (i := 2) rfl)))))) (Nat.le_of_ble_eq_true rfl) (Nat.le_of_ble_eq_true rfl) dX1_init_1 ?_
  refine gk_aload_n G dX1_init_4 0 rfl ?_
  refine gk_new (T := TX0) (N := 16) (ci := 0) (fs := [.null, .null, .null, .null, .null, .null, .null, .null, .null, .int 0, .int 0, .int 0, .int 0, .int 0, .int 0, .int 0]) G hinX0 (ty := tyX0) tyX0_ok (G.2.2.2.2.1 (.classLink RX1 7 RX0) (List.mem_cons_of_mem _ (List.mem_append_left _ (List.mem_append_left _ (List.mem_append_left _ (List.mem_of_getElem? (i := 3) rfl)))))) (G.2.2.2.2.1 (.instantiable RX0 16) (List.mem_cons_of_mem _ (List.mem_append_left _ (List.mem_append_left _ (List.mem_append_left _ (List.mem_of_getElem? (i := 4) rfl)))))) (G.2.2.2.2.1 (.initialized RX0) (List.mem_cons_of_mem _ (List.mem_append_left _ (List.mem_append_left _ (List.mem_append_left _ (List.mem_of_getElem? (i := 5) rfl)))))) rfl (gn_df16) (Nat.le_of_ble_eq_true rfl) (Nat.le_of_ble_eq_true rfl) dX1_init_5 (fun a0 => ?_)
  refine gk_dup G dX1_init_8 rfl ?_
  refine gk_callVI (rt := none) (wr := [(g, .inr (1, [.null, .null]))]) G (c0_init l D cI cZ cJ a0) gX1_init_X0_init rfl 0 (G.2.2.2.2.1 (.initialized RX0) (List.mem_cons_of_mem _ (List.mem_append_left _ (List.mem_append_left _ (List.mem_append_left _ (List.mem_of_getElem? (i := 5) rfl)))))) (G.2.2.2.2.1 (.methodLink RX1 9 yX0_init) (List.mem_cons_of_mem _ (List.mem_append_left _ (List.mem_append_left _ (List.mem_append_left _ (List.mem_of_getElem? (i := 8) rfl)))))) (G.2.2.2.2.1 (.instanceMethod yX0_init) (List.mem_cons_of_mem _ (List.mem_append_left _ (List.mem_append_left _ (List.mem_append_left _ (List.mem_of_getElem? (i := 9) rfl)))))) rfl (by decide +kernel) rfl rfl ⟨(Nat.le_of_ble_eq_true rfl), (Nat.le_of_ble_eq_true rfl)⟩ rfl gk_ok0 trivial [1] rfl (by decide) [0] rfl (by decide) (by decide) rfl (Nat.le_of_ble_eq_true rfl) dX1_init_9 ⟨(Nat.le_of_ble_eq_true rfl), (Nat.le_of_ble_eq_true rfl)⟩ (fun u0 hp0 => ?_)
  obtain ⟨q0, F0, B0⟩ := u0
  have hr0 : gc_rep F0 B0 gm_new := hp0
  show gk_C p l e ({ frames := 2, cells := 20, slots := 240, locals := 41 } : Room) s m ([.ref g] : List Value).toArray below meth c 1 D A Q 10 120 ([(g, .inr (1, [.null, .null]))] ++ gs_W cI cZ a0 q0 F0 B0) [(0, .ref g)] 12 [.ref a0, .ref g]
  refine gk_putF (w' := ([(g, .inr (1, [.ref a0, .null]))] ++ (gs_W cI cZ a0 q0 F0 B0))) G hinX1 tyX1_ok nmX1 (q0 := 0) rfl rfl 0 (by decide) k10 rfl hnm rfl rfl rfl (Nat.le_of_ble_eq_true rfl) rfl dX1_init_12 ?_
  refine gk_aload_n G dX1_init_15 0 rfl ?_
  refine gk_new (T := TX0) (N := 16) (ci := 0) (fs := [.null, .null, .null, .null, .null, .null, .null, .null, .null, .int 0, .int 0, .int 0, .int 0, .int 0, .int 0, .int 0]) G hinX0 (ty := tyX0) tyX0_ok (G.2.2.2.2.1 (.classLink RX1 7 RX0) (List.mem_cons_of_mem _ (List.mem_append_left _ (List.mem_append_left _ (List.mem_append_left _ (List.mem_of_getElem? (i := 3) rfl)))))) (G.2.2.2.2.1 (.instantiable RX0 16) (List.mem_cons_of_mem _ (List.mem_append_left _ (List.mem_append_left _ (List.mem_append_left _ (List.mem_of_getElem? (i := 4) rfl)))))) (G.2.2.2.2.1 (.initialized RX0) (List.mem_cons_of_mem _ (List.mem_append_left _ (List.mem_append_left _ (List.mem_append_left _ (List.mem_of_getElem? (i := 5) rfl)))))) rfl (gn_df16) (Nat.le_of_ble_eq_true rfl) (Nat.le_of_ble_eq_true rfl) dX1_init_16 (fun a1 => ?_)
  refine gk_dup G dX1_init_19 rfl ?_
  refine gk_callVI (rt := none) (wr := ([(g, .inr (1, [.ref a0, .null]))] ++ (gs_W cI cZ a0 q0 F0 B0))) G (c0_init l D cI cZ cJ a1) gX1_init_X0_init rfl 0 (G.2.2.2.2.1 (.initialized RX0) (List.mem_cons_of_mem _ (List.mem_append_left _ (List.mem_append_left _ (List.mem_append_left _ (List.mem_of_getElem? (i := 5) rfl)))))) (G.2.2.2.2.1 (.methodLink RX1 9 yX0_init) (List.mem_cons_of_mem _ (List.mem_append_left _ (List.mem_append_left _ (List.mem_append_left _ (List.mem_of_getElem? (i := 8) rfl)))))) (G.2.2.2.2.1 (.instanceMethod yX0_init) (List.mem_cons_of_mem _ (List.mem_append_left _ (List.mem_append_left _ (List.mem_append_left _ (List.mem_of_getElem? (i := 9) rfl)))))) rfl (by decide +kernel) rfl rfl ⟨(Nat.le_of_ble_eq_true rfl), (Nat.le_of_ble_eq_true rfl)⟩ rfl gk_ok0 trivial [11] rfl (by decide) [0, 1, 2, 3, 4, 5, 6, 7, 8, 9, 10] rfl (by decide) (by decide) rfl (Nat.le_of_ble_eq_true rfl) dX1_init_20 ⟨(Nat.le_of_ble_eq_true rfl), (Nat.le_of_ble_eq_true rfl)⟩ (fun u1 hp1 => ?_)
  obtain ⟨q1, F1, B1⟩ := u1
  have hr1 : gc_rep F1 B1 gm_new := hp1
  show gk_C p l e ({ frames := 2, cells := 20, slots := 240, locals := 41 } : Room) s m ([.ref g] : List Value).toArray below meth c 1 D A Q 20 240 (([(g, .inr (1, [.ref a0, .null]))] ++ (gs_W cI cZ a0 q0 F0 B0)) ++ gs_W cI cZ a1 q1 F1 B1) [(0, .ref g)] 23 [.ref a1, .ref g]
  refine gk_putF (w' := ([(g, .inr (1, [.ref a0, .ref a1]))] ++ (gs_W cI cZ a0 q0 F0 B0 ++ (gs_W cI cZ a1 q1 F1 B1)))) G hinX1 tyX1_ok nmX1 (q0 := 0) rfl rfl 1 (by decide) k16 rfl hnm rfl rfl rfl (Nat.le_of_ble_eq_true rfl) rfl dX1_init_23 ?_
  exact RET _ _ _ _ _ (a0, a1, q0, q1, (F0, B0), (F1, B1)) dX1_init_26 hr0 rfl (Nat.le_of_ble_eq_true rfl) (Nat.le_of_ble_eq_true rfl)
end
section
/-! DOUBLES: written by wip/p35/gen_d.py -/
section DA
variable {l : Launch} {y : MethodName} {ws ws' : List Cond} {rm : Room} {D : va_G} {tys : List (ClassId × FieldType)} {E : (Nat → Prop) → State → Heap → Prop} {av : List Value} {w : va_W} {mc ms : Nat} {S : Type}
def gk_D (l : Launch) (y : MethodName) (ws : List Cond) (rm : Room) (D : va_G) (tys : List (ClassId × FieldType)) (E : (Nat → Prop) → State → Heap → Prop) (av : List Value) (w : va_W) (mc ms : Nat) {S : Type} (post : UInt64 → S → Prop) (wo : S → va_W) : Prop :=
  ∀ sz : Nat, Met l y ws rm (va_Pc av (gk_Pre D tys E w sz)) (va_Qd post (fun u t => gk_Post D tys (va_A w sz) (wo u) t) (va_A w sz)) mc ms (va_A w sz)
end DA
section DB
variable {p : Program} {l : Launch} {e : Env} {R : Room} {s : State} {m : MethodId} {args : Array Value} {below : List Frame} {meth : Method} {c : Code}
variable {own : String} {nL : Nat} {cc : ByteArray} {Ts : List Cond} {D : va_G} {tys tys0 : List (ClassId × FieldType)} {A : Nat → Prop} {cells slots pc mc ms : Nat} {Q : State → Prop} {w : va_W} {lv : List (Nat × Value)} {st : List Value} {a : Nat} {ret : Option FieldType} {S : Type}
theorem gk_retD (G : gk_G p s m args meth c own nL cc (some .double) Ts D tys A) {post : UInt64 → S → Prop} {wo : S → va_W} {v : UInt64} (d : decode cc pc = .ok (.dreturn, 1)) (u : S) (hp : post v u) (is : List Nat) (hs : is.map (fun i => w[i]?) = (wo u).map some) (hnd : va_nd is = true) (hc : cells ≤ mc) (hsl : slots ≤ ms) :
    gk_C p l e R s m args below meth c nL D A (MQ below (va_Qd post (fun u t => gk_Post D tys A (wo u) t) A) args s mc ms A) cells slots w lv pc (.double v :: []) :=
  fun H locs ls hP hD hS hl => W.widen hc hsl (W.dret G.1 G.2.1 G.2.2.2.2.2.2.2.1 (fun t ht hW => ⟨⟨v, u, rfl, hp, by rw [ht]; exact hP.sub is (gk_fm is hs), va_K.moved hW.alike G.2.2.2.2.2.1, hD.sub is hnd hs⟩, hS.F ht⟩) hS.2.2 d G.2.2.2.2.2.2.2.2)
theorem gk_retDw (G : gk_G p s m args meth c own nL cc (some .double) Ts D tys A) {post : UInt64 → S → Prop} {wo : S → va_W} {v : UInt64} (d : decode cc pc = .ok (.dreturn, 1)) (u : S) (hp : post v u) (hs : w = wo u) (hc : cells ≤ mc) (hsl : slots ≤ ms) :
    gk_C p l e R s m args below meth c nL D A (MQ below (va_Qd post (fun u t => gk_Post D tys A (wo u) t) A) args s mc ms A) cells slots w lv pc (.double v :: []) :=
  fun H locs ls hP hD hS hl => W.widen hc hsl (W.dret G.1 G.2.1 G.2.2.2.2.2.2.2.1 (fun t ht hW => ⟨⟨v, u, rfl, hp, by rw [ht]; exact hs ▸ hP, va_K.moved hW.alike G.2.2.2.2.2.1, hs ▸ hD⟩, hS.F ht⟩) hS.2.2 d G.2.2.2.2.2.2.2.2)
end DB
section DC
variable {l : Launch} {y : MethodName} {ws ws' : List Cond} {rm : Room} {D : va_G} {tys : List (ClassId × FieldType)} {E : (Nat → Prop) → State → Heap → Prop} {av : List Value} {w : va_W} {mc ms : Nat} {S : Type}
theorem gk_D_of {post : UInt64 → S → Prop} {wo : S → va_W} {cc : ByteArray} {nL : Nat} (hy : plainName y.cls = true) (hw : ws = Cond.code y cc nL (some .double) :: ws') (hav : (lg_sl av).length ≤ nL)
    (body : ∀ (p : Program) (e : Env) (s : State) (m : MethodId) (below : List Frame) (meth : Method) (c : Code) (A : Nat → Prop) (Q : State → Prop), meth.name = y.name → E A s s.heap → gk_G p s m av.toArray meth c y.cls nL cc (some .double) ws D tys A →
      (∀ (cells slots : Nat) (w : va_W) (lv : List (Nat × Value)) (pc : Nat) (v : UInt64) (u : S), decode cc pc = .ok (.dreturn, 1) → post v u → w = wo u → cells ≤ mc → slots ≤ ms → gk_C p l e rm s m av.toArray below meth c nL D A Q cells slots w lv pc [.double v]) →
      gk_C p l e rm s m av.toArray below meth c nL D A Q 0 0 w (lv_args 0 av) 0 []) : gk_D l y ws rm D tys E av w mc ms post wo := by
  intro sz
  refine Met.ofW (cc := cc) (maxL := nL) (ret := some .double) hy hw ?_
  intro p e s m args below meth c s₁ B hml hv
  obtain ⟨rfl, hsz, hP, hK, hD0, hE⟩ := hv
  have hD := hD0.self (sz := sz)
  rw [lg_entry_eq]
  have G : gk_G p s m av.toArray meth c y.cls nL cc (some .double) ws D tys (va_A w sz) := ⟨B.exec, B.bytes, hml, findClass_of_methodNamed B.named, atoms_spec (ws := ws) B.pre, hK, fun q h => Or.inr (by rw [← hsz]; exact h), B.returns, B.notSynchronized⟩
  exact body p e s m below meth c (va_A w sz) _ (name_of_methodNamed B.named B.method).1 hE G
    (fun cells slots w lv pc v u d hp hs hc hsl => gk_retDw G d u hp hs hc hsl) s.heap [] _ hP hD va_S.rf (lv_entry av hav)
end DC
section DE
variable {p : Program} {l : Launch} {e : Env} {R : Room} {s : State} {m : MethodId} {args : Array Value} {below : List Frame} {meth : Method} {c : Code}
variable {own : String} {nL : Nat} {cc : ByteArray} {Ts : List Cond} {D : va_G} {tys tys0 : List (ClassId × FieldType)} {A : Nat → Prop} {cells slots pc mc ms : Nat} {Q : State → Prop} {w : va_W} {lv : List (Nat × Value)} {st : List Value} {a : Nat} {ret : Option FieldType} {S : Type}
theorem gk_callDV (G : gk_G p s m args meth c own nL cc ret Ts D tys A) {post : UInt64 → S → Prop} {wo : S → va_W} {y : MethodName} {bytes : ByteArray} {maxL idx mc1 ms1 : Nat} {b : Nat}  {rt : Option FieldType} {C : String} {ws ws' : List Cond} {rm : Room} {As : List Value} {wc wr : va_W} {E : (Nat → Prop) → State → Heap → Prop} {st0 : List Value}
    (hM : gk_D l y ws rm D tys E (.ref b :: As) wc mc1 ms1 post wo) (hT : GoodIn Ts (wsV own idx C y ws)) (hw : ws = Cond.code y bytes maxL rt :: ws') (n : Nat) (hd : y.cls = C ∧ y.cls ≠ "java/lang/invoke/MethodHandle" ∧ y.cls ≠ "java/lang/invoke/VarHandle" ∧ (parseMethodDescriptor y.desc).map (fun d => d.parameters.length) = some n) (hrc : rm.cells = mc1) (hrs : rm.slots = ms1) (hR : rm.frames + 1 ≤ R.frames ∧ 8 + (maxL + 11) + rm.locals ≤ R.locals) (hn : As.length = n) {ci q0 : Nat} {fs : List Value} (hrecv : wc[q0]? = some (b, .inr (ci, fs))) {T : u_T} {N : Nat} (hcl : vwCl[ci]? = some (C, T, N)) 
    (hE : gk_Ok E) (hE1 : E A s s.heap) (isC : List Nat) (hC : isC.map (fun i => w[i]?) = wc.map some) (hnC : va_nd isC = true) (isR : List Nat) (hR2 : isR.map (fun i => w[i]?) = wr.map some) (hnR : va_nd isR = true) (hdis : ∀ i ∈ isR, i ∉ isC) (hst : st0 = As.reverse ++ .ref b :: st) (hroom : (st.map fun v => v.category).sum ≤ 8) (d : decode cc pc = .ok (.invokevirtual idx, 3)) (hcs : cells + mc1 ≤ R.cells ∧ slots + ms1 ≤ R.slots)
    (K : ∀ (r : UInt64) (u : S), post r u → gk_C p l e R s m args below meth c nL D A Q (cells + mc1) (slots + ms1) (wr ++ wo u) lv (pc + 3) (.double r :: st)) : gk_C p l e R s m args below meth c nL D A Q cells slots w lv pc st0 := by
  intro H locs ls hP hD hS hl
  have hPc : va_P D vwCl wc H := hP.sub isC (gk_fm isC hC)
  have hDc : va_D A wc := hD.sub isC hnC hC
  have hF := va_free hD hS G.2.2.2.2.2.2.1 isC hC
  refine va_calld (va_runV (As := As) (rest := st) ⟨G.1, G.2.1, G.2.2.1, G.2.2.2.1, G.2.2.2.2.1⟩ (hM H.size) (cwV n G.2.2.2.2.1 hT hw hrc hrs hd hR) ⟨fun a U g mk q => ?_, va_recv G.2.2.2.2.2.1 hPc hcl hrecv, fun U hU hW => ⟨rfl, by rw [hU], by rw [hU]; exact hPc, va_K.moved hW.alike G.2.2.2.2.2.1, hDc.weaken (fun _ _ _ _ => trivial), ?_⟩⟩ rfl hn hl.1 hst (lv_room hroom) d hcs) hS (fun q _ h => hF q h) hF (fun r u t H1 locs1 ht hvm hw1 hB hz1 hk1 hS1 => ?_)
  · obtain ⟨q0, q1, qP, qK, qD, qE⟩ := q
    exact ⟨q0, q1, qP, va_K.moved (u := U) (U := U.calling g mk a) (Vm.Alike.refl U.vm) qK, qD, hE _ _ U (U.calling g mk a) _ _ (Vm.Alike.refl U.vm) (Or.inr rfl) (fun _ _ h => h) (Nat.le_refl _) (fun _ _ _ => rfl) qE⟩
  · exact hE A _ s U s.heap U.heap hW.alike (Or.inl hW) (fun q _ h => hF q h) (by rw [hU]; exact hS.1) (fun q h1 h2 => by rw [hU]; exact hS.2.1 q h1 h2) hE1
  · obtain ⟨hP1, hK1, hD1⟩ := hB
    rw [ht] at hP1
    obtain ⟨hP2, hD2⟩ := va_join hP hD isC isR hC hR2 hnR hdis hk1 hF hP1 hD1
    exact K r u hw1 H1 locs1 ls hP2 hD2 hS1 hl
end DE
section DF
variable {p : Program} {l : Launch} {e : Env} {R : Room} {s : State} {m : MethodId} {args : Array Value} {below : List Frame} {meth : Method} {c : Code}
variable {own : String} {nL : Nat} {cc : ByteArray} {Ts : List Cond} {D : va_G} {tys : List (ClassId × FieldType)} {A : Nat → Prop} {cells slots pc : Nat} {Q : State → Prop} {w : va_W} {lv : List (Nat × Value)} {st : List Value} {a : Nat} {ret : Option FieldType}
theorem gk_ddiv (G : gk_G p s m args meth c own nL cc ret Ts D tys A) {x y : UInt64} (d : decode cc pc = .ok (.ddiv, 1)) (hne : vf_n64 (FP.ddiv x y)) (K : gk_C p l e R s m args below meth c nL D A Q cells slots w lv (pc + 1) (.double (FP.ddiv x y) :: st)) : gk_C p l e R s m args below meth c nL D A Q cells slots w lv pc (.double y :: .double x :: st) :=
  fun H locs ls hP hD hS hl => lv_ddiv G.1 G.2.1 d hne (K H locs ls hP hD hS hl)
end DF
theorem gm_nn {r : UInt64} (h : FP.Core.dIsNaN r = false) : vf_n64 r := by
  have h1 : ¬ 9218868437227405312 < r.toNat % 2 ^ 63 := fun q => by rw [(FP.Core.isNaN_bits r).mpr q] at h; cases h
  unfold vf_n64
  rw [UInt64.le_iff_toNat_le, UInt64.toNat_and]
  show r.toNat &&& (2 ^ 63 - 1) ≤ 9218868437227405312
  rw [Nat.and_two_pow_sub_one_eq_mod]
  omega
theorem gm_dz {v : Int32} (h : v ≠ 0) : ¬ FP.Core.DZero (FP.i2d v) := fun q => FP.Core.i2d_ne_zero h ((FP.Core.zero_bits2 _).mp q)
theorem gm_mean_nan {a v : Int32} (h : v ≠ 0) : FP.Core.dIsNaN (FP.ddiv (FP.i2d a) (FP.i2d v)) = false := FP.Core.ddiv_out (FP.Core.i2d_fin a).notNaN (FP.Core.i2d_fin v) (gm_dz h)
theorem gm_mean_nn {a v : Int32} (h : v ≠ 0) : vf_n64 (FP.ddiv (FP.i2d a) (FP.i2d v)) := gm_nn (gm_mean_nan h)
def gm_ml (M : gm_M) : UInt64 := if M 11 0 - gm_gct M (M 11 0) = 0 then FP.dconst0 else FP.ddiv (FP.i2d (nI (gm_sum M (M 11 0)))) (FP.i2d (nI (M 11 0 - gm_gct M (M 11 0))))
theorem gm_ml_nan (M : gm_M) (h : M 11 0 < 2 ^ 31) : FP.Core.dIsNaN (gm_ml M) = false := by
  unfold gm_ml
  split
  · decide +kernel
  · exact gm_mean_nan (fun q => by rw [gm_0 (by omega)] at q; omega)
theorem gm_ml_cmp (M : gm_M) (h : M 11 0 < 2 ^ 31) : FP.dcmp (gm_ml M) (gm_ml M) = some .eq := FP.Core.dcmp_self ((FP.Core.notNaN_iff _).mp (gm_ml_nan M h))
theorem gm_sum_le {M : gm_M} (wf : gm_wf M) : ∀ k : Nat, k ≤ M 11 0 → gm_sum M k ≤ 60 * k
  | 0, _ => Nat.le_refl 0
  | k + 1, hk => by
    have ih := gm_sum_le wf k (by omega)
    have h7 := wf.2.2.2.2.2.2.1 k (by omega)
    show gm_sum M k + M 5 k ≤ 60 * (k + 1)
    omega
end
section
set_option maxRecDepth 100000 in
set_option maxHeartbeats 1000000 in
theorem c1_meanLeft (l : Launch) (D : va_G) (cI cZ cJ : ClassId) (g h1 h2 : Nat) (q : Nat → Nat) (F : Nat → Int32) (B : Nat → Nat → Int32) (q2 : Nat → Nat) (F2 : Nat → Int32) (B2 : Nat → Nat → Int32) (M : gm_M) (wf : gm_wf M) (hr : gc_rep F B M) : gk_D l yX1_meanLeft wsX1_meanLeft ({ frames := 0, cells := 0, slots := 0, locals := 0 } : Room) D (g_T cI cZ cJ) gn_E [.ref g] (gw_G g h1 h2 ++ (gs_W cI cZ h1 q F B ++ (gs_W cI cZ h2 q2 F2 B2))) 0 0 (fun (r : UInt64) (u : gw_U) => r = gm_ml M ∧ gc_rep u.1.1 u.1.2 M) (fun u => (gw_X cI cZ g h1 h2 q q2 u)) := by
  refine gk_D_of (cc := cX1_meanLeft) (nL := 4) (by decide +kernel) rfl (Nat.le_of_ble_eq_true rfl) ?_
  intro p e s m below meth c A Q hnm hE G RET
  obtain ⟨hz1, hz2, hz3, hz4, hz5, hz6, hz7, hz8⟩ := id wf
  have hg9 := gm_gct_le M (M 11 0)
  have hinX0 : ∀ w ∈ wsX00, w ∈ wsX1_meanLeft := fun w h9 => (List.mem_cons_of_mem _ (List.mem_append_right _ h9))
  have hinX1 : ∀ w ∈ wsX10, w ∈ wsX1_meanLeft := fun w h9 => (List.mem_cons_of_mem _ (List.mem_append_left _ (List.mem_append_right _ h9)))
  have k10 := G.2.2.2.2.1 (.fieldLink RX1 10 "GustMill" "now" "LGustMill$State;") (List.mem_cons_of_mem _ (List.mem_append_left _ (List.mem_append_left _ (List.mem_of_getElem? (i := 0) rfl))))
  have kN70 := gn_70 (args := ([.ref g] : List Value).toArray) hE
  have kN111 := gn_111 (args := ([.ref g] : List Value).toArray) hE
  have kN117 := gn_117 (args := ([.ref g] : List Value).toArray) hE
  refine gk_aload_n G dX1_meanLeft_0 0 rfl ?_
  refine gk_get (v' := .ref h1) G hinX1 (q0 := 0) rfl rfl 0 (by decide) k10 rfl rfl dX1_meanLeft_1 ?_
  refine gk_getN (v' := .int (nI (M 11 0))) G hinX0 (q0 := 1) rfl rfl 11 (by decide) kN70 rfl (congrArg Value.int (hr.1.2.2.1)) dX1_meanLeft_4 ?_
  refine gk_aload_n G dX1_meanLeft_7 0 rfl ?_
  refine gk_get (v' := .ref h1) G hinX1 (q0 := 0) rfl rfl 0 (by decide) k10 rfl rfl dX1_meanLeft_8 ?_
  refine gk_getN (v' := .int (nI (gm_gct M (M 11 0)))) G hinX0 (q0 := 1) rfl rfl 12 (by decide) kN117 rfl (congrArg Value.int (hr.1.2.2.2.1)) dX1_meanLeft_11 ?_
  refine gk_isub (v := nI ((M 11 0) - (gm_gct M (M 11 0)))) G dX1_meanLeft_14 (pk_sub (by omega)) ?_
  refine gk_istore_n (lv' := [(1, .int (nI ((M 11 0) - (gm_gct M (M 11 0))))), (0, .ref g)]) G dX1_meanLeft_15 rfl (by decide) rfl ?_
  refine gk_iload_n G dX1_meanLeft_16 0 rfl ?_
  refine gk_if_gt (tgt := 22) G dX1_meanLeft_17 (by decide) (fun c_17 => ?_) (fun c_17 => ?_)
  · replace c_17 := (nI_ltI (a := 0) (b := (M 11 0) - (gm_gct M (M 11 0))) (by omega) (by omega)).mp c_17
    refine gk_iconst (v := nI 0) G dX1_meanLeft_22 (by decide) ?_
    refine gk_istore_n (lv' := [(2, .int (nI 0)), (1, .int (nI ((M 11 0) - (gm_gct M (M 11 0))))), (0, .ref g)]) G dX1_meanLeft_23 rfl (by decide) rfl ?_
    refine gk_iconst (v := nI 0) G dX1_meanLeft_24 (by decide) ?_
    refine gk_istore_n (lv' := [(3, .int (nI 0)), (2, .int (nI 0)), (1, .int (nI ((M 11 0) - (gm_gct M (M 11 0))))), (0, .ref g)]) G dX1_meanLeft_25 rfl (by decide) rfl ?_
    have L26 : ∀ (n : Nat) (k : Nat), M 11 0 - k < n → (k ≤ M 11 0) → gk_C p l e ({ frames := 0, cells := 0, slots := 0, locals := 0 } : Room) s m ([.ref g] : List Value).toArray below meth c 4 D A Q 0 0 (gw_G g h1 h2 ++ (gs_W cI cZ h1 q F B ++ (gs_W cI cZ h2 q2 F2 B2))) [(0, .ref g), (1, .int (nI (M 11 0 - gm_gct M (M 11 0)))), (2, .int (nI (gm_sum M k))), (3, .int (nI k))] 26 [] := by
      intro n
      induction n with
      | zero => intro k h0; exact absurd h0 (Nat.not_lt_zero _)
      | succ n ih =>
        intro k h0 w0
        refine gk_iload_n G dX1_meanLeft_26 3 rfl ?_
        refine gk_aload_n G dX1_meanLeft_27 0 rfl ?_
        refine gk_get (v' := .ref h1) G hinX1 (q0 := 0) rfl rfl 0 (by decide) k10 rfl rfl dX1_meanLeft_28 ?_
        refine gk_getN (v' := .int (nI (M 11 0))) G hinX0 (q0 := 1) rfl rfl 11 (by decide) kN70 rfl (congrArg Value.int (hr.1.2.2.1)) dX1_meanLeft_31 ?_
        refine gk_icmp_ge (tgt := 55) G dX1_meanLeft_34 (by decide) (fun c_34 => ?_) (fun c_34 => ?_)
        · replace c_34 := (nI_leI (a := M 11 0) (b := k) (by omega) (by omega)).mp c_34
          refine gk_iload_n G dX1_meanLeft_55 2 rfl ?_
          refine gk_i2d G dX1_meanLeft_56 ?_
          refine gk_iload_n G dX1_meanLeft_57 1 rfl ?_
          refine gk_i2d G dX1_meanLeft_58 ?_
          refine gk_ddiv G dX1_meanLeft_59 (gm_mean_nn (fun q9 => by rw [gm_0 (by omega)] at q9; omega)) ?_
          exact RET _ _ _ _ _ _ ((F, B), (F2, B2)) dX1_meanLeft_60 ⟨(by rw [show k = M 11 0 by omega]; unfold gm_ml; rw [if_neg (by omega)]), hr⟩ rfl (Nat.le_of_ble_eq_true rfl) (Nat.le_of_ble_eq_true rfl)
        · replace c_34 := (not_congr (nI_leI (a := M 11 0) (b := k) (by omega) (by omega))).mp c_34
          have hk7 := hz7 k (by omega)
          have hsk := gm_sum_le wf k (by omega)
          refine gk_iload_n G dX1_meanLeft_37 2 rfl ?_
          refine gk_aload_n G dX1_meanLeft_38 0 rfl ?_
          refine gk_get (v' := .ref h1) G hinX1 (q0 := 0) rfl rfl 0 (by decide) k10 rfl rfl dX1_meanLeft_39 ?_
          refine gk_getN (v' := .ref (q 5)) G hinX0 (q0 := 1) rfl rfl 5 (by decide) kN111 rfl rfl dX1_meanLeft_42 ?_
          refine gk_iload_n G dX1_meanLeft_45 3 rfl ?_
          refine gk_iald (v := nI (M 5 k)) G (q0 := 7) (t0 := 0) rfl rfl k rfl (by omega) (by decide) (hr.2.2.2.2.2.1 k (by omega)) dX1_meanLeft_46 ?_
          refine gk_iadd (v := nI ((gm_sum M k) + (M 5 k))) G dX1_meanLeft_47 (nI_add (gm_sum M k) (M 5 k)) ?_
          refine gk_istore_n (lv' := [(2, .int (nI ((gm_sum M k) + (M 5 k)))), (0, .ref g), (1, .int (nI (M 11 0 - gm_gct M (M 11 0)))), (3, .int (nI k))]) G dX1_meanLeft_48 rfl (by decide) rfl ?_
          refine gk_iinc (j := 3) (v := nI (k + 1)) (lv' := [(3, .int (nI (k + 1))), (2, .int (nI ((gm_sum M k) + (M 5 k)))), (0, .ref g), (1, .int (nI (M 11 0 - gm_gct M (M 11 0))))]) G dX1_meanLeft_49 rfl (nI_add k 1) (by decide) rfl ?_
          refine gk_goto (tgt := 26) G dX1_meanLeft_52 (by decide) ?_
          exact gk_lsub [2,3,1,0] rfl (ih (k + 1) (by omega) (by omega))
    exact gk_lsub [3,2,1,0] rfl (L26 (M 11 0 + 1) 0 (by omega) (by omega))
  · replace c_17 := (not_congr (nI_ltI (a := 0) (b := (M 11 0) - (gm_gct M (M 11 0))) (by omega) (by omega))).mp c_17
    refine gk_dconst0 G dX1_meanLeft_20 ?_
    exact RET _ _ _ _ _ _ ((F, B), (F2, B2)) dX1_meanLeft_21 ⟨(by unfold gm_ml; rw [if_pos (by omega)]), hr⟩ rfl (Nat.le_of_ble_eq_true rfl) (Nat.le_of_ble_eq_true rfl)
end
section
/-! WORLDS IN ANY ORDER; written by wip/p35/gen_sk.py -/
theorem gk_memP {D : va_G} {cl : List vw_C} {w : va_W} {H : Heap} : va_P D cl w H ↔ ∀ q ∈ w, va_at D cl q H :=
  ⟨fun h q hq => by obtain ⟨k, hk⟩ := List.mem_iff_getElem?.mp hq; exact h k q hk, fun h k q hk => h q (List.mem_of_getElem? hk)⟩
theorem gk_memD {A : Nat → Prop} {w : va_W} : va_D A w ↔ (w.map (fun q => q.1)).Nodup ∧ ∀ q ∈ w, A q.1 := by
  constructor
  · intro h
    refine ⟨?_, fun q hq => by obtain ⟨k, hk⟩ := List.mem_iff_getElem?.mp hq; exact h.2 k q hk⟩
    refine List.pairwise_iff_getElem.mpr (fun i j hi hj hij he => ?_)
    rw [List.length_map] at hi hj
    rw [List.getElem_map, List.getElem_map] at he
    have := h.1 i j w[i] w[j] (List.getElem?_eq_getElem hi) (List.getElem?_eq_getElem hj) he
    omega
  · intro h
    refine ⟨fun i j p q hi hj he => ?_, fun k q hk => h.2 q (List.mem_of_getElem? hk)⟩
    obtain ⟨hi1, hi2⟩ := List.getElem?_eq_some_iff.mp hi
    obtain ⟨hj1, hj2⟩ := List.getElem?_eq_some_iff.mp hj
    have hp := List.pairwise_iff_getElem.mp h.1
    rcases Nat.lt_trichotomy i j with g | g | g
    · refine absurd ?_ (hp i j (by rw [List.length_map]; exact hi1) (by rw [List.length_map]; exact hj1) g)
      rw [List.getElem_map, List.getElem_map, hi2, hj2]; exact he
    · exact g
    · refine absurd ?_ (hp j i (by rw [List.length_map]; exact hj1) (by rw [List.length_map]; exact hi1) g)
      rw [List.getElem_map, List.getElem_map, hi2, hj2]; exact he.symm
theorem gk_permP {D : va_G} {cl : List vw_C} {w w' r : va_W} {H : Heap} (h : w.Perm (w' ++ r)) (hP : va_P D cl w H) : va_P D cl w' H :=
  gk_memP.mpr (fun q hq => gk_memP.mp hP q (h.mem_iff.mpr (List.mem_append_left _ hq)))
theorem gk_permD {A : Nat → Prop} {w w' r : va_W} (h : w.Perm (w' ++ r)) (hD : va_D A w) : va_D A w' := by
  have h1 := gk_memD.mp hD
  refine gk_memD.mpr ⟨?_, fun q hq => h1.2 q (h.mem_iff.mpr (List.mem_append_left _ hq))⟩
  have h2 : ((w' ++ r).map (fun q => q.1)).Nodup := (h.map _).nodup_iff.mp h1.1
  rw [List.map_append] at h2
  exact (List.nodup_append.mp h2).1
theorem gk_nd : ∀ l : List Nat, l.Nodup → va_nd l = true
  | [], _ => rfl
  | a :: l, h => by
    have h1 := List.nodup_cons.mp h
    show (decide (a ∉ l) && va_nd l) = true
    rw [gk_nd l h1.2, decide_eq_true h1.1]; rfl
theorem gk_isR (wr wc : va_W) : (List.range wr.length).map (fun i => (wr ++ wc)[i]?) = wr.map some := by
  refine List.ext_getElem (by simp) (fun i h1 h2 => ?_)
  rw [List.length_map] at h2
  rw [List.getElem_map, List.getElem_map, List.getElem_range, List.getElem?_append_left h2, List.getElem?_eq_getElem h2]
theorem gk_isC (wr wc : va_W) : ((List.range wc.length).map (fun i => wr.length + i)).map (fun i => (wr ++ wc)[i]?) = wc.map some := by
  refine List.ext_getElem (by simp) (fun i h1 h2 => ?_)
  rw [List.length_map] at h2
  rw [List.getElem_map, List.getElem_map, List.getElem_map, List.getElem_range, List.getElem?_append_right (Nat.le_add_right _ _), Nat.add_sub_cancel_left, List.getElem?_eq_getElem h2]
theorem gk_ndR (n : Nat) : va_nd (List.range n) = true := gk_nd _ List.nodup_range
theorem gk_ndC (a n : Nat) : va_nd ((List.range n).map (fun i => a + i)) = true := by
  refine gk_nd _ (List.pairwise_iff_getElem.mpr (fun i j hi hj hij he => ?_))
  rw [List.getElem_map, List.getElem_map, List.getElem_range, List.getElem_range] at he
  omega
theorem gk_dis (a n : Nat) : ∀ i ∈ List.range a, i ∉ (List.range n).map (fun i => a + i) := by
  intro i hi h
  obtain ⟨j, -, rfl⟩ := List.mem_map.mp h
  have := List.mem_range.mp hi
  omega
section SK1
variable {p : Program} {l : Launch} {e : Env} {R : Room} {s : State} {m : MethodId} {args : Array Value} {below : List Frame} {meth : Method} {c : Code}
variable {own : String} {nL : Nat} {cc : ByteArray} {Ts : List Cond} {D : va_G} {tys : List (ClassId × FieldType)} {A : Nat → Prop} {cells slots pc : Nat} {Q : State → Prop} {w : va_W} {lv : List (Nat × Value)} {st : List Value} {a : Nat} {ret : Option FieldType}
theorem gk_drop {w' r : va_W} (h : w.Perm (w' ++ r)) (K : gk_C p l e R s m args below meth c nL D A Q cells slots w' lv (pc) (st)) : gk_C p l e R s m args below meth c nL D A Q cells slots w lv (pc) (st) :=
  fun H locs ls hP hD hS hl => K H locs ls (gk_permP h hP) (gk_permD h hD) hS hl
theorem gk_perm {w' : va_W} (h : w.Perm w') (K : gk_C p l e R s m args below meth c nL D A Q cells slots w' lv (pc) (st)) : gk_C p l e R s m args below meth c nL D A Q cells slots w lv (pc) (st) := gk_drop (r := []) (by rw [List.append_nil]; exact h) K
theorem gk_rot {x : Nat × va_E} (K : gk_C p l e R s m args below meth c nL D A Q cells slots ([x] ++ w) lv (pc) (st)) : gk_C p l e R s m args below meth c nL D A Q cells slots (w ++ [x]) lv (pc) (st) := gk_perm List.perm_append_comm K
theorem gk_ldc (G : gk_G p s m args meth c own nL cc ret Ts D tys A) {index : Nat} {v : Int32} (hc : (Jvm.Cond.constant own index v).before args s = true) (d : decode cc pc = .ok (.ldc index, 2)) (K : gk_C p l e R s m args below meth c nL D A Q cells slots w lv (pc + 2) (.int v :: st)) : gk_C p l e R s m args below meth c nL D A Q cells slots w lv (pc) (st) :=
  fun H locs ls hP hD hS hl => lv_ldc G.1 G.2.1 G.2.2.2.1 hc d (K H locs ls hP hD hS hl)
theorem gk_ishr (G : gk_G p s m args meth c own nL cc ret Ts D tys A) {x y v : Int32} (d : decode cc pc = .ok (.ishr, 1)) (hv : x >>> (y &&& 31) = v) (K : gk_C p l e R s m args below meth c nL D A Q cells slots w lv (pc + 1) (.int v :: st)) : gk_C p l e R s m args below meth c nL D A Q cells slots w lv (pc) (.int y :: .int x :: st) :=
  fun H locs ls hP hD hS hl => lv_ishr G.1 G.2.1 d (hv ▸ (K H locs ls hP hD hS hl))
theorem gk_idiv (G : gk_G p s m args meth c own nL cc ret Ts D tys A) {x y v : Int32} (d : decode cc pc = .ok (.idiv, 1)) (hne : ¬ y = 0) (hv : x / y = v) (K : gk_C p l e R s m args below meth c nL D A Q cells slots w lv (pc + 1) (.int v :: st)) : gk_C p l e R s m args below meth c nL D A Q cells slots w lv (pc) (.int y :: .int x :: st) :=
  fun H locs ls hP hD hS hl => lv_idiv G.1 G.2.1 d hne (hv ▸ (K H locs ls hP hD hS hl))
theorem gk_ifnonnull (G : gk_G p s m args meth c own nL cc ret Ts D tys A) {x : Nat} {off : Int} {tgt : Nat} (d : decode cc pc = .ok (.ifnonnull off, 3)) (ht : (pc : Int) + off = (tgt : Int)) (K : gk_C p l e R s m args below meth c nL D A Q cells slots w lv (tgt) (st)) : gk_C p l e R s m args below meth c nL D A Q cells slots w lv (pc) (.ref x :: st) :=
  fun H locs ls hP hD hS hl => lv_ifnonnull G.1 G.2.1 d ht (K H locs ls hP hD hS hl)
theorem gk_tableIn (G : gk_G p s m args meth c own nL cc ret Ts D tys A) {dflt lo hi : Int} {offs : Array Int} {len : Nat} {x : Int32} {off : Int} {tgt : Nat} (d : decode cc pc = .ok (.tableswitch dflt lo hi offs, len)) (h1 : ¬ x.toInt < lo) (h2 : ¬ hi < x.toInt) (ho : offs[(x.toInt - lo).toNat]? = some off) (ht : (pc : Int) + off = (tgt : Int)) (K : gk_C p l e R s m args below meth c nL D A Q cells slots w lv (tgt) (st)) : gk_C p l e R s m args below meth c nL D A Q cells slots w lv (pc) (.int x :: st) :=
  fun H locs ls hP hD hS hl => lv_tableIn G.1 G.2.1 d h1 h2 ho ht (K H locs ls hP hD hS hl)
theorem gk_tableOut (G : gk_G p s m args meth c own nL cc ret Ts D tys A) {dflt lo hi : Int} {offs : Array Int} {len : Nat} {x : Int32} {tgt : Nat} (d : decode cc pc = .ok (.tableswitch dflt lo hi offs, len)) (h : x.toInt < lo ∨ hi < x.toInt) (ht : (pc : Int) + dflt = (tgt : Int)) (K : gk_C p l e R s m args below meth c nL D A Q cells slots w lv (tgt) (st)) : gk_C p l e R s m args below meth c nL D A Q cells slots w lv (pc) (.int x :: st) :=
  fun H locs ls hP hD hS hl => lv_tableOut G.1 G.2.1 d h ht (K H locs ls hP hD hS hl)
theorem gk_sld (G : gk_G p s m args meth c own nL cc ret Ts D tys A) {L : Nat} {xs : Nat → Int32} (hX : va_X a L xs s s.heap) (hbl : a < s.heap.size) (hbA : ¬ A a) {i v : Int32} (j : Nat) (hi : i = nI j) (hj : j < L) (hn : L < 2 ^ 31) (hv : xs j = v) (d : decode cc pc = .ok (.iaload, 1)) (K : gk_C p l e R s m args below meth c nL D A Q cells slots w lv (pc + 1) (.int v :: st)) : gk_C p l e R s m args below meth c nL D A Q cells slots w lv (pc) (.int i :: .ref a :: st) :=
  fun H locs ls hP hD hS hl => va_sld G.1 G.2.1 hX hbl hbA hS (gk_in hi hj hn) d ((gk_cl hi hj hn).symm ▸ hv.symm ▸ (K H locs ls hP hD hS hl))
theorem gk_slen (G : gk_G p s m args meth c own nL cc ret Ts D tys A) {L : Nat} {xs : Nat → Int32} (hX : va_X a L xs s s.heap) (hbl : a < s.heap.size) (hbA : ¬ A a) (d : decode cc pc = .ok (.arraylength, 1)) (K : gk_C p l e R s m args below meth c nL D A Q cells slots w lv (pc + 1) (.int (nI L) :: st)) : gk_C p l e R s m args below meth c nL D A Q cells slots w lv (pc) (.ref a :: st) :=
  fun H locs ls hP hD hS hl => va_slen G.1 G.2.1 hX hbl hbA hS d (K H locs ls hP hD hS hl)
theorem gk_asg (vm : Vm) (c : ClassId) : vm.assignable c c = true := by
  show Vm.assignableAux vm (255 + 1) c c = true
  rw [Vm.assignableAux, beq_self_eq_true, Bool.true_or]
/-- 'new int[n][]' finds its class -/
def gp_AO : (Nat → Prop) → State → Heap → Prop := fun _ U _ => (Cond.arrayOver (.array .int)).before #[] U = true
theorem gp_ao_use {A : Nat → Prop} {U : State} {H : Heap} (h : gp_AO A U H) (args : Array Value) : (Cond.arrayOver (.array .int)).before args U = true := h
theorem gp_ao_ok : gk_Ok gp_AO := by
  intro A B u U H H1 hvm _ _ _ _ h
  obtain ⟨comp, c, k, h1, h2, h3, h4, h5⟩ := arrayOverA_spec h
  obtain ⟨k', hk', he⟩ := hvm.2.2 _ _ h3
  have hi : (U.vm.classes.findIdx? fun (x : Class) => match x.kind with | .array component _ => component == comp | _ => false) = some c := by
    exact (hvm.findIdx?_eq _ (fun _ => rfl)).trans h2
  have hkind : k'.kind = .array comp (.array .int) := by rw [he]; exact h4
  have f1 : U.vm.findClass (FieldType.array .int).toString = some comp := by rw [hvm.findClass]; exact h1
  have f2 : U.vm.findClass ("[" ++ (FieldType.array .int).toString) = some c := by rw [hvm.findClass]; exact h5
  show (Cond.arrayOver (.array .int)).before #[] U = true
  unfold Cond.before Cond.holds
  simp only [Cond.value]
  rw [f1, Option.bind_some]
  refine (congrArg (fun o : Option Nat => (o.bind (fun c => (U.vm.classes[c]?).map fun (k : Class) => match k.kind with | .array _ ty => decide (ty = .array .int) && decide (U.vm.findClass ("[" ++ (FieldType.array .int).toString) = some c) | _ => false) == some true)) hi).trans ?_
  simp [hk', hkind, f2]
theorem gk_aald (G : gk_G p s m args meth c own nL cc ret Ts D tys A) {q0 t0 : Nat} {cA : ClassId} {n : Nat} {f : Nat → Option Nat} (ha : w[q0]? = some (a, .inl (cA, n, .inr (.inr (.inr (.inr f)))))) (ht : tys[t0]? = some (cA, .array .int)) {i : Int32} {v : Nat} (j : Nat) (hi : i = nI j) (hj : j < n) (hn : n < 2 ^ 31) (hv : f j = some v) (d : decode cc pc = .ok (.aaload, 1)) (K : gk_C p l e R s m args below meth c nL D A Q cells slots w lv (pc + 1) (.ref v :: st)) : gk_C p l e R s m args below meth c nL D A Q cells slots w lv (pc) (.int i :: .ref a :: st) :=
  fun H locs ls hP hD hS hl => W.aald (v := .ref v) (ty := .array .int) G.1 G.2.1 (hP q0 _ ha) ((G.2.2.2.2.2.1.2 t0 _ ht).1 n (fun j => va_rf (f j))) rfl (fun q => by cases q) (by show ¬ (i < 0 ∨ (arrV _ _ _).slots.size ≤ _); rw [arrV_size]; exact gk_in hi hj hn) (by show (arrV _ _ _).slots[_]? = _; rw [gk_cl hi hj hn, arrV_read _ _ hj, hv]; rfl) rfl rfl d (K H locs ls hP hD hS hl)
theorem gk_aast (G : gk_G p s m args meth c own nL cc ret Ts D tys A) {q0 t0 t1 qk : Nat} {cA cB : ClassId} {n v n' : Nat} {f : Nat → Option Nat} {g : Nat → Int32} (hao : gp_AO A s s.heap) (ha : w[q0]? = some (a, .inl (cA, n, .inr (.inr (.inr (.inr f)))))) (ht : tys[t0]? = some (cA, .array .int)) (hv : w[qk]? = some (v, .inl (cB, n', .inl g))) (ht1 : tys[t1]? = some (cB, .int)) {i : Int32} (j : Nat) (hi : i = nI j) (hj : j < n) (hn : n < 2 ^ 31) {w' : va_W} (hw : w.set q0 (a, .inl (cA, n, .inr (.inr (.inr (.inr (va_up f j (some v))))))) = w') (d : decode cc pc = .ok (.aastore, 1)) (K : gk_C p l e R s m args below meth c nL D A Q cells slots w' lv (pc + 1) (st)) : gk_C p l e R s m args below meth c nL D A Q cells slots w lv (pc) (.ref v :: .int i :: .ref a :: st) := by
  intro H locs ls hP hD hS hl
  subst hw
  have hcl := gk_cl hi hj hn
  obtain ⟨comp, c0, k0, h1, h2, h3, h4, h5⟩ := arrayOverA_spec (gp_ao_use hao #[])
  have hA := G.2.2.2.2.2.1.2 t0 _ ht
  have hB := G.2.2.2.2.2.1.2 t1 _ ht1
  have e1 : c0 = cA := Option.some.inj (h5.symm.trans hA.2)
  have e2 : comp = cB := Option.some.inj (h1.symm.trans hB.2)
  subst e1 e2
  obtain ⟨kB, hkB, -⟩ := (hB.1 0 (fun _ => .null)).2
  refine W.aast (kv := kB) (kcomp := kB) G.1 G.2.1 (hP q0 _ ha) (fun q h => by cases h) (fun h => by cases h) h3 h4 rfl hkB ⟨fun q => gk_in hi hj hn (Or.inl q), by show _ < (arrV _ _ _).slots.size; rw [arrV_size, hcl]; exact hj⟩ (hP qk _ hv) (fun q h => by cases h) hkB (gk_asg _ _) rfl rfl d fun H1 e z oq => ?_
  refine K H1 _ ls (hP.set hD ha ?_ oq) (hD.set ha) (hS.put z oq (hD.2 q0 _ ha)) hl
  show H1[a]? = some (vp_cell _ _)
  rw [e, hcl]
  rw [vp_cell_q, vp_cell_q, arrV_store]
  congr 2
  funext q
  by_cases hq : q = j
  · subst hq
    simp [updV, va_up, va_rf]
  · simp [updV, va_up, hq]
theorem gk_anew (G : gk_G p s m args meth c own nL cc ret Ts D tys A) {index t0 N : Nat} {cJ : ClassId} {n : Int32} (hao : gp_AO A s s.heap) (hclink : (Cond.classLink own index "[I").before args s = true) (ht : tys[t0]? = some (cJ, .array .int)) (hn : n = nI N) (hN : N < 1000) (hcells : cells + 1 ≤ R.cells) (hslots : slots + N ≤ R.slots) (d : decode cc pc = .ok (.anewarray index, 3))
    (K : ∀ q : Nat, gk_C p l e R s m args below meth c nL D A Q (cells + 1) (slots + N) ([(q, .inl (cJ, N, .inr (.inr (.inr (.inr (fun _ => none))))))] ++ w) lv (pc + 3) (.ref q :: st)) : gk_C p l e R s m args below meth c nL D A Q cells slots w lv (pc) (.int n :: st) := by
  intro H locs ls hP hD hS hl
  subst hn
  have hcl : (nI N).toNatClampNeg = N := nI_clamp (by omega)
  have hpos : ¬ nI N < 0 := nI_pos (by omega)
  refine W.anewA (t := .int) G.1 G.2.1 G.2.2.2.1 hclink (gp_ao_use hao args) rfl d rfl hpos (by rw [hcl]; omega) hcells (by rw [hcl]; exact hslots) fun cA kA comp f1 f2 f3 f4 => ?_
  have e : cA = cJ := Option.some.inj (f1.symm.trans (G.2.2.2.2.2.1.2 t0 _ ht).2)
  subst e
  rw [hcl]
  generalize hH1 : H.push ({ cls := cA, slots := Array.replicate N .null, vm := .none } : Cell) = H1
  have z1 : H1.size = H.size + 1 := by rw [← hH1, Array.size_push]
  have e1 : H1[H.size]? = some (arrV cA N (fun _ => .null)) := by rw [← hH1, Array.getElem?_push_size, ← arrV_new]
  have o1 : ∀ q : Nat, q < H.size → H1[q]? = H[q]? := fun q hq => by rw [← hH1, Array.getElem?_push, if_neg (Nat.ne_of_lt hq)]
  have hk : ∀ (k : Nat) (x : Nat × va_E), w[k]? = some x → H1[x.1]? = H[x.1]? := fun k x hx => o1 x.1 ((hP k x hx).lt)
  have hP2 : va_P D vwCl (w ++ [(H.size, .inl (cA, N, .inr (.inr (.inr (.inr (fun _ => none))))))]) H1 := (hP.kept hk).app (fun k x hx => by
    have hz : k < 1 := (List.getElem?_eq_some_iff.mp hx).1
    obtain rfl : k = 0 := by omega
    cases hx
    exact e1)
  have hD2 : va_D A (w ++ [(H.size, .inl (cA, N, .inr (.inr (.inr (.inr (fun _ => none))))))]) := hD.push hP rfl (G.2.2.2.2.2.2.1 _ hS.1)
  exact gk_rot (K H.size) H1 locs ls hP2 hD2 ⟨Nat.le_trans hS.1 (by omega), fun x h1 h2 => (o1 x (Nat.lt_of_lt_of_le h1 hS.1)).trans (hS.2.1 x h1 h2), hS.2.2⟩ hl
end SK1
section SK2
variable {l : Launch} {y : MethodName} {ws ws' : List Cond} {rm : Room} {D : va_G} {tys : List (ClassId × FieldType)} {E : (Nat → Prop) → State → Heap → Prop} {av : List Value} {w : va_W} {mc ms : Nat} {S : Type}
def gk_R (l : Launch) (y : MethodName) (ws : List Cond) (rm : Room) (D : va_G) (tys : List (ClassId × FieldType)) (E : (Nat → Prop) → State → Heap → Prop) (av : List Value) (w : va_W) (mc ms : Nat) {S : Type} (post : S → Prop) (wo : S → Nat → va_W) : Prop :=
  ∀ sz : Nat, Met l y ws rm (va_Pc av (gk_Pre D tys E w sz)) (va_Qr post (fun u ra t => gk_Post D tys (va_A w sz) (wo u ra) t) (va_A w sz)) mc ms (va_A w sz)
end SK2
section SK3
variable {p : Program} {l : Launch} {e : Env} {R : Room} {s : State} {m : MethodId} {args : Array Value} {below : List Frame} {meth : Method} {c : Code}
variable {own : String} {nL : Nat} {cc : ByteArray} {Ts : List Cond} {D : va_G} {tys tys0 : List (ClassId × FieldType)} {A : Nat → Prop} {cells slots pc mc ms : Nat} {Q : State → Prop} {w : va_W} {lv : List (Nat × Value)} {st : List Value} {a : Nat} {ret : Option FieldType} {S : Type}
theorem gk_retRw {rt : FieldType} (G : gk_G p s m args meth c own nL cc (some rt) Ts D tys A) (hrt : (∃ n, rt = .object n) ∨ ∃ t, rt = .array t) {post : S → Prop} {wo : S → Nat → va_W} {v : Nat} (d : decode cc pc = .ok (.areturn, 1)) (u : S) (hp : post u) {r : va_W} (hs : w.Perm (wo u v ++ r)) (hc : cells ≤ mc) (hsl : slots ≤ ms) :
    gk_C p l e R s m args below meth c nL D A (MQ below (va_Qr post (fun u ra t => gk_Post D tys A (wo u ra) t) A) args s mc ms A) cells slots w lv pc (.ref v :: []) :=
  fun H locs ls hP hD hS hl => W.widen hc hsl (W.aret G.1 G.2.1 G.2.2.2.2.2.2.2.1 hrt (Or.inr ⟨v, rfl⟩) (fun t ht hW => ⟨⟨u, v, rfl, hp, by rw [ht]; exact gk_permP hs hP, va_K.moved hW.alike G.2.2.2.2.2.1, gk_permD hs hD⟩, hS.F ht⟩) hS.2.2 d G.2.2.2.2.2.2.2.2)
end SK3
section SK4
variable {l : Launch} {y : MethodName} {ws ws' : List Cond} {rm : Room} {D : va_G} {tys : List (ClassId × FieldType)} {E : (Nat → Prop) → State → Heap → Prop} {av : List Value} {w : va_W} {mc ms : Nat} {S : Type}
theorem gk_R_of {post : S → Prop} {wo : S → Nat → va_W} {rt : FieldType} {cc : ByteArray} {nL : Nat} (hrt : (∃ n, rt = .object n) ∨ ∃ t, rt = .array t) (hy : plainName y.cls = true) (hw : ws = Cond.code y cc nL (some rt) :: ws') (hav : (lg_sl av).length ≤ nL)
    (body : ∀ (p : Program) (e : Env) (s : State) (m : MethodId) (below : List Frame) (meth : Method) (c : Code) (A : Nat → Prop) (Q : State → Prop), meth.name = y.name → E A s s.heap → gk_G p s m av.toArray meth c y.cls nL cc (some rt) ws D tys A →
      (∀ (cells slots : Nat) (w : va_W) (lv : List (Nat × Value)) (pc : Nat) (v : Nat) (u : S) (r : va_W), decode cc pc = .ok (.areturn, 1) → post u → w.Perm (wo u v ++ r) → cells ≤ mc → slots ≤ ms → gk_C p l e rm s m av.toArray below meth c nL D A Q cells slots w lv pc [.ref v]) →
      gk_C p l e rm s m av.toArray below meth c nL D A Q 0 0 w (lv_args 0 av) 0 []) : gk_R l y ws rm D tys E av w mc ms post wo := by
  intro sz
  refine Met.ofW (cc := cc) (maxL := nL) (ret := some rt) hy hw ?_
  intro p e s m args below meth c s₁ B hml hv
  obtain ⟨rfl, hsz, hP, hK, hD0, hE⟩ := hv
  have hD := hD0.self (sz := sz)
  rw [lg_entry_eq]
  have G : gk_G p s m av.toArray meth c y.cls nL cc (some rt) ws D tys (va_A w sz) := ⟨B.exec, B.bytes, hml, findClass_of_methodNamed B.named, atoms_spec (ws := ws) B.pre, hK, fun q h => Or.inr (by rw [← hsz]; exact h), B.returns, B.notSynchronized⟩
  exact body p e s m below meth c (va_A w sz) _ (name_of_methodNamed B.named B.method).1 hE G
    (fun cells slots w lv pc v u r d hp hs hc hsl => gk_retRw G hrt d u hp hs hc hsl) s.heap [] _ hP hD va_S.rf (lv_entry av hav)
end SK4
section SK5
variable {p : Program} {l : Launch} {e : Env} {R : Room} {s : State} {m : MethodId} {args : Array Value} {below : List Frame} {meth : Method} {c : Code}
variable {own : String} {nL : Nat} {cc : ByteArray} {Ts : List Cond} {D : va_G} {tys tys0 : List (ClassId × FieldType)} {A : Nat → Prop} {cells slots pc mc ms : Nat} {Q : State → Prop} {w : va_W} {lv : List (Nat × Value)} {st : List Value} {a : Nat} {ret : Option FieldType} {S : Type}
theorem gp_callIV (G : gk_G p s m args meth c own nL cc ret Ts D tys A) {post : Int32 → S → Prop} {wo : S → va_W} {y : MethodName} {bytes : ByteArray} {maxL idx mc1 ms1 : Nat} {b : Nat}  {rt : Option FieldType} {C : String} {ws ws' : List Cond} {rm : Room} {As : List Value} {wc wr : va_W} {E : (Nat → Prop) → State → Heap → Prop} {st0 : List Value}
    (hM : gk_I l y ws rm D tys E (.ref b :: As) wc mc1 ms1 post wo) (hT : GoodIn Ts (wsV own idx C y ws)) (hw : ws = Cond.code y bytes maxL rt :: ws') (n : Nat) (hd : y.cls = C ∧ y.cls ≠ "java/lang/invoke/MethodHandle" ∧ y.cls ≠ "java/lang/invoke/VarHandle" ∧ (parseMethodDescriptor y.desc).map (fun d => d.parameters.length) = some n) (hrc : rm.cells = mc1) (hrs : rm.slots = ms1) (hR : rm.frames + 1 ≤ R.frames ∧ 8 + (maxL + 11) + rm.locals ≤ R.locals) (hn : As.length = n) {ci q0 : Nat} {fs : List Value} (hrecv : wc[q0]? = some (b, .inr (ci, fs))) {T : u_T} {N : Nat} (hcl : vwCl[ci]? = some (C, T, N)) 
    (hE : gk_Ok E) (hE1 : E A s s.heap) (hp : w.Perm (wr ++ wc)) (hst : st0 = As.reverse ++ .ref b :: st) (hroom : (st.map fun v => v.category).sum ≤ 8) (d : decode cc pc = .ok (.invokevirtual idx, 3)) (hcs : cells + mc1 ≤ R.cells ∧ slots + ms1 ≤ R.slots)
    (K : ∀ (r : Int32) (u : S), post r u → gk_C p l e R s m args below meth c nL D A Q (cells + mc1) (slots + ms1) (wr ++ wo u) lv (pc + 3) (.int r :: st)) : gk_C p l e R s m args below meth c nL D A Q cells slots w lv pc st0 :=
  gk_perm hp (gk_callIV G hM hT hw n hd hrc hrs hR hn hrecv hcl hE hE1 _ (gk_isC wr wc) (gk_ndC _ _) _ (gk_isR wr wc) (gk_ndR _) (gk_dis _ _) hst hroom d hcs K)
theorem gp_callIS (G : gk_G p s m args meth c own nL cc ret Ts D tys A) {post : Int32 → S → Prop} {wo : S → va_W} {y : MethodName} {bytes : ByteArray} {maxL idx mc1 ms1 : Nat}  {rt : Option FieldType} {ws ws' : List Cond} {rm : Room} {As : List Value} {wc wr : va_W} {E : (Nat → Prop) → State → Heap → Prop} {st0 : List Value}
    (hM : gk_I l y ws rm D tys E As wc mc1 ms1 post wo) (hT : GoodIn Ts (va_wsS own idx y ws)) (hw : ws = Cond.code y bytes maxL rt :: ws') (n : Nat) (hd : y.cls ≠ "java/lang/invoke/MethodHandle" ∧ y.cls ≠ "java/lang/invoke/VarHandle" ∧ (parseMethodDescriptor y.desc).map (fun d => d.parameters.length) = some n) (hrc : rm.cells = mc1) (hrs : rm.slots = ms1) (hR : rm.frames + 1 ≤ R.frames ∧ 8 + (maxL + 11) + rm.locals ≤ R.locals) (hn : As.length = n) 
    (hE : gk_Ok E) (hE1 : E A s s.heap) (hp : w.Perm (wr ++ wc)) (hst : st0 = As.reverse ++ st) (hroom : (st.map fun v => v.category).sum ≤ 8) (d : decode cc pc = .ok (.invokestatic idx, 3)) (hcs : cells + mc1 ≤ R.cells ∧ slots + ms1 ≤ R.slots)
    (K : ∀ (r : Int32) (u : S), post r u → gk_C p l e R s m args below meth c nL D A Q (cells + mc1) (slots + ms1) (wr ++ wo u) lv (pc + 3) (.int r :: st)) : gk_C p l e R s m args below meth c nL D A Q cells slots w lv pc st0 :=
  gk_perm hp (gk_callIS G hM hT hw n hd hrc hrs hR hn hE hE1 _ (gk_isC wr wc) (gk_ndC _ _) _ (gk_isR wr wc) (gk_ndR _) (gk_dis _ _) hst hroom d hcs K)
theorem gp_callVV (G : gk_G p s m args meth c own nL cc ret Ts D tys A) {post : S → Prop} {wo : S → va_W} {y : MethodName} {bytes : ByteArray} {maxL idx mc1 ms1 : Nat} {b : Nat}  {rt : Option FieldType} {C : String} {ws ws' : List Cond} {rm : Room} {As : List Value} {wc wr : va_W} {E : (Nat → Prop) → State → Heap → Prop} {st0 : List Value}
    (hM : gk_V l y ws rm D tys E (.ref b :: As) wc mc1 ms1 post wo) (hT : GoodIn Ts (wsV own idx C y ws)) (hw : ws = Cond.code y bytes maxL rt :: ws') (n : Nat) (hd : y.cls = C ∧ y.cls ≠ "java/lang/invoke/MethodHandle" ∧ y.cls ≠ "java/lang/invoke/VarHandle" ∧ (parseMethodDescriptor y.desc).map (fun d => d.parameters.length) = some n) (hrc : rm.cells = mc1) (hrs : rm.slots = ms1) (hR : rm.frames + 1 ≤ R.frames ∧ 8 + (maxL + 11) + rm.locals ≤ R.locals) (hn : As.length = n) {ci q0 : Nat} {fs : List Value} (hrecv : wc[q0]? = some (b, .inr (ci, fs))) {T : u_T} {N : Nat} (hcl : vwCl[ci]? = some (C, T, N)) 
    (hE : gk_Ok E) (hE1 : E A s s.heap) (hp : w.Perm (wr ++ wc)) (hst : st0 = As.reverse ++ .ref b :: st) (hroom : (st.map fun v => v.category).sum ≤ 8) (d : decode cc pc = .ok (.invokevirtual idx, 3)) (hcs : cells + mc1 ≤ R.cells ∧ slots + ms1 ≤ R.slots)
    (K : ∀ (u : S), post u → gk_C p l e R s m args below meth c nL D A Q (cells + mc1) (slots + ms1) (wr ++ wo u) lv (pc + 3) (st)) : gk_C p l e R s m args below meth c nL D A Q cells slots w lv pc st0 :=
  gk_perm hp (gk_callVV G hM hT hw n hd hrc hrs hR hn hrecv hcl hE hE1 _ (gk_isC wr wc) (gk_ndC _ _) _ (gk_isR wr wc) (gk_ndR _) (gk_dis _ _) hst hroom d hcs K)
theorem gp_callVS (G : gk_G p s m args meth c own nL cc ret Ts D tys A) {post : S → Prop} {wo : S → va_W} {y : MethodName} {bytes : ByteArray} {maxL idx mc1 ms1 : Nat}  {rt : Option FieldType} {ws ws' : List Cond} {rm : Room} {As : List Value} {wc wr : va_W} {E : (Nat → Prop) → State → Heap → Prop} {st0 : List Value}
    (hM : gk_V l y ws rm D tys E As wc mc1 ms1 post wo) (hT : GoodIn Ts (va_wsS own idx y ws)) (hw : ws = Cond.code y bytes maxL rt :: ws') (n : Nat) (hd : y.cls ≠ "java/lang/invoke/MethodHandle" ∧ y.cls ≠ "java/lang/invoke/VarHandle" ∧ (parseMethodDescriptor y.desc).map (fun d => d.parameters.length) = some n) (hrc : rm.cells = mc1) (hrs : rm.slots = ms1) (hR : rm.frames + 1 ≤ R.frames ∧ 8 + (maxL + 11) + rm.locals ≤ R.locals) (hn : As.length = n) 
    (hE : gk_Ok E) (hE1 : E A s s.heap) (hp : w.Perm (wr ++ wc)) (hst : st0 = As.reverse ++ st) (hroom : (st.map fun v => v.category).sum ≤ 8) (d : decode cc pc = .ok (.invokestatic idx, 3)) (hcs : cells + mc1 ≤ R.cells ∧ slots + ms1 ≤ R.slots)
    (K : ∀ (u : S), post u → gk_C p l e R s m args below meth c nL D A Q (cells + mc1) (slots + ms1) (wr ++ wo u) lv (pc + 3) (st)) : gk_C p l e R s m args below meth c nL D A Q cells slots w lv pc st0 :=
  gk_perm hp (gk_callVS G hM hT hw n hd hrc hrs hR hn hE hE1 _ (gk_isC wr wc) (gk_ndC _ _) _ (gk_isR wr wc) (gk_ndR _) (gk_dis _ _) hst hroom d hcs K)
theorem gp_callDV (G : gk_G p s m args meth c own nL cc ret Ts D tys A) {post : UInt64 → S → Prop} {wo : S → va_W} {y : MethodName} {bytes : ByteArray} {maxL idx mc1 ms1 : Nat} {b : Nat}  {rt : Option FieldType} {C : String} {ws ws' : List Cond} {rm : Room} {As : List Value} {wc wr : va_W} {E : (Nat → Prop) → State → Heap → Prop} {st0 : List Value}
    (hM : gk_D l y ws rm D tys E (.ref b :: As) wc mc1 ms1 post wo) (hT : GoodIn Ts (wsV own idx C y ws)) (hw : ws = Cond.code y bytes maxL rt :: ws') (n : Nat) (hd : y.cls = C ∧ y.cls ≠ "java/lang/invoke/MethodHandle" ∧ y.cls ≠ "java/lang/invoke/VarHandle" ∧ (parseMethodDescriptor y.desc).map (fun d => d.parameters.length) = some n) (hrc : rm.cells = mc1) (hrs : rm.slots = ms1) (hR : rm.frames + 1 ≤ R.frames ∧ 8 + (maxL + 11) + rm.locals ≤ R.locals) (hn : As.length = n) {ci q0 : Nat} {fs : List Value} (hrecv : wc[q0]? = some (b, .inr (ci, fs))) {T : u_T} {N : Nat} (hcl : vwCl[ci]? = some (C, T, N)) 
    (hE : gk_Ok E) (hE1 : E A s s.heap) (hp : w.Perm (wr ++ wc)) (hst : st0 = As.reverse ++ .ref b :: st) (hroom : (st.map fun v => v.category).sum ≤ 8) (d : decode cc pc = .ok (.invokevirtual idx, 3)) (hcs : cells + mc1 ≤ R.cells ∧ slots + ms1 ≤ R.slots)
    (K : ∀ (r : UInt64) (u : S), post r u → gk_C p l e R s m args below meth c nL D A Q (cells + mc1) (slots + ms1) (wr ++ wo u) lv (pc + 3) (.double r :: st)) : gk_C p l e R s m args below meth c nL D A Q cells slots w lv pc st0 :=
  gk_perm hp (gk_callDV G hM hT hw n hd hrc hrs hR hn hrecv hcl hE hE1 _ (gk_isC wr wc) (gk_ndC _ _) _ (gk_isR wr wc) (gk_ndR _) (gk_dis _ _) hst hroom d hcs K)
theorem gp_callVI (G : gk_G p s m args meth c own nL cc ret Ts D tys A) {post : S → Prop} {wo : S → va_W} {y : MethodName} {bytes : ByteArray} {maxL idx mc1 ms1 : Nat} {b : Nat}  {rt : Option FieldType} {ws ws' : List Cond} {rm : Room} {As : List Value} {wc wr : va_W} {E : (Nat → Prop) → State → Heap → Prop} {st0 : List Value}
    (hM : gk_V l y ws rm D tys E (.ref b :: As) wc mc1 ms1 post wo) (hT : GoodIn Ts ws) (hw : ws = Cond.code y bytes maxL none :: ws') (n : Nat) (hini : (Cond.initialized y.cls).before args s = true) (hl1 : (Cond.methodLink own idx y).before args s = true) (hin : (Cond.instanceMethod y).before args s = true) (hy1 : y.name = "<init>") (hd : y.cls ≠ "java/lang/invoke/MethodHandle" ∧ y.cls ≠ "java/lang/invoke/VarHandle" ∧ (parseMethodDescriptor y.desc).map (fun d => d.parameters.length) = some n) (hrc : rm.cells = mc1) (hrs : rm.slots = ms1) (hR : rm.frames + 1 ≤ R.frames ∧ 8 + (maxL + 11) + rm.locals ≤ R.locals) (hn : As.length = n) 
    (hE : gk_Ok E) (hE1 : E A s s.heap) (hp : w.Perm (wr ++ wc)) (hst : st0 = As.reverse ++ .ref b :: st) (hroom : (st.map fun v => v.category).sum ≤ 8) (d : decode cc pc = .ok (.invokespecial idx, 3)) (hcs : cells + mc1 ≤ R.cells ∧ slots + ms1 ≤ R.slots)
    (K : ∀ (u : S), post u → gk_C p l e R s m args below meth c nL D A Q (cells + mc1) (slots + ms1) (wr ++ wo u) lv (pc + 3) (st)) : gk_C p l e R s m args below meth c nL D A Q cells slots w lv pc st0 :=
  gk_perm hp (gk_callVI (rt := rt) G hM hT hw n hini hl1 hin hy1 hd hrc hrs hR hn hE hE1 _ (gk_isC wr wc) (gk_ndC _ _) _ (gk_isR wr wc) (gk_ndR _) (gk_dis _ _) hst hroom d hcs K)
theorem gk_callRV (G : gk_G p s m args meth c own nL cc ret Ts D tys A) {post : S → Prop} {wo : S → Nat → va_W} {y : MethodName} {bytes : ByteArray} {maxL idx mc1 ms1 : Nat} {b : Nat}  {rt : Option FieldType} {C : String} {ws ws' : List Cond} {rm : Room} {As : List Value} {wc wr : va_W} {E : (Nat → Prop) → State → Heap → Prop} {st0 : List Value}
    (hM : gk_R l y ws rm D tys E (.ref b :: As) wc mc1 ms1 post wo) (hT : GoodIn Ts (wsV own idx C y ws)) (hw : ws = Cond.code y bytes maxL rt :: ws') (n : Nat) (hd : y.cls = C ∧ y.cls ≠ "java/lang/invoke/MethodHandle" ∧ y.cls ≠ "java/lang/invoke/VarHandle" ∧ (parseMethodDescriptor y.desc).map (fun d => d.parameters.length) = some n) (hrc : rm.cells = mc1) (hrs : rm.slots = ms1) (hR : rm.frames + 1 ≤ R.frames ∧ 8 + (maxL + 11) + rm.locals ≤ R.locals) (hn : As.length = n) {ci q0 : Nat} {fs : List Value} (hrecv : wc[q0]? = some (b, .inr (ci, fs))) {T : u_T} {N : Nat} (hcl : vwCl[ci]? = some (C, T, N)) 
    (hE : gk_Ok E) (hE1 : E A s s.heap) (isC : List Nat) (hC : isC.map (fun i => w[i]?) = wc.map some) (hnC : va_nd isC = true) (isR : List Nat) (hR2 : isR.map (fun i => w[i]?) = wr.map some) (hnR : va_nd isR = true) (hdis : ∀ i ∈ isR, i ∉ isC) (hst : st0 = As.reverse ++ .ref b :: st) (hroom : (st.map fun v => v.category).sum ≤ 8) (d : decode cc pc = .ok (.invokevirtual idx, 3)) (hcs : cells + mc1 ≤ R.cells ∧ slots + ms1 ≤ R.slots)
    (K : ∀ (u : S) (ra : Nat), post u → gk_C p l e R s m args below meth c nL D A Q (cells + mc1) (slots + ms1) (wr ++ wo u ra) lv (pc + 3) (.ref ra :: st)) : gk_C p l e R s m args below meth c nL D A Q cells slots w lv pc st0 := by
  intro H locs ls hP hD hS hl
  have hPc : va_P D vwCl wc H := hP.sub isC (gk_fm isC hC)
  have hDc : va_D A wc := hD.sub isC hnC hC
  have hF := va_free hD hS G.2.2.2.2.2.2.1 isC hC
  refine va_callr (va_runV (As := As) (rest := st) ⟨G.1, G.2.1, G.2.2.1, G.2.2.2.1, G.2.2.2.2.1⟩ (hM H.size) (cwV n G.2.2.2.2.1 hT hw hrc hrs hd hR) ⟨fun a U g mk q => ?_, va_recv G.2.2.2.2.2.1 hPc hcl hrecv, fun U hU hW => ⟨rfl, by rw [hU], by rw [hU]; exact hPc, va_K.moved hW.alike G.2.2.2.2.2.1, hDc.weaken (fun _ _ _ _ => trivial), ?_⟩⟩ rfl hn hl.1 hst (lv_room hroom) d hcs) hS (fun q _ h => hF q h) hF (fun u ra t H1 locs1 ht hvm hw1 hB hz1 hk1 hS1 => ?_)
  · obtain ⟨q0, q1, qP, qK, qD, qE⟩ := q
    exact ⟨q0, q1, qP, va_K.moved (u := U) (U := U.calling g mk a) (Vm.Alike.refl U.vm) qK, qD, hE _ _ U (U.calling g mk a) _ _ (Vm.Alike.refl U.vm) (Or.inr rfl) (fun _ _ h => h) (Nat.le_refl _) (fun _ _ _ => rfl) qE⟩
  · exact hE A _ s U s.heap U.heap hW.alike (Or.inl hW) (fun q _ h => hF q h) (by rw [hU]; exact hS.1) (fun q h1 h2 => by rw [hU]; exact hS.2.1 q h1 h2) hE1
  · obtain ⟨hP1, hK1, hD1⟩ := hB
    rw [ht] at hP1
    obtain ⟨hP2, hD2⟩ := va_join hP hD isC isR hC hR2 hnR hdis hk1 hF hP1 hD1
    exact K u ra hw1 H1 locs1 ls hP2 hD2 hS1 hl
theorem gp_callRV (G : gk_G p s m args meth c own nL cc ret Ts D tys A) {post : S → Prop} {wo : S → Nat → va_W} {y : MethodName} {bytes : ByteArray} {maxL idx mc1 ms1 : Nat} {b : Nat}  {rt : Option FieldType} {C : String} {ws ws' : List Cond} {rm : Room} {As : List Value} {wc wr : va_W} {E : (Nat → Prop) → State → Heap → Prop} {st0 : List Value}
    (hM : gk_R l y ws rm D tys E (.ref b :: As) wc mc1 ms1 post wo) (hT : GoodIn Ts (wsV own idx C y ws)) (hw : ws = Cond.code y bytes maxL rt :: ws') (n : Nat) (hd : y.cls = C ∧ y.cls ≠ "java/lang/invoke/MethodHandle" ∧ y.cls ≠ "java/lang/invoke/VarHandle" ∧ (parseMethodDescriptor y.desc).map (fun d => d.parameters.length) = some n) (hrc : rm.cells = mc1) (hrs : rm.slots = ms1) (hR : rm.frames + 1 ≤ R.frames ∧ 8 + (maxL + 11) + rm.locals ≤ R.locals) (hn : As.length = n) {ci q0 : Nat} {fs : List Value} (hrecv : wc[q0]? = some (b, .inr (ci, fs))) {T : u_T} {N : Nat} (hcl : vwCl[ci]? = some (C, T, N)) 
    (hE : gk_Ok E) (hE1 : E A s s.heap) (hp : w.Perm (wr ++ wc)) (hst : st0 = As.reverse ++ .ref b :: st) (hroom : (st.map fun v => v.category).sum ≤ 8) (d : decode cc pc = .ok (.invokevirtual idx, 3)) (hcs : cells + mc1 ≤ R.cells ∧ slots + ms1 ≤ R.slots)
    (K : ∀ (u : S) (ra : Nat), post u → gk_C p l e R s m args below meth c nL D A Q (cells + mc1) (slots + ms1) (wr ++ wo u ra) lv (pc + 3) (.ref ra :: st)) : gk_C p l e R s m args below meth c nL D A Q cells slots w lv pc st0 :=
  gk_perm hp (gk_callRV G hM hT hw n hd hrc hrs hR hn hrecv hcl hE hE1 _ (gk_isC wr wc) (gk_ndC _ _) _ (gk_isR wr wc) (gk_ndR _) (gk_dis _ _) hst hroom d hcs K)
theorem gk_callRS (G : gk_G p s m args meth c own nL cc ret Ts D tys A) {post : S → Prop} {wo : S → Nat → va_W} {y : MethodName} {bytes : ByteArray} {maxL idx mc1 ms1 : Nat}  {rt : Option FieldType} {ws ws' : List Cond} {rm : Room} {As : List Value} {wc wr : va_W} {E : (Nat → Prop) → State → Heap → Prop} {st0 : List Value}
    (hM : gk_R l y ws rm D tys E As wc mc1 ms1 post wo) (hT : GoodIn Ts (va_wsS own idx y ws)) (hw : ws = Cond.code y bytes maxL rt :: ws') (n : Nat) (hd : y.cls ≠ "java/lang/invoke/MethodHandle" ∧ y.cls ≠ "java/lang/invoke/VarHandle" ∧ (parseMethodDescriptor y.desc).map (fun d => d.parameters.length) = some n) (hrc : rm.cells = mc1) (hrs : rm.slots = ms1) (hR : rm.frames + 1 ≤ R.frames ∧ 8 + (maxL + 11) + rm.locals ≤ R.locals) (hn : As.length = n) 
    (hE : gk_Ok E) (hE1 : E A s s.heap) (isC : List Nat) (hC : isC.map (fun i => w[i]?) = wc.map some) (hnC : va_nd isC = true) (isR : List Nat) (hR2 : isR.map (fun i => w[i]?) = wr.map some) (hnR : va_nd isR = true) (hdis : ∀ i ∈ isR, i ∉ isC) (hst : st0 = As.reverse ++ st) (hroom : (st.map fun v => v.category).sum ≤ 8) (d : decode cc pc = .ok (.invokestatic idx, 3)) (hcs : cells + mc1 ≤ R.cells ∧ slots + ms1 ≤ R.slots)
    (K : ∀ (u : S) (ra : Nat), post u → gk_C p l e R s m args below meth c nL D A Q (cells + mc1) (slots + ms1) (wr ++ wo u ra) lv (pc + 3) (.ref ra :: st)) : gk_C p l e R s m args below meth c nL D A Q cells slots w lv pc st0 := by
  intro H locs ls hP hD hS hl
  have hPc : va_P D vwCl wc H := hP.sub isC (gk_fm isC hC)
  have hDc : va_D A wc := hD.sub isC hnC hC
  have hF := va_free hD hS G.2.2.2.2.2.2.1 isC hC
  refine va_callr (va_runS (As := As) (rest := st) ⟨G.1, G.2.1, G.2.2.1, G.2.2.2.1, G.2.2.2.2.1⟩ (hM H.size) (va_cwS n G.2.2.2.2.1 hT hw hrc hrs hd hR) ⟨fun a U g mk q => ?_, fun U hU hW => ⟨rfl, by rw [hU], by rw [hU]; exact hPc, va_K.moved hW.alike G.2.2.2.2.2.1, hDc.weaken (fun _ _ _ _ => trivial), ?_⟩⟩ rfl hn hl.1 hst (lv_room hroom) d hcs) hS (fun q _ h => hF q h) hF (fun u ra t H1 locs1 ht hvm hw1 hB hz1 hk1 hS1 => ?_)
  · obtain ⟨q0, q1, qP, qK, qD, qE⟩ := q
    exact ⟨q0, q1, qP, va_K.moved (u := U) (U := U.calling g mk a) (Vm.Alike.refl U.vm) qK, qD, hE _ _ U (U.calling g mk a) _ _ (Vm.Alike.refl U.vm) (Or.inr rfl) (fun _ _ h => h) (Nat.le_refl _) (fun _ _ _ => rfl) qE⟩
  · exact hE A _ s U s.heap U.heap hW.alike (Or.inl hW) (fun q _ h => hF q h) (by rw [hU]; exact hS.1) (fun q h1 h2 => by rw [hU]; exact hS.2.1 q h1 h2) hE1
  · obtain ⟨hP1, hK1, hD1⟩ := hB
    rw [ht] at hP1
    obtain ⟨hP2, hD2⟩ := va_join hP hD isC isR hC hR2 hnR hdis hk1 hF hP1 hD1
    exact K u ra hw1 H1 locs1 ls hP2 hD2 hS1 hl
theorem gp_callRS (G : gk_G p s m args meth c own nL cc ret Ts D tys A) {post : S → Prop} {wo : S → Nat → va_W} {y : MethodName} {bytes : ByteArray} {maxL idx mc1 ms1 : Nat}  {rt : Option FieldType} {ws ws' : List Cond} {rm : Room} {As : List Value} {wc wr : va_W} {E : (Nat → Prop) → State → Heap → Prop} {st0 : List Value}
    (hM : gk_R l y ws rm D tys E As wc mc1 ms1 post wo) (hT : GoodIn Ts (va_wsS own idx y ws)) (hw : ws = Cond.code y bytes maxL rt :: ws') (n : Nat) (hd : y.cls ≠ "java/lang/invoke/MethodHandle" ∧ y.cls ≠ "java/lang/invoke/VarHandle" ∧ (parseMethodDescriptor y.desc).map (fun d => d.parameters.length) = some n) (hrc : rm.cells = mc1) (hrs : rm.slots = ms1) (hR : rm.frames + 1 ≤ R.frames ∧ 8 + (maxL + 11) + rm.locals ≤ R.locals) (hn : As.length = n) 
    (hE : gk_Ok E) (hE1 : E A s s.heap) (hp : w.Perm (wr ++ wc)) (hst : st0 = As.reverse ++ st) (hroom : (st.map fun v => v.category).sum ≤ 8) (d : decode cc pc = .ok (.invokestatic idx, 3)) (hcs : cells + mc1 ≤ R.cells ∧ slots + ms1 ≤ R.slots)
    (K : ∀ (u : S) (ra : Nat), post u → gk_C p l e R s m args below meth c nL D A Q (cells + mc1) (slots + ms1) (wr ++ wo u ra) lv (pc + 3) (.ref ra :: st)) : gk_C p l e R s m args below meth c nL D A Q cells slots w lv pc st0 :=
  gk_perm hp (gk_callRS G hM hT hw n hd hrc hrs hR hn hE hE1 _ (gk_isC wr wc) (gk_ndC _ _) _ (gk_isR wr wc) (gk_ndR _) (gk_dis _ _) hst hroom d hcs K)
end SK5
end
section
/-! THE LAW'S OWN MILL: its cells, and how they stand for the store -/
def gp_r (cI : ClassId) (z : Nat) (S : Nat → Nat) (T : Nat → Nat → Int32) (n : Nat) : va_W := (List.range n).map (fun i => (S i, .inl (cI, z, .inl (T i))))
theorem gp_r_len (cI : ClassId) (z : Nat) (S : Nat → Nat) (T : Nat → Nat → Int32) (n : Nat) : (gp_r cI z S T n).length = n := by
  unfold gp_r; rw [List.length_map, List.length_range]
theorem gp_r_at {cI : ClassId} {z : Nat} {S : Nat → Nat} {T : Nat → Nat → Int32} {n j : Nat} (h : j < n) : (gp_r cI z S T n)[j]? = some (S j, .inl (cI, z, .inl (T j))) := by
  unfold gp_r
  rw [List.getElem?_map, List.getElem?_range h]; rfl
theorem gp_r_set {cI : ClassId} {z : Nat} {S : Nat → Nat} {T : Nat → Nat → Int32} {n j : Nat} (f : Nat → Int32) : (gp_r cI z S T n).set j (S j, .inl (cI, z, .inl f)) = gp_r cI z S (gc_up T j f) n := by
  refine List.ext_getElem (by rw [List.length_set, gp_r_len, gp_r_len]) (fun i h1 h2 => ?_)
  rw [gp_r_len] at h2
  have e1 : ((gp_r cI z S (gc_up T j f) n))[i]? = some (S i, .inl (cI, z, .inl (gc_up T j f i))) := gp_r_at h2
  have e2 : (gp_r cI z S T n)[i]? = some (S i, .inl (cI, z, .inl (T i))) := gp_r_at h2
  have g1 := (List.getElem?_eq_some_iff.mp e1).2
  have g2 := (List.getElem?_eq_some_iff.mp e2).2
  rw [g1, List.getElem_set]
  by_cases hij : j = i
  · subst hij
    rw [if_pos rfl, gc_up_at]
  · rw [if_neg hij, g2, gc_up_ne _ _ (fun q => hij q.symm)]
theorem gp_r_succ (cI : ClassId) (z : Nat) (S : Nat → Nat) (T : Nat → Nat → Int32) (n : Nat) : gp_r cI z S T (n + 1) = gp_r cI z S T n ++ [(S n, .inl (cI, z, .inl (T n)))] := by
  unfold gp_r
  rw [List.range_succ, List.map_append]; rfl
theorem gp_r_congr {cI : ClassId} {z : Nat} {S S' : Nat → Nat} {T T' : Nat → Nat → Int32} {n : Nat} (h : ∀ i, i < n → S i = S' i ∧ T i = T' i) : gp_r cI z S T n = gp_r cI z S' T' n := by
  unfold gp_r
  refine List.map_congr_left (fun i hi => ?_)
  have := h i (List.mem_range.mp hi)
  rw [this.1, this.2]
def gp_V (q : Nat → Nat) (F : Nat → Int32) : List Value := [.int (F 0), .int (F 1), .int (F 2), .int (F 3), .int (F 4), .ref (q 0), .ref (q 1), .ref (q 2)]
def gp_W (cI cJ : ClassId) (a : Nat) (q : Nat → Nat) (F W0 : Nat → Int32) (nm nk : Nat) (fS fK : Nat → Option Nat) (Sx Kx : Nat → Nat) (T V : Nat → Nat → Int32) : va_W :=
  (a, .inr (2, gp_V q F)) :: (q 0, .inl (cI, 12, .inl W0)) :: (q 1, .inl (cJ, nm, .inr (.inr (.inr (.inr fS))))) :: (q 2, .inl (cJ, nk, .inr (.inr (.inr (.inr fK))))) :: (gp_r cI 2 Sx T nm ++ gp_r cI 4 Kx V nk)
section GPW
variable {cI cJ : ClassId} {a : Nat} {q : Nat → Nat} {F W0 : Nat → Int32} {nm nk : Nat} {fS fK : Nat → Option Nat} {Sx Kx : Nat → Nat} {T V : Nat → Nat → Int32} {W W' Z : va_W} {x e : Nat × va_E} {j k : Nat}
theorem gp_atS (h : j < nm) : (gp_W cI cJ a q F W0 nm nk fS fK Sx Kx T V)[j + 4]? = some (Sx j, .inl (cI, 2, .inl (T j))) := by
  show (gp_r cI 2 Sx T nm ++ gp_r cI 4 Kx V nk)[j]? = _
  rw [List.getElem?_append_left (by rw [gp_r_len]; exact h)]
  exact gp_r_at h
theorem gp_atK (h : j < nk) : (gp_W cI cJ a q F W0 nm nk fS fK Sx Kx T V)[nm + j + 4]? = some (Kx j, .inl (cI, 4, .inl (V j))) := by
  show (gp_r cI 2 Sx T nm ++ gp_r cI 4 Kx V nk)[nm + j]? = _
  rw [List.getElem?_append_right (by rw [gp_r_len]; exact Nat.le_add_right _ _), gp_r_len, Nat.add_sub_cancel_left]
  exact gp_r_at h
theorem gp_setS (h : j < nm) (f : Nat → Int32) : (gp_W cI cJ a q F W0 nm nk fS fK Sx Kx T V).set (j + 4) (Sx j, .inl (cI, 2, .inl f)) = gp_W cI cJ a q F W0 nm nk fS fK Sx Kx (gc_up T j f) V := by
  show _ :: _ :: _ :: _ :: (gp_r cI 2 Sx T nm ++ gp_r cI 4 Kx V nk).set j _ = _ :: _ :: _ :: _ :: _
  rw [List.set_append_left _ _ (by rw [gp_r_len]; exact h), gp_r_set]
theorem gp_setK (f : Nat → Int32) : (gp_W cI cJ a q F W0 nm nk fS fK Sx Kx T V).set (nm + j + 4) (Kx j, .inl (cI, 4, .inl f)) = gp_W cI cJ a q F W0 nm nk fS fK Sx Kx T (gc_up V j f) := by
  show _ :: _ :: _ :: _ :: (gp_r cI 2 Sx T nm ++ gp_r cI 4 Kx V nk).set (nm + j) _ = _ :: _ :: _ :: _ :: _
  rw [List.set_append_right _ _ (by rw [gp_r_len]; exact Nat.le_add_right _ _), gp_r_len, Nat.add_sub_cancel_left, gp_r_set]
theorem gp_s1 (h : W[k]? = some e) : ([x] ++ W)[k + 1]? = some e := h
theorem gp_t1 (h : W.set k e = W') : ([x] ++ W).set (k + 1) e = [x] ++ W' := by
  show x :: W.set k e = x :: W'
  rw [h]
theorem gp_sZ (h : W[k]? = some e) : (W ++ Z)[k]? = some e := by
  rw [List.getElem?_append_left (List.getElem?_eq_some_iff.mp h).1]; exact h
theorem gp_tZ {e1 : Nat × va_E} (h1 : W[k]? = some e1) (h : W.set k e = W') : (W ++ Z).set k e = W' ++ Z := by
  rw [List.set_append_left _ _ (List.getElem?_eq_some_iff.mp h1).1, h]
end GPW
def gp_rows (f : Nat → Option Nat) (S : Nat → Nat) (n : Nat) : Prop := ∀ i, i < n → f i = some (S i)
def gp_rep (F W0 : Nat → Int32) (T V : Nat → Nat → Int32) (M : gm_M) : Prop :=
  (F 0 = nI (M 9 0) ∧ F 1 = nI (M 14 0) ∧ F 2 = nI (M 15 0) ∧ F 3 = nI (M 13 0) ∧ F 4 = nI (M 16 0)) ∧ (∀ i, i < 12 → W0 i = nI (M 0 i)) ∧
  (∀ i, i < M 10 0 → T i 0 = nI (M 1 i)) ∧ (∀ i, i < M 10 0 → T i 1 = gm_e (gm_who M i (M 11 0))) ∧
  (∀ i, i < M 11 0 → V i 0 = nI (M 4 i)) ∧ (∀ i, i < M 11 0 → V i 1 = nI (M 5 i)) ∧ (∀ i, i < M 11 0 → V i 2 = nI (M 6 i)) ∧ (∀ i, i < M 11 0 → V i 3 = gm_e (M 8 i))
section GPR
variable {F W0 : Nat → Int32} {T V : Nat → Nat → Int32} {M X : gm_M}
theorem gp_rep_same (h : gp_rep F W0 T V M) (hs : gm_same M X) : gp_rep F W0 T V X := by
  obtain ⟨⟨h0, h1, h2, h3, h4⟩, w, t0, t1, v0, v1, v2, v3⟩ := h
  have e11 : X 11 0 = M 11 0 := hs 11 0 (by omega)
  have e10 : X 10 0 = M 10 0 := hs 10 0 (by omega)
  refine ⟨⟨?_, ?_, ?_, ?_, ?_⟩, ?_, ?_, ?_, ?_, ?_, ?_, ?_⟩
  · rw [hs 9 0 (by omega)]; exact h0
  · rw [hs 14 0 (by omega)]; exact h1
  · rw [hs 15 0 (by omega)]; exact h2
  · rw [hs 13 0 (by omega)]; exact h3
  · rw [hs 16 0 (by omega)]; exact h4
  · intro i hi; rw [hs 0 i (by omega)]; exact w i hi
  · intro i hi; rw [e10] at hi; rw [hs 1 i (by omega)]; exact t0 i hi
  · intro i hi; rw [e10] at hi; rw [e11, gm_who_congr (M := M) _ (fun k hk => hs 7 k (by omega))]; exact t1 i hi
  · intro i hi; rw [e11] at hi; rw [hs 4 i (by omega)]; exact v0 i hi
  · intro i hi; rw [e11] at hi; rw [hs 5 i (by omega)]; exact v1 i hi
  · intro i hi; rw [e11] at hi; rw [hs 6 i (by omega)]; exact v2 i hi
  · intro i hi; rw [e11] at hi; rw [hs 8 i (by omega)]; exact v3 i hi
/-- a store that differs: what the cells must then hold -/
theorem gp_rep_to {F' W' : Nat → Int32} {T' V' : Nat → Nat → Int32} (h : gp_rep F W0 T V M) (e10 : X 10 0 = M 10 0) (e11 : X 11 0 = M 11 0)
    (h0 : F' 0 = nI (X 9 0)) (h1 : F' 1 = nI (X 14 0)) (h2 : F' 2 = nI (X 15 0)) (h3 : F' 3 = nI (X 13 0)) (h4 : F' 4 = nI (X 16 0)) (hw : ∀ i, i < 12 → W' i = nI (X 0 i))
    (t0 : ∀ i, i < M 10 0 → T' i 0 = nI (X 1 i)) (t1 : ∀ i, i < M 10 0 → T' i 1 = gm_e (gm_who X i (M 11 0)))
    (v0 : ∀ i, i < M 11 0 → V' i 0 = nI (X 4 i)) (v1 : ∀ i, i < M 11 0 → V' i 1 = nI (X 5 i)) (v2 : ∀ i, i < M 11 0 → V' i 2 = nI (X 6 i)) (v3 : ∀ i, i < M 11 0 → V' i 3 = gm_e (X 8 i)) : gp_rep F' W' T' V' X := by
  refine ⟨⟨h0, h1, h2, h3, h4⟩, hw, ?_, ?_, ?_, ?_, ?_, ?_⟩
  · intro i hi; rw [e10] at hi; exact t0 i hi
  · intro i hi; rw [e10] at hi; rw [e11]; exact t1 i hi
  · intro i hi; rw [e11] at hi; exact v0 i hi
  · intro i hi; rw [e11] at hi; exact v1 i hi
  · intro i hi; rw [e11] at hi; exact v2 i hi
  · intro i hi; rw [e11] at hi; exact v3 i hi
theorem gp_up_ne (T : Nat → Nat → Int32) {i j c : Nat} (f : Nat → Int32) (h : i ≠ j) : gc_up T j f i c = T i c := by rw [gc_up_ne _ _ h]
theorem gp_up_c (T : Nat → Nat → Int32) {i j c k : Nat} (v : Int32) (h : k ≠ c) : gc_up T j (upd (T j) c v) i k = T i k := by
  by_cases hi : i = j
  · rw [hi, gc_up_at, pk_un h]
  · rw [gc_up_ne _ _ hi]
theorem gp_up_at (T : Nat → Nat → Int32) (j c : Nat) (v : Int32) : gc_up T j (upd (T j) c v) j c = v := by rw [gc_up_at, pk_us]
theorem gp_rep_clr {m : Nat} (h : gp_rep F W0 T V M) : gp_rep F W0 (gc_up T m (upd (T m) 1 (-1))) V (gm_clr M m) := by
  have e : ∀ k i, k ≠ 7 → gm_clr M m k i = M k i := fun k i hk => gm_clr_ne M m i hk
  obtain ⟨⟨h0, h1, h2, h3, h4⟩, w, t0, t1, v0, v1, v2, v3⟩ := id h
  refine gp_rep_to h (e 10 0 (by decide)) (e 11 0 (by decide)) ?_ ?_ ?_ ?_ ?_ ?_ ?_ ?_ ?_ ?_ ?_ ?_
  · rw [e 9 0 (by decide)]; exact h0
  · rw [e 14 0 (by decide)]; exact h1
  · rw [e 15 0 (by decide)]; exact h2
  · rw [e 13 0 (by decide)]; exact h3
  · rw [e 16 0 (by decide)]; exact h4
  · intro i hi; rw [e 0 i (by decide)]; exact w i hi
  · intro i hi; rw [e 1 i (by decide), gp_up_c _ _ (by decide)]; exact t0 i hi
  · intro i hi
    by_cases him : i = m
    · rw [him, gp_up_at, gm_who_zero _ (fun k _ => by rw [gm_clr_7]; split <;> omega)]; rfl
    · rw [gp_up_ne _ _ him, t1 i hi]
      refine congrArg gm_e (gm_who_keep _ (fun k _ => ?_)).symm
      rw [gm_clr_7]
      split <;> omega
  · intro i hi; rw [e 4 i (by decide)]; exact v0 i hi
  · intro i hi; rw [e 5 i (by decide)]; exact v1 i hi
  · intro i hi; rw [e 6 i (by decide)]; exact v2 i hi
  · intro i hi; rw [e 8 i (by decide)]; exact v3 i hi
theorem gp_rep_put {m s : Nat} (h : gp_rep F W0 T V M) (hs : s < M 11 0) (hs0 : M 7 s = 0) (hw : gm_who M m (M 11 0) = 0) : gp_rep (upd F 3 (nI (M 13 0 + 1))) W0 (gc_up T m (upd (T m) 1 (nI s))) V (gm_put M m s) := by
  have e : ∀ k i, k ≠ 7 → k ≠ 13 → gm_put M m s k i = M k i := fun k i a1 a2 => gm_put_ne M m s i a1 a2
  have hno := gm_who_no _ hw
  obtain ⟨⟨h0, h1, h2, h3, h4⟩, w, t0, t1, v0, v1, v2, v3⟩ := id h
  refine gp_rep_to h (e 10 0 (by decide) (by decide)) (e 11 0 (by decide) (by decide)) ?_ ?_ ?_ ?_ ?_ ?_ ?_ ?_ ?_ ?_ ?_ ?_
  · rw [e 9 0 (by decide) (by decide), pk_un (by decide)]; exact h0
  · rw [e 14 0 (by decide) (by decide), pk_un (by decide)]; exact h1
  · rw [e 15 0 (by decide) (by decide), pk_un (by decide)]; exact h2
  · rw [gm_put_13, pk_us]
  · rw [e 16 0 (by decide) (by decide), pk_un (by decide)]; exact h4
  · intro i hi; rw [e 0 i (by decide) (by decide)]; exact w i hi
  · intro i hi; rw [e 1 i (by decide) (by decide), gp_up_c _ _ (by decide)]; exact t0 i hi
  · intro i hi
    by_cases him : i = m
    · rw [him, gp_up_at, gm_who_is hs (by rw [gm_put_7, if_pos rfl]), gm_eS]
      intro k hk hk1
      rw [gm_put_7] at hk1
      by_cases hks : k = s
      · exact hks
      · rw [if_neg hks] at hk1; exact absurd hk1 (hno k hk)
    · rw [gp_up_ne _ _ him, t1 i hi]
      refine congrArg gm_e (gm_who_keep _ (fun k hk => ?_)).symm
      rw [gm_put_7]
      by_cases hks : k = s
      · rw [if_pos hks, hks, hs0]; omega
      · rw [if_neg hks]
  · intro i hi; rw [e 4 i (by decide) (by decide)]; exact v0 i hi
  · intro i hi; rw [e 5 i (by decide) (by decide)]; exact v1 i hi
  · intro i hi; rw [e 6 i (by decide) (by decide)]; exact v2 i hi
  · intro i hi; rw [e 8 i (by decide) (by decide)]; exact v3 i hi
theorem gp_rep_les {s a : Nat} (h : gp_rep F W0 T V M) : gp_rep (upd F 4 (nI (M 16 0 + a))) W0 T (gc_up V s (upd (V s) 1 (nI (M 5 s - a)))) (gm_les M s a) := by
  have e : ∀ k i, k ≠ 5 → k ≠ 16 → gm_les M s a k i = M k i := fun k i a1 a2 => gm_les_ne M s a i a1 a2
  obtain ⟨⟨h0, h1, h2, h3, h4⟩, w, t0, t1, v0, v1, v2, v3⟩ := id h
  refine gp_rep_to h (e 10 0 (by decide) (by decide)) (e 11 0 (by decide) (by decide)) ?_ ?_ ?_ ?_ ?_ ?_ ?_ ?_ ?_ ?_ ?_ ?_
  · rw [e 9 0 (by decide) (by decide), pk_un (by decide)]; exact h0
  · rw [e 14 0 (by decide) (by decide), pk_un (by decide)]; exact h1
  · rw [e 15 0 (by decide) (by decide), pk_un (by decide)]; exact h2
  · rw [e 13 0 (by decide) (by decide), pk_un (by decide)]; exact h3
  · rw [gm_les_16, pk_us]
  · intro i hi; rw [e 0 i (by decide) (by decide)]; exact w i hi
  · intro i hi; rw [e 1 i (by decide) (by decide)]; exact t0 i hi
  · intro i hi; rw [gm_who_congr (M := M) _ (fun k _ => e 7 k (by decide) (by decide))]; exact t1 i hi
  · intro i hi; rw [e 4 i (by decide) (by decide), gp_up_c _ _ (by decide)]; exact v0 i hi
  · intro i hi
    rw [gm_les_5]
    by_cases his : i = s
    · rw [his, gp_up_at, if_pos rfl]
    · rw [gp_up_ne _ _ his, if_neg his]; exact v1 i hi
  · intro i hi; rw [e 6 i (by decide) (by decide), gp_up_c _ _ (by decide)]; exact v2 i hi
  · intro i hi; rw [e 8 i (by decide) (by decide), gp_up_c _ _ (by decide)]; exact v3 i hi
theorem gp_rep_inc (h : gp_rep F W0 T V M) : gp_rep (upd F 0 (nI (M 9 0 + 1))) W0 T V (gm_inc M) := by
  have e : ∀ k i, k ≠ 9 → gm_inc M k i = M k i := fun k i a1 => gm_inc_ne M i a1
  obtain ⟨⟨h0, h1, h2, h3, h4⟩, w, t0, t1, v0, v1, v2, v3⟩ := id h
  refine gp_rep_to h (e 10 0 (by decide)) (e 11 0 (by decide)) ?_ ?_ ?_ ?_ ?_ ?_ ?_ ?_ ?_ ?_ ?_ ?_
  · rw [gm_inc_9, pk_us]
  · rw [e 14 0 (by decide), pk_un (by decide)]; exact h1
  · rw [e 15 0 (by decide), pk_un (by decide)]; exact h2
  · rw [e 13 0 (by decide), pk_un (by decide)]; exact h3
  · rw [e 16 0 (by decide), pk_un (by decide)]; exact h4
  · intro i hi; rw [e 0 i (by decide)]; exact w i hi
  · intro i hi; rw [e 1 i (by decide)]; exact t0 i hi
  · intro i hi; rw [gm_who_congr (M := M) _ (fun k _ => e 7 k (by decide))]; exact t1 i hi
  · intro i hi; rw [e 4 i (by decide)]; exact v0 i hi
  · intro i hi; rw [e 5 i (by decide)]; exact v1 i hi
  · intro i hi; rw [e 6 i (by decide)]; exact v2 i hi
  · intro i hi; rw [e 8 i (by decide)]; exact v3 i hi
theorem gp_rep_set8 {s v : Nat} (h : gp_rep F W0 T V M) : gp_rep F W0 T (gc_up V s (upd (V s) 3 (nI v))) (gm_set M 8 s (v + 1)) := by
  have e : ∀ k i, k ≠ 8 → gm_set M 8 s (v + 1) k i = M k i := fun k i a1 => gm_set_k M i a1
  obtain ⟨⟨h0, h1, h2, h3, h4⟩, w, t0, t1, v0, v1, v2, v3⟩ := id h
  refine gp_rep_to h (e 10 0 (by decide)) (e 11 0 (by decide)) ?_ ?_ ?_ ?_ ?_ ?_ ?_ ?_ ?_ ?_ ?_ ?_
  · rw [e 9 0 (by decide)]; exact h0
  · rw [e 14 0 (by decide)]; exact h1
  · rw [e 15 0 (by decide)]; exact h2
  · rw [e 13 0 (by decide)]; exact h3
  · rw [e 16 0 (by decide)]; exact h4
  · intro i hi; rw [e 0 i (by decide)]; exact w i hi
  · intro i hi; rw [e 1 i (by decide)]; exact t0 i hi
  · intro i hi; rw [gm_who_congr (M := M) _ (fun k _ => e 7 k (by decide))]; exact t1 i hi
  · intro i hi; rw [e 4 i (by decide), gp_up_c _ _ (by decide)]; exact v0 i hi
  · intro i hi; rw [e 5 i (by decide), gp_up_c _ _ (by decide)]; exact v1 i hi
  · intro i hi; rw [e 6 i (by decide), gp_up_c _ _ (by decide)]; exact v2 i hi
  · intro i hi
    by_cases his : i = s
    · rw [his, gp_up_at, gm_set_at, gm_eS]
    · rw [gp_up_ne _ _ his, gm_set_i _ _ his]; exact v3 i hi
theorem gp_rep_wind {s v : Nat} (h : gp_rep F W0 T V M) : gp_rep F (upd W0 s (nI v)) T V (gm_set M 0 s v) := by
  have e : ∀ k i, k ≠ 0 → gm_set M 0 s v k i = M k i := fun k i a1 => gm_set_k M i a1
  obtain ⟨⟨h0, h1, h2, h3, h4⟩, w, t0, t1, v0, v1, v2, v3⟩ := id h
  refine gp_rep_to h (e 10 0 (by decide)) (e 11 0 (by decide)) ?_ ?_ ?_ ?_ ?_ ?_ ?_ ?_ ?_ ?_ ?_ ?_
  · rw [e 9 0 (by decide)]; exact h0
  · rw [e 14 0 (by decide)]; exact h1
  · rw [e 15 0 (by decide)]; exact h2
  · rw [e 13 0 (by decide)]; exact h3
  · rw [e 16 0 (by decide)]; exact h4
  · intro i hi
    by_cases his : i = s
    · rw [his, pk_us, gm_set_at]
    · rw [pk_un his, gm_set_i _ _ his]; exact w i hi
  · intro i hi; rw [e 1 i (by decide)]; exact t0 i hi
  · intro i hi; rw [gm_who_congr (M := M) _ (fun k _ => e 7 k (by decide))]; exact t1 i hi
  · intro i hi; rw [e 4 i (by decide)]; exact v0 i hi
  · intro i hi; rw [e 5 i (by decide)]; exact v1 i hi
  · intro i hi; rw [e 6 i (by decide)]; exact v2 i hi
  · intro i hi; rw [e 8 i (by decide)]; exact v3 i hi
theorem gp_rep_rule {v : Nat} (h : gp_rep F W0 T V M) : gp_rep (upd F 1 (nI v)) W0 T V (gm_set M 14 0 v) := by
  have e : ∀ k i, k ≠ 14 → gm_set M 14 0 v k i = M k i := fun k i a1 => gm_set_k M i a1
  obtain ⟨⟨h0, h1, h2, h3, h4⟩, w, t0, t1, v0, v1, v2, v3⟩ := id h
  refine gp_rep_to h (e 10 0 (by decide)) (e 11 0 (by decide)) ?_ ?_ ?_ ?_ ?_ ?_ ?_ ?_ ?_ ?_ ?_ ?_
  · rw [e 9 0 (by decide), pk_un (by decide)]; exact h0
  · rw [gm_set_at, pk_us]
  · rw [e 15 0 (by decide), pk_un (by decide)]; exact h2
  · rw [e 13 0 (by decide), pk_un (by decide)]; exact h3
  · rw [e 16 0 (by decide), pk_un (by decide)]; exact h4
  · intro i hi; rw [e 0 i (by decide)]; exact w i hi
  · intro i hi; rw [e 1 i (by decide)]; exact t0 i hi
  · intro i hi; rw [gm_who_congr (M := M) _ (fun k _ => e 7 k (by decide))]; exact t1 i hi
  · intro i hi; rw [e 4 i (by decide)]; exact v0 i hi
  · intro i hi; rw [e 5 i (by decide)]; exact v1 i hi
  · intro i hi; rw [e 6 i (by decide)]; exact v2 i hi
  · intro i hi; rw [e 8 i (by decide)]; exact v3 i hi
theorem gp_rep_off {v : Nat} (h : gp_rep F W0 T V M) : gp_rep (upd F 2 (nI v)) W0 T V (gm_set M 15 0 v) := by
  have e : ∀ k i, k ≠ 15 → gm_set M 15 0 v k i = M k i := fun k i a1 => gm_set_k M i a1
  obtain ⟨⟨h0, h1, h2, h3, h4⟩, w, t0, t1, v0, v1, v2, v3⟩ := id h
  refine gp_rep_to h (e 10 0 (by decide)) (e 11 0 (by decide)) ?_ ?_ ?_ ?_ ?_ ?_ ?_ ?_ ?_ ?_ ?_ ?_
  · rw [e 9 0 (by decide), pk_un (by decide)]; exact h0
  · rw [e 14 0 (by decide), pk_un (by decide)]; exact h1
  · rw [gm_set_at, pk_us]
  · rw [e 13 0 (by decide), pk_un (by decide)]; exact h3
  · rw [e 16 0 (by decide), pk_un (by decide)]; exact h4
  · intro i hi; rw [e 0 i (by decide)]; exact w i hi
  · intro i hi; rw [e 1 i (by decide)]; exact t0 i hi
  · intro i hi; rw [gm_who_congr (M := M) _ (fun k _ => e 7 k (by decide))]; exact t1 i hi
  · intro i hi; rw [e 4 i (by decide)]; exact v0 i hi
  · intro i hi; rw [e 5 i (by decide)]; exact v1 i hi
  · intro i hi; rw [e 6 i (by decide)]; exact v2 i hi
  · intro i hi; rw [e 8 i (by decide)]; exact v3 i hi
theorem gp_rep_until {s v : Nat} (h : gp_rep F W0 T V M) : gp_rep F W0 T (gc_up V s (upd (V s) 2 (nI v))) (gm_set M 6 s v) := by
  have e : ∀ k i, k ≠ 6 → gm_set M 6 s v k i = M k i := fun k i a1 => gm_set_k M i a1
  obtain ⟨⟨h0, h1, h2, h3, h4⟩, w, t0, t1, v0, v1, v2, v3⟩ := id h
  refine gp_rep_to h (e 10 0 (by decide)) (e 11 0 (by decide)) ?_ ?_ ?_ ?_ ?_ ?_ ?_ ?_ ?_ ?_ ?_ ?_
  · rw [e 9 0 (by decide)]; exact h0
  · rw [e 14 0 (by decide)]; exact h1
  · rw [e 15 0 (by decide)]; exact h2
  · rw [e 13 0 (by decide)]; exact h3
  · rw [e 16 0 (by decide)]; exact h4
  · intro i hi; rw [e 0 i (by decide)]; exact w i hi
  · intro i hi; rw [e 1 i (by decide)]; exact t0 i hi
  · intro i hi; rw [gm_who_congr (M := M) _ (fun k _ => e 7 k (by decide))]; exact t1 i hi
  · intro i hi; rw [e 4 i (by decide), gp_up_c _ _ (by decide)]; exact v0 i hi
  · intro i hi; rw [e 5 i (by decide), gp_up_c _ _ (by decide)]; exact v1 i hi
  · intro i hi
    by_cases his : i = s
    · rw [his, gp_up_at, gm_set_at]
    · rw [gp_up_ne _ _ his, gm_set_i _ _ his]; exact v2 i hi
  · intro i hi; rw [e 8 i (by decide), gp_up_c _ _ (by decide)]; exact v3 i hi
theorem gp_rep_adds {T' : Nat → Nat → Int32} {v : Nat} (wf : gm_wf M) (h : gp_rep F W0 T V M) (hT : ∀ i, i < M 10 0 → T' i = T i) (hT0 : T' (M 10 0) 0 = nI v) (hT1 : T' (M 10 0) 1 = -1) : gp_rep F W0 T' V (gm_adds M v) := by
  have e : ∀ k i, k ≠ 1 → k ≠ 10 → gm_adds M v k i = M k i := fun k i a1 a2 => by unfold gm_adds; rw [gm_set_k _ _ a2, gm_set_k _ _ a1]
  have e10 : gm_adds M v 10 0 = M 10 0 + 1 := by unfold gm_adds; rw [gm_set_at]
  have e11 : gm_adds M v 11 0 = M 11 0 := e 11 0 (by decide) (by decide)
  have e7 : ∀ i n, gm_who (gm_adds M v) i n = gm_who M i n := fun i n => gm_who_congr _ (fun k _ => e 7 k (by decide) (by decide))
  obtain ⟨⟨h0, h1, h2, h3, h4⟩, w, t0, t1, v0, v1, v2, v3⟩ := id h
  refine ⟨⟨?_, ?_, ?_, ?_, ?_⟩, ?_, ?_, ?_, ?_, ?_, ?_, ?_⟩
  · rw [e 9 0 (by decide) (by decide)]; exact h0
  · rw [e 14 0 (by decide) (by decide)]; exact h1
  · rw [e 15 0 (by decide) (by decide)]; exact h2
  · rw [e 13 0 (by decide) (by decide)]; exact h3
  · rw [e 16 0 (by decide) (by decide)]; exact h4
  · intro i hi; rw [e 0 i (by decide) (by decide)]; exact w i hi
  · intro i hi
    rw [e10] at hi
    have e1 : gm_adds M v 1 i = if i = M 10 0 then v else M 1 i := by
      unfold gm_adds
      rw [gm_set_k _ _ (by decide)]
      by_cases hq : i = M 10 0
      · rw [hq, gm_set_at, if_pos rfl]
      · rw [gm_set_i _ _ hq, if_neg hq]
    rw [e1]
    by_cases hq : i = M 10 0
    · rw [if_pos hq, hq]; exact hT0
    · rw [if_neg hq, hT i (by omega)]; exact t0 i (by omega)
  · intro i hi
    rw [e10] at hi
    rw [e11, e7]
    by_cases hq : i = M 10 0
    · rw [hq, hT1, gm_who_zero _ (fun k hk => by have := (wf.2.2.2.2.2.2.1 k hk).2.2.2.2.1; omega)]; rfl
    · rw [hT i (by omega)]; exact t1 i (by omega)
  · intro i hi; rw [e11] at hi; rw [e 4 i (by decide) (by decide)]; exact v0 i hi
  · intro i hi; rw [e11] at hi; rw [e 5 i (by decide) (by decide)]; exact v1 i hi
  · intro i hi; rw [e11] at hi; rw [e 6 i (by decide) (by decide)]; exact v2 i hi
  · intro i hi; rw [e11] at hi; rw [e 8 i (by decide) (by decide)]; exact v3 i hi
theorem gp_rep_add {V' : Nat → Nat → Int32} {b g u : Nat} (h : gp_rep F W0 T V M) (hV : ∀ i, i < M 11 0 → V' i = V i) (hV0 : V' (M 11 0) 0 = nI b) (hV1 : V' (M 11 0) 1 = nI g) (hV2 : V' (M 11 0) 2 = nI u) (hV3 : V' (M 11 0) 3 = -1) : gp_rep F W0 T V' (gm_add M b g u) := by
  have e : ∀ k i, (k < 4 ∨ 8 < k) → k ≠ 11 → gm_add M b g u k i = M k i := fun k i a1 a2 => gm_add_k M b g u i a1 a2
  have e11 := gm_add_11 M b g u
  have ei : ∀ k i, 4 ≤ k → k ≤ 8 → i < M 11 0 → gm_add M b g u k i = M k i := fun k i a1 a2 a3 => gm_add_i M b g u a1 a2 (by omega)
  obtain ⟨a4, a5, a6, a7, a8⟩ := gm_add_at M b g u
  have e7 : ∀ i, gm_who (gm_add M b g u) i (M 11 0 + 1) = gm_who M i (M 11 0) := fun i => gm_who_ext (fun k hk => ei 7 k (by decide) (by decide) hk) (by rw [a7]; omega)
  obtain ⟨⟨h0, h1, h2, h3, h4⟩, w, t0, t1, v0, v1, v2, v3⟩ := id h
  refine ⟨⟨?_, ?_, ?_, ?_, ?_⟩, ?_, ?_, ?_, ?_, ?_, ?_, ?_⟩
  · rw [e 9 0 (by decide) (by decide)]; exact h0
  · rw [e 14 0 (by decide) (by decide)]; exact h1
  · rw [e 15 0 (by decide) (by decide)]; exact h2
  · rw [e 13 0 (by decide) (by decide)]; exact h3
  · rw [e 16 0 (by decide) (by decide)]; exact h4
  · intro i hi; rw [e 0 i (by decide) (by decide)]; exact w i hi
  · intro i hi; rw [e 10 0 (by decide) (by decide)] at hi; rw [e 1 i (by decide) (by decide)]; exact t0 i hi
  · intro i hi; rw [e 10 0 (by decide) (by decide)] at hi; rw [e11, e7]; exact t1 i hi
  · intro i hi
    rw [e11] at hi
    by_cases hq : i = M 11 0
    · rw [hq, a4]; exact hV0
    · rw [ei 4 i (by decide) (by decide) (by omega), hV i (by omega)]; exact v0 i (by omega)
  · intro i hi
    rw [e11] at hi
    by_cases hq : i = M 11 0
    · rw [hq, a5]; exact hV1
    · rw [ei 5 i (by decide) (by decide) (by omega), hV i (by omega)]; exact v1 i (by omega)
  · intro i hi
    rw [e11] at hi
    by_cases hq : i = M 11 0
    · rw [hq, a6]; exact hV2
    · rw [ei 6 i (by decide) (by decide) (by omega), hV i (by omega)]; exact v2 i (by omega)
  · intro i hi
    rw [e11] at hi
    by_cases hq : i = M 11 0
    · rw [hq, a8]; exact hV3
    · rw [ei 8 i (by decide) (by decide) (by omega), hV i (by omega)]; exact v3 i (by omega)
theorem gp_rep_lift {s m : Nat} (wf : gm_wf M) (h : gp_rep F W0 T V M) (hs : s < M 11 0) (h7 : M 7 s = m + 1) : gp_rep F W0 (gc_up T m (upd (T m) 1 (-1))) V (gm_set M 7 s 0) := by
  refine gp_rep_same (gp_rep_clr (m := m) h) (fun k i hki => ?_)
  have e11 : gm_clr M m 11 0 = M 11 0 := gm_clr_ne M m 0 (by decide)
  rw [e11] at hki
  by_cases hk : k = 7
  · subst hk
    rw [gm_clr_7]
    by_cases his : i = s
    · rw [his, gm_set_at, if_pos h7]
    · rw [gm_set_i _ _ his, if_neg (fun q => his (gm_wf_ap wf i s (by omega) hs (by omega) (by omega)))]
  · rw [gm_set_k _ _ hk, gm_clr_ne _ _ _ hk]
end GPR
/-! how many are not ground, and their ranks by the rule -/
def gp_un (M : gm_M) (n : Nat) : Nat := n - gm_gct M n
theorem gp_un_0 (M : gm_M) : gp_un M 0 = 0 := rfl
theorem gp_un_yes {M : gm_M} {n : Nat} (h : M 8 n = 0) : gp_un M (n + 1) = gp_un M n + 1 := by
  have := gm_gct_le M n
  unfold gp_un
  rw [show gm_gct M (n + 1) = gm_gct M n + (if M 8 n = 0 then 0 else 1) from rfl, if_pos h]
  omega
theorem gp_un_no {M : gm_M} {n : Nat} (h : M 8 n ≠ 0) : gp_un M (n + 1) = gp_un M n := by
  have := gm_gct_le M n
  unfold gp_un
  rw [show gm_gct M (n + 1) = gm_gct M n + (if M 8 n = 0 then 0 else 1) from rfl, if_neg h]
  omega
theorem gp_un_le (M : gm_M) (n : Nat) : gp_un M n ≤ n := Nat.sub_le _ _
theorem gp_un_mono (M : gm_M) {i : Nat} : ∀ {n : Nat}, i ≤ n → gp_un M i ≤ gp_un M n
  | 0, h => by rw [Nat.le_zero.mp h]; exact Nat.le_refl _
  | n + 1, h => by
    have h1 : gp_un M n ≤ gp_un M (n + 1) := by
      by_cases h8 : M 8 n = 0
      · rw [gp_un_yes h8]; exact Nat.le_succ _
      · rw [gp_un_no h8]; exact Nat.le_refl _
    rcases Nat.le_succ_iff.mp h with q | q
    · exact Nat.le_trans (gp_un_mono M q) h1
    · rw [q]; exact Nat.le_refl _
theorem gp_trn_inj {M : gm_M} {s t : Nat} (hs : s < 16) (ht : t < 16) (h : gm_trn M s = gm_trn M t) : s = t := by
  unfold gm_trn at h; omega
theorem gp_cnt_succ (M : gm_M) (s n : Nat) : gm_cnt M s (n + 1) = gm_cnt M s n + (if M 8 n = 0 ∧ gm_trn M n < gm_trn M s then 1 else 0) := rfl
theorem gp_cnt_mono {M : gm_M} {s t : Nat} (h : gm_trn M s ≤ gm_trn M t) : ∀ n : Nat, gm_cnt M s n ≤ gm_cnt M t n
  | 0 => Nat.le_refl _
  | n + 1 => by
    have ih := gp_cnt_mono h n
    rw [gp_cnt_succ, gp_cnt_succ]
    by_cases h1 : M 8 n = 0 ∧ gm_trn M n < gm_trn M s
    · rw [if_pos h1, if_pos ⟨h1.1, by omega⟩]; omega
    · rw [if_neg h1]; omega
theorem gp_cnt_str {M : gm_M} {s t : Nat} (h : gm_trn M s < gm_trn M t) (h8 : M 8 s = 0) : ∀ n : Nat, s < n → gm_cnt M s n < gm_cnt M t n
  | 0, hs => absurd hs (Nat.not_lt_zero _)
  | n + 1, hs => by
    rw [gp_cnt_succ, gp_cnt_succ]
    by_cases hn : s = n
    · subst hn
      have := gp_cnt_mono (Nat.le_of_lt h) s
      rw [if_neg (by omega), if_pos ⟨h8, h⟩]; omega
    · have ih := gp_cnt_str h h8 n (by omega)
      by_cases h1 : M 8 n = 0 ∧ gm_trn M n < gm_trn M s
      · rw [if_pos h1, if_pos ⟨h1.1, by omega⟩]; omega
      · rw [if_neg h1]; omega
theorem gp_cnt_un (M : gm_M) (s : Nat) : ∀ n : Nat, gm_cnt M s n ≤ gp_un M n
  | 0 => Nat.le_refl _
  | n + 1 => by
    have ih := gp_cnt_un M s n
    rw [gp_cnt_succ]
    by_cases h8 : M 8 n = 0
    · rw [gp_un_yes h8]; split <;> omega
    · rw [gp_un_no h8, if_neg (fun q => h8 q.1)]; exact ih
theorem gp_cnt_lt {M : gm_M} {s : Nat} (h8 : M 8 s = 0) : ∀ n : Nat, s < n → gm_cnt M s n < gp_un M n
  | 0, hs => absurd hs (Nat.not_lt_zero _)
  | n + 1, hs => by
    rw [gp_cnt_succ]
    by_cases hn : s = n
    · subst hn
      have := gp_cnt_un M s s
      rw [gp_un_yes h8, if_neg (by omega)]; omega
    · have ih := gp_cnt_lt h8 n (by omega)
      by_cases h : M 8 n = 0
      · rw [gp_un_yes h]; split <;> omega
      · rw [gp_un_no h, if_neg (fun q => h q.1)]; exact ih
theorem gp_cnt_iff {M : gm_M} {s t n : Nat} (hs : s < n) (ht : t < n) (hn : n ≤ 16) (h8 : M 8 s = 0) (h9 : M 8 t = 0) : gm_cnt M s n < gm_cnt M t n ↔ gm_trn M s < gm_trn M t := by
  constructor
  · intro h
    rcases Nat.lt_trichotomy (gm_trn M s) (gm_trn M t) with q | q | q
    · exact q
    · have := gp_trn_inj (by omega) (by omega) q
      subst this; omega
    · have := gp_cnt_str q h9 n ht; omega
  · intro h; exact gp_cnt_str h h8 n hs
theorem gp_cnt_inj {M : gm_M} {s t n : Nat} (hs : s < n) (ht : t < n) (hn : n ≤ 16) (h8 : M 8 s = 0) (h9 : M 8 t = 0) (h : gm_cnt M s n = gm_cnt M t n) : s = t := by
  rcases Nat.lt_trichotomy (gm_trn M s) (gm_trn M t) with q | q | q
  · have := gp_cnt_str q h8 n hs; omega
  · exact gp_trn_inj (by omega) (by omega) q
  · have := gp_cnt_str q h9 n ht; omega
theorem gp_cnt_sur {M : gm_M} : ∀ n : Nat, n ≤ 16 → ∀ k, k < gp_un M n → ∃ s, s < n ∧ M 8 s = 0 ∧ gm_cnt M s n = k
  | 0, _, k, hk => absurd hk (Nat.not_lt_zero _)
  | n + 1, hn, k, hk => by
    by_cases h8 : M 8 n = 0
    · rw [gp_un_yes h8] at hk
      have hc := gp_cnt_un M n n
      have hself : gm_cnt M n (n + 1) = gm_cnt M n n := by rw [gp_cnt_succ, if_neg (by omega), Nat.add_zero]
      rcases Nat.lt_trichotomy k (gm_cnt M n n) with q | q | q
      · obtain ⟨s, h1, h2, h3⟩ := gp_cnt_sur (M := M) n (by omega) k (by omega)
        refine ⟨s, by omega, h2, ?_⟩
        have : ¬ gm_trn M n < gm_trn M s := fun g => by have := gp_cnt_mono (M := M) (Nat.le_of_lt g) n; omega
        rw [gp_cnt_succ, if_neg (fun g => this g.2)]; exact h3
      · exact ⟨n, Nat.lt_succ_self n, h8, by rw [hself]; exact q.symm⟩
      · obtain ⟨s, h1, h2, h3⟩ := gp_cnt_sur (M := M) n (by omega) (k - 1) (by omega)
        refine ⟨s, by omega, h2, ?_⟩
        have : gm_trn M n < gm_trn M s := by
          rcases Nat.lt_trichotomy (gm_trn M n) (gm_trn M s) with g | g | g
          · exact g
          · have := gp_trn_inj (by omega) (by omega) g; omega
          · have := gp_cnt_str g h2 n h1; omega
        rw [gp_cnt_succ, if_pos ⟨h8, this⟩, h3]; omega
    · rw [gp_un_no h8] at hk
      obtain ⟨s, h1, h2, h3⟩ := gp_cnt_sur n (by omega) k hk
      exact ⟨s, by omega, h2, by rw [gp_cnt_succ, if_neg (fun g => h8 g.1)]; exact h3⟩
/-- the row of those that are not ground, by the rule -/
def gp_ord (M : gm_M) (n : Nat) (o : Nat → Int32) : Prop := ∀ s, s < n → M 8 s = 0 → o (gm_cnt M s n) = nI s
end
section
set_option maxRecDepth 100000 in
set_option maxHeartbeats 2000000 in
theorem c2_stoneOf (l : Launch) (D : va_G) (cI cZ cJ : ClassId) (a : Nat) (q : Nat → Nat) (F W0 : Nat → Int32) (nm nk : Nat) (fS fK : Nat → Option Nat) (Sx Kx : Nat → Nat) (T V : Nat → Nat → Int32) (M : gm_M) (v : Nat) (wf : gm_wf M) (hr : gp_rep F W0 T V M) (hm : M 10 0 = nm) (hk : M 11 0 = nk) (hfS : gp_rows fS Sx nm) (hfK : gp_rows fK Kx nk) (hv : v < nk) : gk_I l yX2_stoneOf wsX2_stoneOf ({ frames := 0, cells := 0, slots := 0, locals := 0 } : Room) D (g_T cI cZ cJ) gk_E0 [.ref a, .int (nI v)] (gp_W cI cJ a q F W0 nm nk fS fK Sx Kx T V) 0 0 (fun (r : Int32) (u : Unit) => r = gm_e (M 7 v)) (fun u => (gp_W cI cJ a q F W0 nm nk fS fK Sx Kx T V)) := by
  refine gk_I_of (ty := .int) (cc := cX2_stoneOf) (nL := 3) (by decide +kernel) rfl (Nat.le_of_ble_eq_true rfl) ?_
  intro p e s m below meth c A Q hnm hE G RET
  obtain ⟨hz1, hz2, hz3, hz4, hz5, hz6, hz7, hz8⟩ := id wf
  have hinX2 : ∀ w ∈ wsX20, w ∈ wsX2_stoneOf := fun w h9 => (List.mem_cons_of_mem _ (List.mem_append_right _ h9))
  have k14 := G.2.2.2.2.1 (.fieldLink RX2 14 "GustMillLaw$Sim" "stones" "[[I") (List.mem_cons_of_mem _ (List.mem_append_left _ (List.mem_of_getElem? (i := 0) rfl)))
  have L2 : ∀ (n : Nat) (k : Nat), nm - k < n → (k ≤ nm) → (∀ i, i < k → ∀ x, x = i + 1 → M 7 v ≠ x) → gk_C p l e ({ frames := 0, cells := 0, slots := 0, locals := 0 } : Room) s m ([.ref a, .int (nI v)] : List Value).toArray below meth c 3 D A Q 0 0 (gp_W cI cJ a q F W0 nm nk fS fK Sx Kx T V) [(0, .ref a), (1, .int (nI v)), (2, .int (nI k))] 2 [] := by
    intro n
    induction n with
    | zero => intro k h0; exact absurd h0 (Nat.not_lt_zero _)
    | succ n ih =>
      intro k h0 w0 w1
      refine gk_iload_n G dX2_stoneOf_2 2 rfl ?_
      refine gk_aload_n G dX2_stoneOf_3 0 rfl ?_
      refine gk_get (v' := .ref (q 1)) G hinX2 (q0 := 0) rfl rfl 6 (by decide) k14 rfl rfl dX2_stoneOf_4 ?_
      refine gk_alen (v := nI nm) G (q0 := 2) (t0 := 2) rfl rfl rfl dX2_stoneOf_7 ?_
      refine gk_icmp_ge (tgt := 31) G dX2_stoneOf_8 (by decide) (fun c_8 => ?_) (fun c_8 => ?_)
      · replace c_8 := (nI_leI (a := nm) (b := k) (by omega) (by omega)).mp c_8
        refine gk_iconst (v := -1) G dX2_stoneOf_31 (by decide) ?_
        exact RET _ _ _ _ _ _ () dX2_stoneOf_32 rfl (by rw [show M 7 v = 0 by have := (hz7 v (by omega)).2.2.2.2.1; by_cases h9 : M 7 v = 0; exact h9; exact absurd rfl (w1 (M 7 v - 1) (by omega) _ (by omega)), gm_e0]) rfl (Nat.le_of_ble_eq_true rfl) (Nat.le_of_ble_eq_true rfl)
      · replace c_8 := (not_congr (nI_leI (a := nm) (b := k) (by omega) (by omega))).mp c_8
        have hwl := gm_who_le M k (M 11 0)
        refine gk_aload_n G dX2_stoneOf_11 0 rfl ?_
        refine gk_get (v' := .ref (q 1)) G hinX2 (q0 := 0) rfl rfl 6 (by decide) k14 rfl rfl dX2_stoneOf_12 ?_
        refine gk_iload_n G dX2_stoneOf_15 2 rfl ?_
        refine gk_aald (v := Sx k) G (q0 := 2) (t0 := 2) rfl rfl k rfl (by omega) (by omega) (hfS k (by omega)) dX2_stoneOf_16 ?_
        refine gk_iconst (v := nI 1) G dX2_stoneOf_17 (by decide) ?_
        refine gk_iald (v := gm_e (gm_who M k (M 11 0))) G (q0 := (k + 4)) (t0 := 0) (gp_atS (by omega)) rfl 1 rfl (by decide) (by decide) (hr.2.2.2.1 k (by omega)) dX2_stoneOf_18 ?_
        refine gk_iload_n G dX2_stoneOf_19 1 rfl ?_
        refine gk_icmp_ne (tgt := 25) G dX2_stoneOf_20 (by decide) (fun c_20 => ?_) (fun c_20 => ?_)
        · have hne : M 7 v ≠ k + 1 := fun q9 => c_20 (by rw [gm_who_is (by omega) q9 (fun i hi h9 => hz8 i v hi (by omega) (by omega) (by omega)), gm_eS])
          refine gk_iinc (j := 2) (v := nI (k + 1)) (lv' := [(2, .int (nI (k + 1))), (0, .ref a), (1, .int (nI v))]) G dX2_stoneOf_25 rfl (nI_add k 1) (by decide) rfl ?_
          refine gk_goto (tgt := 2) G dX2_stoneOf_28 (by decide) ?_
          exact gk_lsub [1,2,0] rfl (ih (k + 1) (by omega) (by omega) (fun i hi x hx => by
            rcases Nat.lt_succ_iff_lt_or_eq.mp hi with g9 | g9
            · exact w1 i g9 x hx
            · rw [hx, g9]; exact hne))
        · have heq : M 7 v = k + 1 := by
            rw [← gm_eS v] at c_20
            have e8 := (gm_e_inj (by omega) (by omega)).mp c_20
            have e7 := gm_who_on (M := M) (m := k) (M 11 0) (by omega)
            rw [e8] at e7; exact e7
          refine gk_iload_n G dX2_stoneOf_23 2 rfl ?_
          exact RET _ _ _ _ _ _ () dX2_stoneOf_24 rfl (by rw [heq, gm_eS]) rfl (Nat.le_of_ble_eq_true rfl) (Nat.le_of_ble_eq_true rfl)
  refine gk_iconst (v := nI 0) G dX2_stoneOf_0 (by decide) ?_
  refine gk_istore_n (lv' := [(2, .int (nI 0)), (0, .ref a), (1, .int (nI v))]) G dX2_stoneOf_1 rfl (by decide) rfl ?_
  exact gk_lsub [1,2,0] rfl (L2 (nm + 1) 0 (by omega) (by omega) (fun i hi => absurd hi (Nat.not_lt_zero _)))
end
section
theorem gp_e_ge {n : Nat} (h : n < 2 ^ 31) : (0 : Int32) ≤ gm_e n ↔ n ≠ 0 := by
  rw [Int32.le_iff_toInt_le, gm_e_toInt h, Int32.toInt_zero]; omega
theorem gp_e_lt {n : Nat} (h : n < 2 ^ 31) : gm_e n < 0 ↔ n = 0 := by
  rw [Int32.lt_iff_toInt_lt, gm_e_toInt h, Int32.toInt_zero]; omega
theorem gp_dec {t : Nat} (h : t ≠ 0) : nI t + Int32.ofInt (-1) = nI (t - 1) := by
  rw [← gm_e_pred h, show Int32.ofInt (-1) = -1 by decide]; rfl
theorem gk_pnil (w : va_W) : w.Perm (w ++ []) := by rw [List.append_nil]
theorem gp_keyv {F W0 : Nat → Int32} {T V : Nat → Nat → Int32} {M : gm_M} {i : Nat} (hr : gp_rep F W0 T V M) (hi : i < M 11 0) (h1 : 0 < M 14 0) (h2 : M 14 0 ≤ 2) : V i (3 - M 14 0) = nI (gm_key M i) := by
  unfold gm_key
  rcases (show M 14 0 = 1 ∨ M 14 0 = 2 by omega) with h | h
  · rw [h, if_neg (by decide), if_pos rfl]; exact hr.2.2.2.2.2.2.1 i hi
  · rw [h, if_neg (by decide), if_neg (by decide)]; exact hr.2.2.2.2.2.1 i hi
theorem gp_key_le {M : gm_M} (wf : gm_wf M) {i : Nat} (hi : i < M 11 0) : gm_key M i ≤ 200 := by
  have h := wf.2.2.2.2.2.2.1 i hi
  unfold gm_key
  split
  · omega
  · split <;> omega
theorem gp_sort_hi {M : gm_M} {i j : Nat} (hi : i < 16) (hj : j < i) (h8 : M 8 j = 0) (h : gm_cnt M i i ≤ gm_cnt M j i) : gm_key M i < gm_key M j := by
  have h1 : gm_trn M i < gm_trn M j := by
    rcases Nat.lt_trichotomy (gm_trn M i) (gm_trn M j) with g | g | g
    · exact g
    · have := gp_trn_inj (by omega) (by omega) g; omega
    · have := gp_cnt_str g h8 i hj; omega
  unfold gm_trn at h1; omega
theorem gp_sort_lo {M : gm_M} {i j : Nat} (hi : i < 16) (hj : j < 16) (h : gm_key M i < gm_key M j) : gm_cnt M i i ≤ gm_cnt M j i :=
  gp_cnt_mono (by unfold gm_trn; omega) i
theorem gp_ord_ins {M : gm_M} {i : Nat} {fo f1 : Nat → Int32} (hi : i < 16) (h8 : M 8 i = 0) (ho : gp_ord M i fo) (h1 : ∀ k, k < gm_cnt M i i → f1 k = fo k) (h2 : ∀ k, gm_cnt M i i < k → k ≤ gp_un M i → f1 k = fo (k - 1)) : gp_ord M (i + 1) (upd f1 (gm_cnt M i i) (nI i)) := by
  intro j hj hj8
  by_cases hji : j = i
  · rw [hji, gp_cnt_succ, if_neg (by omega), Nat.add_zero, pk_us]
  · have hj1 : j < i := by omega
    have hlt := gp_cnt_lt hj8 i hj1
    rcases Nat.lt_trichotomy (gm_trn M j) (gm_trn M i) with g | g | g
    · have hc := gp_cnt_str g hj8 i hj1
      rw [gp_cnt_succ, if_neg (by omega), Nat.add_zero, pk_un (by omega), h1 _ hc]
      exact ho j hj1 hj8
    · have := gp_trn_inj (by omega) (by omega) g; omega
    · have hc := gp_cnt_mono (M := M) (Nat.le_of_lt g) i
      rw [gp_cnt_succ, if_pos ⟨h8, g⟩, pk_un (by omega), h2 _ (by omega) (by omega), Nat.add_sub_cancel]
      exact ho j hj1 hj8
theorem gp_ord_skip {M : gm_M} {i : Nat} {fo : Nat → Int32} (h8 : M 8 i ≠ 0) (ho : gp_ord M i fo) : gp_ord M (i + 1) fo := by
  intro j hj hj8
  have hj1 : j < i := by
    rcases Nat.lt_succ_iff_lt_or_eq.mp hj with g | g
    · exact g
    · rw [g] at hj8; exact absurd hj8 h8
  rw [gp_cnt_succ, if_neg (fun g => h8 g.1)]
  exact ho j hj1 hj8
set_option maxRecDepth 100000 in
set_option maxHeartbeats 2000000 in
theorem c2_order (l : Launch) (D : va_G) (cI cZ cJ : ClassId) (a : Nat) (q : Nat → Nat) (F W0 : Nat → Int32) (nm nk : Nat) (fS fK : Nat → Option Nat) (Sx Kx : Nat → Nat) (T V : Nat → Nat → Int32) (M : gm_M) (wf : gm_wf M) (hr : gp_rep F W0 T V M) (hm : M 10 0 = nm) (hk : M 11 0 = nk) (hfS : gp_rows fS Sx nm) (hfK : gp_rows fK Kx nk) (hh : M 9 0 < 2000000) : gk_R l yX2_order wsX2_order ({ frames := 0, cells := 1, slots := 16, locals := 0 } : Room) D (g_T cI cZ cJ) gk_E0 [.ref a] (gp_W cI cJ a q F W0 nm nk fS fK Sx Kx T V) 1 16 (fun (u : (Nat → Int32)) => gp_ord M nk u) (fun u ra => (gw_R cI ra (gp_un M nk) u ++ (gp_W cI cJ a q F W0 nm nk fS fK Sx Kx T V))) := by
  refine gk_R_of (rt := (.array .int)) (cc := cX2_order) (nL := 6) (Or.inr ⟨_, rfl⟩) (by decide +kernel) rfl (Nat.le_of_ble_eq_true rfl) ?_
  intro p e s m below meth c A Q hnm hE G RET
  obtain ⟨hz1, hz2, hz3, hz4, hz5, hz6, hz7, hz8⟩ := id wf
  have hinX2 : ∀ w ∈ wsX20, w ∈ wsX2_order := fun w h9 => (List.mem_cons_of_mem _ (List.mem_append_right _ h9))
  have k18 := G.2.2.2.2.1 (.fieldLink RX2 18 "GustMillLaw$Sim" "sacks" "[[I") (List.mem_cons_of_mem _ (List.mem_append_left _ (List.mem_of_getElem? (i := 0) rfl)))
  have k21 := G.2.2.2.2.1 (.fieldLink RX2 21 "GustMillLaw$Sim" "rule" "I") (List.mem_cons_of_mem _ (List.mem_append_left _ (List.mem_of_getElem? (i := 2) rfl)))
  have hun : gp_un M nk ≤ 16 := by have := gp_un_le M nk; omega
  have J41 : gk_C p l e ({ frames := 0, cells := 1, slots := 16, locals := 0 } : Room) s m ([.ref a] : List Value).toArray below meth c 6 D A Q 0 0 (gp_W cI cJ a q F W0 nm nk fS fK Sx Kx T V) [(0, .ref a), (1, .int (nI (gp_un M nk)))] 41 [] := by
    refine gk_iload_n G dX2_order_41 1 rfl ?_
    refine gk_newa (cI := cI) (atype := .int) (N := (gp_un M nk)) (a0 := ((gp_un M nk), .inl (fun _ => 0))) G (G.2.2.2.2.1 (.arrayClass .int) (List.mem_cons_of_mem _ (List.mem_append_left _ (List.mem_of_getElem? (i := 1) rfl)))) rfl (fun C h => by cases h) 0 rfl (fun _ => rfl) rfl (by omega) (by show (gp_un M nk) * 4 ≤ 536870912; omega) (Nat.le_of_ble_eq_true rfl) (by show 0 + (gp_un M nk) ≤ 16; omega) dX2_order_42 (fun o1 => ?_)
    refine gk_widen (k := 1) (n := 16) (Nat.le_of_ble_eq_true rfl) (by omega) (gk_rot ?_)
    show gk_C p l e ({ frames := 0, cells := 1, slots := 16, locals := 0 } : Room) s m ([.ref a] : List Value).toArray below meth c 6 D A Q 1 16 (gw_R cI o1 (gp_un M nk) (fun _ => 0) ++ (gp_W cI cJ a q F W0 nm nk fS fK Sx Kx T V)) [(0, .ref a), (1, .int (nI (gp_un M nk)))] 44 [.ref o1]
    refine gk_astore_n (lv' := [(2, .ref o1), (0, .ref a), (1, .int (nI (gp_un M nk)))]) G dX2_order_44 rfl (by decide) rfl ?_
    have L50 : ∀ (n : Nat) (i : Nat) (fo : Nat → Int32), nk - i < n → (i ≤ nk) → (gp_ord M i fo) → gk_C p l e ({ frames := 0, cells := 1, slots := 16, locals := 0 } : Room) s m ([.ref a] : List Value).toArray below meth c 6 D A Q 1 16 (gw_R cI o1 (gp_un M nk) fo ++ (gp_W cI cJ a q F W0 nm nk fS fK Sx Kx T V)) [(0, .ref a), (2, .ref o1), (3, .int (nI (gp_un M i))), (4, .int (nI i))] 50 [] := by
      intro n
      induction n with
      | zero => intro i fo h0; exact absurd h0 (Nat.not_lt_zero _)
      | succ n ih =>
        intro i fo h0 w0 w1
        refine gk_iload G dX2_order_50 3 rfl ?_
        refine gk_aload_n G dX2_order_52 0 rfl ?_
        refine gk_get (v' := .ref (q 2)) G hinX2 (q0 := 1) rfl rfl 7 (by decide) k18 rfl rfl dX2_order_53 ?_
        refine gk_alen (v := nI nk) G (q0 := 4) (t0 := 2) rfl rfl rfl dX2_order_56 ?_
        refine gk_icmp_ge (tgt := 156) G dX2_order_57 (by decide) (fun c_57 => ?_) (fun c_57 => ?_)
        · replace c_57 := (nI_leI (a := nk) (b := i) (by omega) (by omega)).mp c_57
          refine gk_aload_n G dX2_order_156 1 rfl ?_
          exact RET _ _ _ _ _ _ fo [] dX2_order_157 (by rw [show nk = i by omega]; exact w1) (gk_pnil _) (Nat.le_of_ble_eq_true rfl) (Nat.le_of_ble_eq_true rfl)
        · replace c_57 := (not_congr (nI_leI (a := nk) (b := i) (by omega) (by omega))).mp c_57
          have h8b := (hz7 i (by omega)).2.2.2.2.2.2
          have hui := gp_un_mono M (show i ≤ nk by omega)
          have hule := gp_un_le M i
          refine gk_aload_n G dX2_order_60 0 rfl ?_
          refine gk_get (v' := .ref (q 2)) G hinX2 (q0 := 1) rfl rfl 7 (by decide) k18 rfl rfl dX2_order_61 ?_
          refine gk_iload G dX2_order_64 3 rfl ?_
          refine gk_aald (v := Kx i) G (q0 := 4) (t0 := 2) rfl rfl i rfl (by omega) (by omega) (hfK i (by omega)) dX2_order_66 ?_
          refine gk_iconst (v := nI 3) G dX2_order_67 (by decide) ?_
          refine gk_iald (v := gm_e (M 8 i)) G (q0 := (nm + i + 4 + 1)) (t0 := 0) (gp_s1 (gp_atK (by omega))) rfl 3 rfl (by decide) (by decide) (hr.2.2.2.2.2.2.2 i (by omega)) dX2_order_68 ?_
          refine gk_if_lt (tgt := 75) G dX2_order_69 (by decide) (fun c_69 => ?_) (fun c_69 => ?_)
          · replace c_69 := (gp_e_lt (n := M 8 i) (by omega)).mp c_69
            have hu1 := gp_un_yes (M := M) (n := i) (by omega)
            have hu2 := gp_un_mono M (show i + 1 ≤ nk by omega)
            have hcu := gp_cnt_un M i i
            have J141 : ∀ f1 : Nat → Int32, (∀ k, k < gm_cnt M i i → f1 k = fo k) → (∀ k, gm_cnt M i i < k → k ≤ gp_un M i → f1 k = fo (k - 1)) → gk_C p l e ({ frames := 0, cells := 1, slots := 16, locals := 0 } : Room) s m ([.ref a] : List Value).toArray below meth c 6 D A Q 1 16 (gw_R cI o1 (gp_un M nk) f1 ++ (gp_W cI cJ a q F W0 nm nk fS fK Sx Kx T V)) [(0, .ref a), (2, .ref o1), (3, .int (nI (gp_un M i))), (4, .int (nI i)), (5, .int (nI (gm_cnt M i i)))] 141 [] := by
              intro f1 h1 h2
              refine gk_aload_n G dX2_order_141 1 rfl ?_
              refine gk_iload G dX2_order_142 4 rfl ?_
              refine gk_iload G dX2_order_144 3 rfl ?_
              refine gk_topi (fun v146 ev146 => ?_)
              refine gk_iast (w' := (gw_R cI o1 (gp_un M nk) (upd f1 (gm_cnt M i i) v146) ++ (gp_W cI cJ a q F W0 nm nk fS fK Sx Kx T V))) G (q0 := 0) (t0 := 0) rfl rfl (gm_cnt M i i) rfl (by omega) (by omega) rfl dX2_order_146 ?_
              refine gk_iinc (j := 2) (v := nI (gp_un M i + 1)) (lv' := [(3, .int (nI (gp_un M i + 1))), (0, .ref a), (2, .ref o1), (4, .int (nI i)), (5, .int (nI (gm_cnt M i i)))]) G dX2_order_147 rfl (nI_add (gp_un M i) 1) (by decide) rfl ?_
              refine gk_iinc (j := 3) (v := nI (i + 1)) (lv' := [(4, .int (nI (i + 1))), (3, .int (nI (gp_un M i + 1))), (0, .ref a), (2, .ref o1), (5, .int (nI (gm_cnt M i i)))]) G dX2_order_150 rfl (nI_add i 1) (by decide) rfl ?_
              refine gk_goto (tgt := 50) G dX2_order_153 (by decide) ?_
              have e9 : gp_un M (i + 1) = gp_un M i + 1 := hu1
              have t9 := ih (i + 1) _ (by omega) (by omega) (gp_ord_ins (by omega) (by omega) w1 h1 h2)
              rw [e9, ← ev146] at t9
              exact gk_lsub [2,3,1,0] rfl t9
            have L78 : ∀ (n : Nat) (t : Nat) (f1 : Nat → Int32), t < n → (gm_cnt M i i ≤ t) → (t ≤ gp_un M i) → (∀ k, k < t → f1 k = fo k) → (∀ k, t < k → k ≤ gp_un M i → f1 k = fo (k - 1)) → gk_C p l e ({ frames := 0, cells := 1, slots := 16, locals := 0 } : Room) s m ([.ref a] : List Value).toArray below meth c 6 D A Q 1 16 (gw_R cI o1 (gp_un M nk) f1 ++ (gp_W cI cJ a q F W0 nm nk fS fK Sx Kx T V)) [(0, .ref a), (2, .ref o1), (3, .int (nI (gp_un M i))), (4, .int (nI i)), (5, .int (nI t))] 78 [] := by
              intro n
              induction n with
              | zero => intro t f1 h0; exact absurd h0 (Nat.not_lt_zero _)
              | succ n ih7 =>
                intro t f1 h0 u0 u1 u2 u3
                refine gk_iload G dX2_order_78 4 rfl ?_
                refine gk_if_le (tgt := 141) G dX2_order_80 (by decide) (fun c_80 => ?_) (fun c_80 => ?_)
                · replace c_80 := (nI_leI (a := t) (b := 0) (by omega) (by omega)).mp c_80
                  have hc9 : t = gm_cnt M i i := by omega
                  rw [hc9] at u2 u3
                  have t9 := J141 f1 u2 u3
                  rw [← hc9] at t9
                  exact gk_lsub [0,1,2,3,4] rfl t9
                · replace c_80 := (not_congr (nI_leI (a := t) (b := 0) (by omega) (by omega))).mp c_80
                  obtain ⟨sx, hs1, hs2, hs3⟩ := gp_cnt_sur (M := M) i (by omega) (t - 1) (by omega)
                  have hf : f1 (t - 1) = nI sx := by rw [u2 (t - 1) (by omega), ← hs3]; exact w1 sx hs1 hs2
                  have hk1 := gp_key_le wf (show sx < M 11 0 by omega)
                  have hk2 := gp_key_le wf (show i < M 11 0 by omega)
                  refine gk_aload_n G dX2_order_83 0 rfl ?_
                  refine gk_get (v' := .int (nI (M 14 0))) G hinX2 (q0 := 1) rfl rfl 1 (by decide) k21 rfl (congrArg Value.int (hr.1.2.1)) dX2_order_84 ?_
                  refine gk_if_le (tgt := 141) G dX2_order_87 (by decide) (fun c_87 => ?_) (fun c_87 => ?_)
                  · replace c_87 := (nI_leI (a := M 14 0) (b := 0) (by omega) (by omega)).mp c_87
                    have hk0 : ∀ x, gm_key M x = 0 := fun x => by unfold gm_key; rw [if_pos (by omega)]
                    have hc9 : t = gm_cnt M i i := Nat.le_antisymm (Nat.le_of_not_lt (fun q9 => by have := gp_sort_hi (M := M) (i := i) (j := sx) (by omega) hs1 hs2 (by omega); rw [hk0, hk0] at this; omega)) u0
                    rw [hc9] at u2 u3
                    have t9 := J141 f1 u2 u3
                    rw [← hc9] at t9
                    exact gk_lsub [0,1,2,3,4] rfl t9
                  · replace c_87 := (not_congr (nI_leI (a := M 14 0) (b := 0) (by omega) (by omega))).mp c_87
                    refine gk_aload_n G dX2_order_90 0 rfl ?_
                    refine gk_get (v' := .ref (q 2)) G hinX2 (q0 := 1) rfl rfl 7 (by decide) k18 rfl rfl dX2_order_91 ?_
                    refine gk_aload_n G dX2_order_94 1 rfl ?_
                    refine gk_iload G dX2_order_95 4 rfl ?_
                    refine gk_iconst (v := nI 1) G dX2_order_97 (by decide) ?_
                    refine gk_isub (v := nI (t - 1)) G dX2_order_98 (pk_sub (by omega)) ?_
                    refine gk_iald (v := nI sx) G (q0 := 0) (t0 := 0) rfl rfl (t - 1) rfl (by omega) (by omega) hf dX2_order_99 ?_
                    refine gk_aald (v := Kx sx) G (q0 := 4) (t0 := 2) rfl rfl sx rfl (by omega) (by omega) (hfK sx (by omega)) dX2_order_100 ?_
                    refine gk_iconst (v := nI 3) G dX2_order_101 (by decide) ?_
                    refine gk_aload_n G dX2_order_102 0 rfl ?_
                    refine gk_get (v' := .int (nI (M 14 0))) G hinX2 (q0 := 1) rfl rfl 1 (by decide) k21 rfl (congrArg Value.int (hr.1.2.1)) dX2_order_103 ?_
                    refine gk_isub (v := nI (3 - M 14 0)) G dX2_order_106 (pk_sub (by omega)) ?_
                    refine gk_iald (v := nI (gm_key M sx)) G (q0 := (nm + sx + 4 + 1)) (t0 := 0) (gp_s1 (gp_atK (by omega))) rfl (3 - M 14 0) rfl (by omega) (by decide) (gp_keyv hr (by omega) (by omega) hz3) dX2_order_107 ?_
                    refine gk_aload_n G dX2_order_108 0 rfl ?_
                    refine gk_get (v' := .ref (q 2)) G hinX2 (q0 := 1) rfl rfl 7 (by decide) k18 rfl rfl dX2_order_109 ?_
                    refine gk_iload G dX2_order_112 3 rfl ?_
                    refine gk_aald (v := Kx i) G (q0 := 4) (t0 := 2) rfl rfl i rfl (by omega) (by omega) (hfK i (by omega)) dX2_order_114 ?_
                    refine gk_iconst (v := nI 3) G dX2_order_115 (by decide) ?_
                    refine gk_aload_n G dX2_order_116 0 rfl ?_
                    refine gk_get (v' := .int (nI (M 14 0))) G hinX2 (q0 := 1) rfl rfl 1 (by decide) k21 rfl (congrArg Value.int (hr.1.2.1)) dX2_order_117 ?_
                    refine gk_isub (v := nI (3 - M 14 0)) G dX2_order_120 (pk_sub (by omega)) ?_
                    refine gk_iald (v := nI (gm_key M i)) G (q0 := (nm + i + 4 + 1)) (t0 := 0) (gp_s1 (gp_atK (by omega))) rfl (3 - M 14 0) rfl (by omega) (by decide) (gp_keyv hr (by omega) (by omega) hz3) dX2_order_121 ?_
                    refine gk_icmp_le (tgt := 141) G dX2_order_122 (by decide) (fun c_122 => ?_) (fun c_122 => ?_)
                    · replace c_122 := (nI_leI (a := gm_key M sx) (b := gm_key M i) (by omega) (by omega)).mp c_122
                      have hc9 : t = gm_cnt M i i := Nat.le_antisymm (Nat.le_of_not_lt (fun q9 => by have := gp_sort_hi (M := M) (i := i) (j := sx) (by omega) hs1 hs2 (by omega); omega)) u0
                      rw [hc9] at u2 u3
                      have t9 := J141 f1 u2 u3
                      rw [← hc9] at t9
                      exact gk_lsub [0,1,2,3,4] rfl t9
                    · replace c_122 := (not_congr (nI_leI (a := gm_key M sx) (b := gm_key M i) (by omega) (by omega))).mp c_122
                      have hlo := gp_sort_lo (M := M) (i := i) (j := sx) (by omega) (by omega) (by omega)
                      refine gk_aload_n G dX2_order_125 1 rfl ?_
                      refine gk_iload G dX2_order_126 4 rfl ?_
                      refine gk_aload_n G dX2_order_128 1 rfl ?_
                      refine gk_iload G dX2_order_129 4 rfl ?_
                      refine gk_iconst (v := nI 1) G dX2_order_131 (by decide) ?_
                      refine gk_isub (v := nI (t - 1)) G dX2_order_132 (pk_sub (by omega)) ?_
                      refine gk_iald (v := nI sx) G (q0 := 0) (t0 := 0) rfl rfl (t - 1) rfl (by omega) (by omega) hf dX2_order_133 ?_
                      refine gk_topi (fun v134 ev134 => ?_)
                      refine gk_iast (w' := (gw_R cI o1 (gp_un M nk) (upd f1 t v134) ++ (gp_W cI cJ a q F W0 nm nk fS fK Sx Kx T V))) G (q0 := 0) (t0 := 0) rfl rfl t rfl (by omega) (by omega) rfl dX2_order_134 ?_
                      refine gk_iinc (j := 4) (v := nI (t - 1)) (lv' := [(5, .int (nI (t - 1))), (0, .ref a), (2, .ref o1), (3, .int (nI (gp_un M i))), (4, .int (nI i))]) G dX2_order_135 rfl (gp_dec (by omega)) (by decide) rfl ?_
                      refine gk_goto (tgt := 78) G dX2_order_138 (by decide) ?_
                      exact gk_lsub [1,2,3,4,0] rfl (ih7 (t - 1) _ (by omega) (by omega) (by omega) (fun k hk => by rw [pk_un (by omega)]; exact u2 k (by omega)) (fun k g1 g2 => by
                        by_cases hkt : k = t
                        · rw [hkt, pk_us, ev134, ← hf]; exact u2 (t - 1) (by omega)
                        · rw [pk_un hkt]; exact u3 k (by omega) g2))
            refine gk_iload_n G dX2_order_75 2 rfl ?_
            refine gk_istore (lv' := [(5, .int (nI (gp_un M i))), (0, .ref a), (2, .ref o1), (3, .int (nI (gp_un M i))), (4, .int (nI i))]) G dX2_order_76 (by decide) rfl ?_
            exact gk_lsub [1,2,3,4,0] rfl (L78 (gp_un M i + 1) (gp_un M i) fo (by omega) hcu (by omega) (fun k _ => rfl) (fun k g1 g2 => absurd g1 (by omega)))
          · replace c_69 := (not_congr (gp_e_lt (n := M 8 i) (by omega))).mp c_69
            refine gk_goto (tgt := 150) G dX2_order_72 (by decide) ?_
            refine gk_iinc (j := 3) (v := nI (i + 1)) (lv' := [(4, .int (nI (i + 1))), (0, .ref a), (2, .ref o1), (3, .int (nI (gp_un M i)))]) G dX2_order_150 rfl (nI_add i 1) (by decide) rfl ?_
            refine gk_goto (tgt := 50) G dX2_order_153 (by decide) ?_
            have e9 : gp_un M (i + 1) = gp_un M i := gp_un_no (by omega)
            have t9 := ih (i + 1) fo (by omega) (by omega) (gp_ord_skip (by omega) w1)
            rw [e9] at t9
            exact gk_lsub [1,2,3,0] rfl t9
    refine gk_iconst (v := nI 0) G dX2_order_45 (by decide) ?_
    refine gk_istore_n (lv' := [(3, .int (nI 0)), (2, .ref o1), (0, .ref a), (1, .int (nI (gp_un M nk)))]) G dX2_order_46 rfl (by decide) rfl ?_
    refine gk_iconst (v := nI 0) G dX2_order_47 (by decide) ?_
    refine gk_istore (lv' := [(4, .int (nI 0)), (3, .int (nI 0)), (2, .ref o1), (0, .ref a), (1, .int (nI (gp_un M nk)))]) G dX2_order_48 (by decide) rfl ?_
    have t9 := L50 (nk + 1) 0 (fun _ => 0) (by omega) (by omega) (fun s9 h9 => absurd h9 (Nat.not_lt_zero _))
    exact gk_lsub [3,2,1,0] rfl t9
  have L13 : ∀ (n : Nat) (k : Nat), nk - k < n → (k ≤ nk) → gk_C p l e ({ frames := 0, cells := 1, slots := 16, locals := 0 } : Room) s m ([.ref a] : List Value).toArray below meth c 6 D A Q 0 0 (gp_W cI cJ a q F W0 nm nk fS fK Sx Kx T V) [(0, .ref a), (1, .int (nI (gp_un M k))), (2, .ref (q 2)), (3, .int (nI nk)), (4, .int (nI k))] 13 [] := by
    intro n
    induction n with
    | zero => intro k h0; exact absurd h0 (Nat.not_lt_zero _)
    | succ n ih =>
      intro k h0 w0
      refine gk_iload G dX2_order_13 4 rfl ?_
      refine gk_iload_n G dX2_order_15 3 rfl ?_
      refine gk_icmp_ge (tgt := 41) G dX2_order_16 (by decide) (fun c_16 => ?_) (fun c_16 => ?_)
      · replace c_16 := (nI_leI (a := nk) (b := k) (by omega) (by omega)).mp c_16
        have hkn : k = nk := by omega
        subst hkn
        exact gk_lsub [0,1] rfl J41
      · replace c_16 := (not_congr (nI_leI (a := nk) (b := k) (by omega) (by omega))).mp c_16
        have h8b := (hz7 k (by omega)).2.2.2.2.2.2
        refine gk_aload_n G dX2_order_19 2 rfl ?_
        refine gk_iload G dX2_order_20 4 rfl ?_
        refine gk_aald (v := Kx k) G (q0 := 3) (t0 := 2) rfl rfl k rfl (by omega) (by omega) (hfK k (by omega)) dX2_order_22 ?_
        refine gk_astore (lv' := [(5, .ref (Kx k)), (0, .ref a), (1, .int (nI (gp_un M k))), (2, .ref (q 2)), (3, .int (nI nk)), (4, .int (nI k))]) G dX2_order_23 (by decide) rfl ?_
        refine gk_aload G dX2_order_25 0 rfl ?_
        refine gk_iconst (v := nI 3) G dX2_order_27 (by decide) ?_
        refine gk_iald (v := gm_e (M 8 k)) G (q0 := (nm + k + 4)) (t0 := 0) (gp_atK (by omega)) rfl 3 rfl (by decide) (by decide) (hr.2.2.2.2.2.2.2 k (by omega)) dX2_order_28 ?_
        refine gk_if_ge (tgt := 35) G dX2_order_29 (by decide) (fun c_29 => ?_) (fun c_29 => ?_)
        · replace c_29 := (gp_e_ge (n := M 8 k) (by omega)).mp c_29
          refine gk_iinc (j := 5) (v := nI (k + 1)) (lv' := [(4, .int (nI (k + 1))), (5, .ref (Kx k)), (0, .ref a), (1, .int (nI (gp_un M k))), (2, .ref (q 2)), (3, .int (nI nk))]) G dX2_order_35 rfl (nI_add k 1) (by decide) rfl ?_
          refine gk_goto (tgt := 13) G dX2_order_38 (by decide) ?_
          have e9 : gp_un M (k + 1) = gp_un M k := gp_un_no (by omega)
          have t9 := ih (k + 1) (by omega) (by omega)
          rw [e9] at t9
          exact gk_lsub [2,3,4,5,0] rfl t9
        · replace c_29 := (not_congr (gp_e_ge (n := M 8 k) (by omega))).mp c_29
          refine gk_iinc (j := 2) (v := nI (gp_un M k + 1)) (lv' := [(1, .int (nI (gp_un M k + 1))), (5, .ref (Kx k)), (0, .ref a), (2, .ref (q 2)), (3, .int (nI nk)), (4, .int (nI k))]) G dX2_order_32 rfl (nI_add (gp_un M k) 1) (by decide) rfl ?_
          refine gk_iinc (j := 5) (v := nI (k + 1)) (lv' := [(4, .int (nI (k + 1))), (1, .int (nI (gp_un M k + 1))), (5, .ref (Kx k)), (0, .ref a), (2, .ref (q 2)), (3, .int (nI nk))]) G dX2_order_35 rfl (nI_add k 1) (by decide) rfl ?_
          refine gk_goto (tgt := 13) G dX2_order_38 (by decide) ?_
          have e9 : gp_un M (k + 1) = gp_un M k + 1 := gp_un_yes (by omega)
          have t9 := ih (k + 1) (by omega) (by omega)
          rw [e9] at t9
          exact gk_lsub [3,1,4,5,0] rfl t9
  refine gk_iconst (v := nI 0) G dX2_order_0 (by decide) ?_
  refine gk_istore_n (lv' := [(1, .int (nI 0)), (0, .ref a)]) G dX2_order_1 rfl (by decide) rfl ?_
  refine gk_aload_n G dX2_order_2 1 rfl ?_
  refine gk_get (v' := .ref (q 2)) G hinX2 (q0 := 0) rfl rfl 7 (by decide) k18 rfl rfl dX2_order_3 ?_
  refine gk_astore_n (lv' := [(2, .ref (q 2)), (1, .int (nI 0)), (0, .ref a)]) G dX2_order_6 rfl (by decide) rfl ?_
  refine gk_aload_n G dX2_order_7 0 rfl ?_
  refine gk_alen (v := nI nk) G (q0 := 3) (t0 := 2) rfl rfl rfl dX2_order_8 ?_
  refine gk_istore_n (lv' := [(3, .int (nI nk)), (2, .ref (q 2)), (1, .int (nI 0)), (0, .ref a)]) G dX2_order_9 rfl (by decide) rfl ?_
  refine gk_iconst (v := nI 0) G dX2_order_10 (by decide) ?_
  refine gk_istore (lv' := [(4, .int (nI 0)), (3, .int (nI nk)), (2, .ref (q 2)), (1, .int (nI 0)), (0, .ref a)]) G dX2_order_11 (by decide) rfl ?_
  exact gk_lsub [4,3,2,1,0] rfl (L13 (nk + 1) 0 (by omega) (by omega))
end
section
/-- taking off, of the first k stones -/
def gp_tk (M : gm_M) (k : Nat) : gm_M := if M 15 0 = 0 then M else gm_tkc M k
theorem gp_tk_ne (M : gm_M) (k i : Nat) {x : Nat} (h : x ≠ 7) : gp_tk M k x i = M x i := by
  unfold gp_tk
  split
  · rfl
  · exact gm_tkc_ne M k i h
theorem gp_tk_who (M : gm_M) (k n : Nat) : gm_who (gp_tk M k) k n = gm_who M k n := by
  unfold gp_tk
  split
  · rfl
  · exact gm_tkc_who M k n
theorem gp_tk_0 (M : gm_M) : gm_same M (gp_tk M 0) := by
  unfold gp_tk
  split
  · exact gm_same_rf M
  · exact gm_tkc_0 M
theorem gp_tk_all {M : gm_M} (wf : gm_wf M) : gm_same (gp_tk M (M 10 0)) (gm_tk M) := by
  unfold gp_tk gm_tk
  split
  · exact gm_same_rf M
  · exact gm_tkc_all wf
theorem gp_tk_off {M : gm_M} {k : Nat} (h : M 15 0 = 0) : gm_same (gp_tk M k) (gp_tk M (k + 1)) := by
  unfold gp_tk
  rw [if_pos h, if_pos h]
  exact gm_same_rf M
theorem gp_tk_wanted {M : gm_M} (wf : gm_wf M) {k nm nk j : Nat} {fo : Nat → Int32} (h15 : M 15 0 ≠ 0) (hm : M 10 0 = nm) (hk : M 11 0 = nk) (ho : gp_ord M nk fo) (hj : j < gp_un M nk) (hjm : j < nm) (h : fo j = gm_e (gm_who M k (M 11 0))) : gm_same (gp_tk M k) (gp_tk M (k + 1)) := by
  unfold gp_tk
  rw [if_neg h15, if_neg h15]
  have h16 := wf.2.1
  obtain ⟨sx, a1, a2, a3⟩ := gp_cnt_sur (M := M) nk (by omega) j hj
  have e1 := ho sx a1 a2
  rw [a3, h, ← gm_eS sx] at e1
  have hwl := gm_who_le M k (M 11 0)
  have e2 := (gm_e_inj (by omega) (by omega)).mp e1
  have e3 := gm_who_on (M := M) (m := k) (M 11 0) (by omega)
  rw [e2] at e3
  refine gm_tkc_skip (fun i hi h7 => ?_)
  have := wf.2.2.2.2.2.2.2 i sx hi (by omega) (by rw [h7]; exact e3.symm) (by omega)
  rw [this, hk, a3, hm]; exact hjm
theorem gp_tk_clr {M : gm_M} (wf : gm_wf M) {k nm nk : Nat} {fo : Nat → Int32} (h15 : M 15 0 ≠ 0) (hm : M 10 0 = nm) (hk : M 11 0 = nk) (ho : gp_ord M nk fo) (h : ∀ j, j < gp_un M nk → j < nm → fo j ≠ gm_e (gm_who M k (M 11 0))) : gm_same (gm_clr (gp_tk M k) k) (gp_tk M (k + 1)) := by
  unfold gp_tk
  rw [if_neg h15, if_neg h15]
  refine gm_tkc_clr (fun i hi h7 => Nat.le_of_not_lt (fun hlt => ?_))
  have h7i := wf.2.2.2.2.2.2.1 i hi
  have h8 : M 8 i = 0 := Decidable.byContradiction (fun q9 => by have := (h7i.2.2.2.2.2.1 q9).1; omega)
  have hu := gp_cnt_lt h8 nk (by omega)
  rw [hk] at hlt
  refine h _ hu (by omega) ?_
  rw [ho i (by omega) h8, gm_who_is hi h7 (fun j hj h9 => wf.2.2.2.2.2.2.2 j i hj hi (by omega) (by omega)), gm_eS]
set_option maxRecDepth 100000 in
set_option maxHeartbeats 2000000 in
theorem sp_1 {p : Program} {l : Launch} {e : Env} {s : State} {m : MethodId} {below : List Frame} {meth : Method} {c : Code} {D : va_G} {A : Nat → Prop} {Q : State → Prop} {cI cZ cJ : ClassId} {a : Nat} {q : Nat → Nat} {F W0 : Nat → Int32} {nm nk : Nat} {fS fK : Nat → Option Nat} {Sx Kx : Nat → Nat} {T V : Nat → Nat → Int32} {M : gm_M}  (G : gk_G p s m ([.ref a] : List Value).toArray meth c RX2 9 cX2_pass none wsX2_pass D (g_T cI cZ cJ) A) (o : Nat) (fo : Nat → Int32) (hr : gp_rep F W0 T V M) (ho : gp_ord M nk fo) (wf : gm_wf M) (hm : M 10 0 = nm) (hk : M 11 0 = nk) (hfS : gp_rows fS Sx nm) (hfK : gp_rows fK Kx nk) (hh : M 9 0 < 2000000) (K : ∀ T1, gp_rep F W0 T1 V (gm_tk M) → gk_C p l e ({ frames := 1, cells := 2, slots := 20, locals := 25 } : Room) s m ([.ref a] : List Value).toArray below meth c 9 D A Q 1 16 (gw_R cI o (gp_un M nk) fo ++ (gp_W cI cJ a q F W0 nm nk fS fK Sx Kx T1 V)) [(0, .ref a), (1, .ref o)] 103 []) : gk_C p l e ({ frames := 1, cells := 2, slots := 20, locals := 25 } : Room) s m ([.ref a] : List Value).toArray below meth c 9 D A Q 1 16 (gw_R cI o (gp_un M nk) fo ++ (gp_W cI cJ a q F W0 nm nk fS fK Sx Kx T V)) [(0, .ref a), (1, .ref o), (2, .ref (q 1)), (3, .int (nI nm)), (4, .int (nI 0))] 16 [] := by
  obtain ⟨hz1, hz2, hz3, hz4, hz5, hz6, hz7, hz8⟩ := id wf
  have hinX2 : ∀ w ∈ wsX20, w ∈ wsX2_pass := fun w h9 => (List.mem_cons_of_mem _ (List.mem_append_right _ h9))
  have k14 := G.2.2.2.2.1 (.fieldLink RX2 14 "GustMillLaw$Sim" "stones" "[[I") (List.mem_cons_of_mem _ (List.mem_append_left _ (List.mem_of_getElem? (i := 0) rfl)))
  have k29 := G.2.2.2.2.1 (.fieldLink RX2 29 "GustMillLaw$Sim" "isAllowed" "Z") (List.mem_cons_of_mem _ (List.mem_append_left _ (List.mem_of_getElem? (i := 1) rfl)))
  have L16 : ∀ (n : Nat) (k : Nat) (T1 : Nat → Nat → Int32), nm - k < n → (k ≤ nm) → (gp_rep F W0 T1 V (gp_tk M k)) → gk_C p l e ({ frames := 1, cells := 2, slots := 20, locals := 25 } : Room) s m ([.ref a] : List Value).toArray below meth c 9 D A Q 1 16 (gw_R cI o (gp_un M nk) fo ++ (gp_W cI cJ a q F W0 nm nk fS fK Sx Kx T1 V)) [(0, .ref a), (1, .ref o), (2, .ref (q 1)), (3, .int (nI nm)), (4, .int (nI k))] 16 [] := by
    intro n
    induction n with
    | zero => intro k T1 h0; exact absurd h0 (Nat.not_lt_zero _)
    | succ n ih =>
      intro k T1 h0 w0 w1
      refine gk_iload G dX2_pass_16 4 rfl ?_
      refine gk_iload_n G dX2_pass_18 3 rfl ?_
      refine gk_icmp_ge (tgt := 103) G dX2_pass_19 (by decide) (fun c_19 => ?_) (fun c_19 => ?_)
      · replace c_19 := (nI_leI (a := nm) (b := k) (by omega) (by omega)).mp c_19
        exact gk_lsub [0,1] rfl (K _ (gp_rep_same w1 (by rw [show k = M 10 0 by omega]; exact gp_tk_all wf)))
      · replace c_19 := (not_congr (nI_leI (a := nm) (b := k) (by omega) (by omega))).mp c_19
        have y10 : gp_tk M k 10 0 = nm := (gp_tk_ne M k 0 (by decide)).trans hm
        have y11 : gp_tk M k 11 0 = nk := (gp_tk_ne M k 0 (by decide)).trans hk
        have y15 : gp_tk M k 15 0 = M 15 0 := gp_tk_ne M k 0 (by decide)
        have hun := gp_un_le M nk
        have yw : gm_who (gp_tk M k) k (gp_tk M k 11 0) = gm_who M k (M 11 0) := by rw [y11, hk, gp_tk_who]
        have J80 : ∀ wv : Int32, (wv = 0 → ∀ i, i < gp_un M nk → i < nm → fo i ≠ gm_e (gm_who M k (M 11 0))) → (wv ≠ 0 → ∃ i, i < gp_un M nk ∧ i < nm ∧ fo i = gm_e (gm_who M k (M 11 0))) → gk_C p l e ({ frames := 1, cells := 2, slots := 20, locals := 25 } : Room) s m ([.ref a] : List Value).toArray below meth c 9 D A Q 1 16 (gw_R cI o (gp_un M nk) fo ++ (gp_W cI cJ a q F W0 nm nk fS fK Sx Kx T1 V)) [(0, .ref a), (1, .ref o), (2, .ref (q 1)), (3, .int (nI nm)), (4, .int (nI k)), (5, .ref (Sx k)), (6, .int wv)] 80 [] := by
          intro wv v1 v2
          refine gk_aload_n G dX2_pass_80 0 rfl ?_
          refine gk_get (v' := .int (nI ((gp_tk M k) 15 0))) G hinX2 (q0 := 1) rfl rfl 2 (by decide) k29 rfl (congrArg Value.int (w1.1.2.2.1)) dX2_pass_81 ?_
          refine gk_if_eq (tgt := 97) G dX2_pass_84 (by decide) (fun c_84 => ?_) (fun c_84 => ?_)
          · replace c_84 := (nI_eq (a := (gp_tk M k) 15 0) (b := 0) (by omega) (by omega)).mp c_84
            have hsame := gp_tk_off (M := M) (k := k) (by omega)
            refine gk_iinc (j := 4) (v := nI (k + 1)) (lv' := [(4, .int (nI (k + 1))), (0, .ref a), (1, .ref o), (2, .ref (q 1)), (3, .int (nI nm)), (5, .ref (Sx k)), (6, .int wv)]) G dX2_pass_97 rfl (nI_add k 1) (by decide) rfl ?_
            refine gk_goto (tgt := 16) G dX2_pass_100 (by decide) ?_
            exact gk_lsub [1,2,3,4,0] rfl (ih (k + 1) _ (by omega) (by omega) (gp_rep_same w1 hsame))
          · replace c_84 := (not_congr (nI_eq (a := (gp_tk M k) 15 0) (b := 0) (by omega) (by omega))).mp c_84
            refine gk_iload G dX2_pass_87 6 rfl ?_
            refine gk_if_ne (tgt := 97) G dX2_pass_89 (by decide) (fun c_89 => ?_) (fun c_89 => ?_)
            · obtain ⟨j9, a1, a2, a3⟩ := v2 c_89
              have hsame := gp_tk_wanted wf (k := k) (by omega) hm hk ho a1 a2 a3
              refine gk_iinc (j := 4) (v := nI (k + 1)) (lv' := [(4, .int (nI (k + 1))), (0, .ref a), (1, .ref o), (2, .ref (q 1)), (3, .int (nI nm)), (5, .ref (Sx k)), (6, .int wv)]) G dX2_pass_97 rfl (nI_add k 1) (by decide) rfl ?_
              refine gk_goto (tgt := 16) G dX2_pass_100 (by decide) ?_
              exact gk_lsub [1,2,3,4,0] rfl (ih (k + 1) _ (by omega) (by omega) (gp_rep_same w1 hsame))
            · refine gk_aload G dX2_pass_92 5 rfl ?_
              refine gk_iconst (v := nI 1) G dX2_pass_94 (by decide) ?_
              refine gk_iconst (v := -1) G dX2_pass_95 (by decide) ?_
              refine gk_topi (fun v96 ev96 => ?_)
              refine gk_iast (w' := (gw_R cI o (gp_un M nk) fo ++ (gp_W cI cJ a q F W0 nm nk fS fK Sx Kx (gc_up T1 k (upd (T1 k) 1 v96)) V))) G (q0 := (k + 4 + 1)) (t0 := 0) (gp_s1 (gp_atS (by omega))) rfl 1 rfl (by decide) (by decide) (gp_t1 (gp_setS (by omega) _)) dX2_pass_96 ?_
              generalize eT96 : gc_up T1 k (upd (T1 k) 1 v96) = T96
              refine gk_iinc (j := 4) (v := nI (k + 1)) (lv' := [(4, .int (nI (k + 1))), (0, .ref a), (1, .ref o), (2, .ref (q 1)), (3, .int (nI nm)), (5, .ref (Sx k)), (6, .int wv)]) G dX2_pass_97 rfl (nI_add k 1) (by decide) rfl ?_
              refine gk_goto (tgt := 16) G dX2_pass_100 (by decide) ?_
              have r9 : gp_rep F W0 T96 V (gp_tk M (k + 1)) := gp_rep_same (by subst eT96; subst ev96; exact gp_rep_clr w1) (gp_tk_clr wf (by omega) hm hk ho (fun j9 a1 a2 => v1 c_89 j9 a1 a2))
              exact gk_lsub [1,2,3,4,0] rfl (ih (k + 1) _ (by omega) (by omega) r9)
        have L34 : ∀ (n : Nat) (j : Nat) (wv : Int32), (gp_un M nk + nm) - j < n → (j ≤ gp_un M nk) → (wv = 0 → ∀ i, i < j → i < gp_un M nk → i < nm → fo i ≠ gm_e (gm_who M k (M 11 0))) → (wv ≠ 0 → ∃ i, i < j ∧ i < gp_un M nk ∧ i < nm ∧ fo i = gm_e (gm_who M k (M 11 0))) → gk_C p l e ({ frames := 1, cells := 2, slots := 20, locals := 25 } : Room) s m ([.ref a] : List Value).toArray below meth c 9 D A Q 1 16 (gw_R cI o (gp_un M nk) fo ++ (gp_W cI cJ a q F W0 nm nk fS fK Sx Kx T1 V)) [(0, .ref a), (1, .ref o), (2, .ref (q 1)), (3, .int (nI nm)), (4, .int (nI k)), (5, .ref (Sx k)), (6, .int wv), (7, .int (nI j))] 34 [] := by
          intro n
          induction n with
          | zero => intro j wv h0; exact absurd h0 (Nat.not_lt_zero _)
          | succ n ih7 =>
            intro j wv h0 u0 u1 u2
            refine gk_iload G dX2_pass_34 7 rfl ?_
            refine gk_aload_n G dX2_pass_36 1 rfl ?_
            refine gk_alen (v := nI (gp_un M nk)) G (q0 := 0) (t0 := 0) rfl rfl rfl dX2_pass_37 ?_
            refine gk_icmp_ge (tgt := 80) G dX2_pass_38 (by decide) (fun c_38 => ?_) (fun c_38 => ?_)
            · replace c_38 := (nI_leI (a := gp_un M nk) (b := j) (by omega) (by omega)).mp c_38
              exact gk_lsub [0,1,2,3,4,5,6] rfl (J80 wv (fun h9 i a1 a2 => u1 h9 i (by omega) a1 a2) (fun h9 => by
                obtain ⟨i9, a1, a2, a3⟩ := u2 h9
                exact ⟨i9, a2, a3⟩))
            · replace c_38 := (not_congr (nI_leI (a := gp_un M nk) (b := j) (by omega) (by omega))).mp c_38
              refine gk_iload G dX2_pass_41 7 rfl ?_
              refine gk_aload_n G dX2_pass_43 0 rfl ?_
              refine gk_get (v' := .ref (q 1)) G hinX2 (q0 := 1) rfl rfl 6 (by decide) k14 rfl rfl dX2_pass_44 ?_
              refine gk_alen (v := nI nm) G (q0 := 3) (t0 := 2) rfl rfl rfl dX2_pass_47 ?_
              refine gk_icmp_ge (tgt := 80) G dX2_pass_48 (by decide) (fun c_48 => ?_) (fun c_48 => ?_)
              · replace c_48 := (nI_leI (a := nm) (b := j) (by omega) (by omega)).mp c_48
                exact gk_lsub [0,1,2,3,4,5,6] rfl (J80 wv (fun h9 i a1 a2 => u1 h9 i (by omega) a1 a2) (fun h9 => by
                  obtain ⟨i9, a1, a2, a3⟩ := u2 h9
                  exact ⟨i9, a2, a3⟩))
              · replace c_48 := (not_congr (nI_leI (a := nm) (b := j) (by omega) (by omega))).mp c_48
                refine gk_iload G dX2_pass_51 6 rfl ?_
                refine gk_if_ne (tgt := 67) G dX2_pass_53 (by decide) (fun c_53 => ?_) (fun c_53 => ?_)
                · have hyes : ∃ i, i < j + 1 ∧ i < gp_un M nk ∧ i < nm ∧ fo i = gm_e (gm_who M k (M 11 0)) := by
                    obtain ⟨i9, a1, a2⟩ := u2 c_53
                    exact ⟨i9, by omega, a2⟩
                  refine gk_iconst (v := nI 1) G dX2_pass_67 (by decide) ?_
                  refine gk_goto (tgt := 72) G dX2_pass_68 (by decide) ?_
                  refine gk_istore (lv' := [(6, .int (nI 1)), (0, .ref a), (1, .ref o), (2, .ref (q 1)), (3, .int (nI nm)), (4, .int (nI k)), (5, .ref (Sx k)), (7, .int (nI j))]) G dX2_pass_72 (by decide) rfl ?_
                  refine gk_iinc (j := 7) (v := nI (j + 1)) (lv' := [(7, .int (nI (j + 1))), (6, .int (nI 1)), (0, .ref a), (1, .ref o), (2, .ref (q 1)), (3, .int (nI nm)), (4, .int (nI k)), (5, .ref (Sx k))]) G dX2_pass_74 rfl (nI_add j 1) (by decide) rfl ?_
                  refine gk_goto (tgt := 34) G dX2_pass_77 (by decide) ?_
                  exact gk_lsub [2,3,4,5,6,7,1,0] rfl (ih7 (j + 1) 1 (by omega) (by omega) (fun h9 => absurd h9 (by decide)) (fun _ => hyes))
                · have hw0 : wv = 0 := c_53
                  refine gk_aload_n G dX2_pass_56 1 rfl ?_
                  refine gk_iload G dX2_pass_57 7 rfl ?_
                  refine gk_iald (v := fo j) G (q0 := 0) (t0 := 0) rfl rfl j rfl (by omega) (by omega) rfl dX2_pass_59 ?_
                  refine gk_aload G dX2_pass_60 5 rfl ?_
                  refine gk_iconst (v := nI 1) G dX2_pass_62 (by decide) ?_
                  refine gk_iald (v := gm_e (gm_who (gp_tk M k) k ((gp_tk M k) 11 0))) G (q0 := (k + 4 + 1)) (t0 := 0) (gp_s1 (gp_atS (by omega))) rfl 1 rfl (by decide) (by decide) (w1.2.2.2.1 k (by omega)) dX2_pass_63 ?_
                  refine gk_icmp_ne (tgt := 71) G dX2_pass_64 (by decide) (fun c_64 => ?_) (fun c_64 => ?_)
                  · rw [yw] at c_64
                    have hno : ∀ i, i < j + 1 → i < gp_un M nk → i < nm → fo i ≠ gm_e (gm_who M k (M 11 0)) := fun i a1 a2 a3 => by
                      rcases Nat.lt_succ_iff_lt_or_eq.mp a1 with g9 | g9
                      · exact u1 hw0 i g9 a2 a3
                      · rw [g9]; exact c_64
                    refine gk_iconst (v := nI 0) G dX2_pass_71 (by decide) ?_
                    refine gk_istore (lv' := [(6, .int (nI 0)), (0, .ref a), (1, .ref o), (2, .ref (q 1)), (3, .int (nI nm)), (4, .int (nI k)), (5, .ref (Sx k)), (7, .int (nI j))]) G dX2_pass_72 (by decide) rfl ?_
                    refine gk_iinc (j := 7) (v := nI (j + 1)) (lv' := [(7, .int (nI (j + 1))), (6, .int (nI 0)), (0, .ref a), (1, .ref o), (2, .ref (q 1)), (3, .int (nI nm)), (4, .int (nI k)), (5, .ref (Sx k))]) G dX2_pass_74 rfl (nI_add j 1) (by decide) rfl ?_
                    refine gk_goto (tgt := 34) G dX2_pass_77 (by decide) ?_
                    exact gk_lsub [2,3,4,5,6,7,1,0] rfl (ih7 (j + 1) 0 (by omega) (by omega) (fun _ => hno) (fun h9 => absurd rfl h9))
                  · rw [yw] at c_64
                    have hyes : ∃ i, i < j + 1 ∧ i < gp_un M nk ∧ i < nm ∧ fo i = gm_e (gm_who M k (M 11 0)) := ⟨j, by omega, by omega, by omega, c_64⟩
                    refine gk_iconst (v := nI 1) G dX2_pass_67 (by decide) ?_
                    refine gk_goto (tgt := 72) G dX2_pass_68 (by decide) ?_
                    refine gk_istore (lv' := [(6, .int (nI 1)), (0, .ref a), (1, .ref o), (2, .ref (q 1)), (3, .int (nI nm)), (4, .int (nI k)), (5, .ref (Sx k)), (7, .int (nI j))]) G dX2_pass_72 (by decide) rfl ?_
                    refine gk_iinc (j := 7) (v := nI (j + 1)) (lv' := [(7, .int (nI (j + 1))), (6, .int (nI 1)), (0, .ref a), (1, .ref o), (2, .ref (q 1)), (3, .int (nI nm)), (4, .int (nI k)), (5, .ref (Sx k))]) G dX2_pass_74 rfl (nI_add j 1) (by decide) rfl ?_
                    refine gk_goto (tgt := 34) G dX2_pass_77 (by decide) ?_
                    exact gk_lsub [2,3,4,5,6,7,1,0] rfl (ih7 (j + 1) 1 (by omega) (by omega) (fun h9 => absurd h9 (by decide)) (fun _ => hyes))
        refine gk_aload_n G dX2_pass_22 2 rfl ?_
        refine gk_iload G dX2_pass_23 4 rfl ?_
        refine gk_aald (v := Sx k) G (q0 := 3) (t0 := 2) rfl rfl k rfl (by omega) (by omega) (hfS k (by omega)) dX2_pass_25 ?_
        refine gk_astore (lv' := [(5, .ref (Sx k)), (0, .ref a), (1, .ref o), (2, .ref (q 1)), (3, .int (nI nm)), (4, .int (nI k))]) G dX2_pass_26 (by decide) rfl ?_
        refine gk_iconst (v := nI 0) G dX2_pass_28 (by decide) ?_
        refine gk_istore (lv' := [(6, .int (nI 0)), (5, .ref (Sx k)), (0, .ref a), (1, .ref o), (2, .ref (q 1)), (3, .int (nI nm)), (4, .int (nI k))]) G dX2_pass_29 (by decide) rfl ?_
        refine gk_iconst (v := nI 0) G dX2_pass_31 (by decide) ?_
        refine gk_istore (lv' := [(7, .int (nI 0)), (6, .int (nI 0)), (5, .ref (Sx k)), (0, .ref a), (1, .ref o), (2, .ref (q 1)), (3, .int (nI nm)), (4, .int (nI k))]) G dX2_pass_32 (by decide) rfl ?_
        exact gk_lsub [3,4,5,6,7,2,1,0] rfl (L34 (gp_un M nk + nm + 1) 0 0 (by omega) (Nat.zero_le _) (fun _ i h9 => absurd h9 (Nat.not_lt_zero _)) (fun h9 => absurd rfl h9))
  exact L16 (nm + 1) 0 T (by omega) (Nat.zero_le _) (gp_rep_same hr (gp_tk_0 M))
end
