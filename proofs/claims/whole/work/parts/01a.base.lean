/-! ===== BEGIN words of one list among another's, by their places ===== -/
theorem goodIn_r {big : List Cond} (ws : List Cond) (ps : List Nat) (hp : ws = ps.filterMap (fun i => big[i]?)) (h : ws.all goodWord = true) : GoodIn big ws := by
  intro w hw
  have h1 := List.all_eq_true.mp h w hw
  rw [hp] at hw
  obtain ⟨i, -, hi⟩ := List.mem_filterMap.mp hw
  have hm : w ∈ big := by first | exact List.mem_of_getElem? hi | exact List.getElem?_mem hi
  exact ⟨hm, good_of_word h1⟩
theorem goodIn_app {big a b : List Cond} (ha : GoodIn big a) (hb : GoodIn big b) : GoodIn big (a ++ b) := fun w h => (List.mem_append.mp h).elim (ha w) (hb w)
theorem goodIn_ca {big a b : List Cond} {c : Cond} (ha : GoodIn big (c :: a)) (hb : GoodIn big b) : GoodIn big (c :: (a ++ b)) := fun w h => (List.mem_cons.mp h).elim (fun e => ha w (List.mem_cons.mpr (Or.inl e))) (fun h => (List.mem_append.mp h).elim (fun h => ha w (List.mem_cons.mpr (Or.inr h))) (hb w))
theorem goodIn_sub {big ws : List Cond} (hm : ∀ w ∈ ws, w ∈ big) (h : ws.all goodWord = true) : GoodIn big ws := fun w hw => ⟨hm w hw, good_of_word (List.all_eq_true.mp h w hw)⟩
/-! ===== END ===== -/

/-! ===== BEGIN exceptions that leave a method, and their catching by the caller (launches without stack traces) ===== -/
section VXA
/-! The laws vx_back, vx_callV, vx_callS, vx_callSW, vx_throw0, vx_throwS follow proofs of the library, with one case more: JvmDerived/Free/Laws.lean (Back.of_free), Shelf42/LK1.lean (callV, callS), Shelf/KitTraced.lean (throwNew0V, throwNewS). -/
/-- where a method has thrown q: the class by its name, the cell, what was written, the world -/
def vx_T (XC : String → State → State → Prop) (st : State) (q : Addr) (t : State) (mc ms : Nat) (free : Addr → Prop) : Prop :=
  ∃ (E : String) (ce : Cell) (L : List Loc), XC E st t ∧ t.heap[q]? = some ce ∧ ce.vm = .none ∧ st.vm.findClass E = some ce.cls ∧ st.WarmedH t.vm ∧ st.sameButNew ({ t with vm := st.vm } : State) L mc ms ∧ ∀ z ∈ L, free z.base
def vx_Q (Qc : Array Value → State → Outcome → State → Prop) (XC : String → State → State → Prop) (mc ms : Nat) (free : Addr → Prop) : Array Value → State → Outcome → State → Prop := fun a st o t =>
  (Qc a st o t ∧ ∃ L, FrameEnd st o t L mc ms ∧ ∀ q ∈ L, free q.base) ∨ ∃ q, o = .threw q ∧ vx_T XC st q t mc ms free
/-- a callee that returns or throws -/
def vx_Met (l : Launch) (y : MethodName) (ws : List Cond) (rm : Room) (Pc : Array Value → State → Prop) (Qc : Array Value → State → Outcome → State → Prop) (XC : String → State → State → Prop) (mc ms : Nat) (free : Addr → Prop) : Prop :=
  MetFree l y (headSpec ws rm) Pc (fun _ _ _ _ _ => True) (vx_Q Qc XC mc ms free)
def vx_Post (XC : String → State → State → Prop) (mc ms : Nat) (free : Addr → Prop) : Pt → Array Value → Addr → Pt → Prop := fun A a q B =>
  ∃ (g : JFrame) (mk : MethodId) (t : State) (L : List Loc) (E : String) (ce : Cell), B.U.heap = t.heap ∧ B.U.vm = t.vm ∧ XC E (A.U.calling g mk a) t ∧ t.heap[q]? = some ce ∧ ce.vm = .none ∧ A.U.vm.findClass E = some ce.cls ∧ B.locs = A.locs ++ L ∧ (∀ z ∈ L, free z.base) ∧ B.cells = A.cells + mc ∧ B.slots = A.slots + ms
def vx_Back (l : Launch) (R : Room) (p : Program) (e : Env) (below : List Frame) (s : State) (sargs : Array Value) (y : MethodName) (len W9 : Nat)
    (Pre : Pt → Array Value → Prop) (Post : Pt → Array Value → Option Value → Pt → Prop) (PostX : Pt → Array Value → Addr → Pt → Prop) : Prop :=
  ∀ (m : MethodId) (meth : Method) (c : Code) (A : Pt) (g : JFrame) (ig : Instr) (mk : MethodId) (a : Array Value),
    Stand p l e R s m sargs below meth c A.U A.locs A.cells A.slots → g.method = m → g.locals.size = c.maxLocals → decode c.code g.pc = .ok (ig, len) →
    2 * g.monitorRoom + (g.stack.map fun v => v.category).sum ≤ W9 → A.U.methodNamed? y = some mk → Pre A a →
    (∃ (v : Option Value) (B : Pt), Stand p l e R s m sargs below meth c B.U B.locs B.cells B.slots ∧ Post A a v B ∧
      Steps p.tables e below (doInvoke e (A.U.setTop g) [] mk a).1 (B.U.setTop { g with pc := g.pc + len, stack := v.toList ++ g.stack })) ∨
    (∃ (q : Addr) (B : Pt), Stand p l e R s m sargs below meth c B.U B.locs B.cells B.slots ∧ PostX A a q B ∧
      Steps p.tables e below (doInvoke e (A.U.setTop g) [] mk a).1 ((B.U.setTop g).pushFrame (.throwing q)))
section Payer
variable {l : Launch} {R : Room} {p : Program} {e : Env} {below : List Frame} {s : State} {sargs : Array Value} {y : MethodName} {len W9 : Nat}
theorem vx_back {ws : List Cond} {rm : Room} {Pc : Array Value → State → Prop} {Qc : Array Value → State → Outcome → State → Prop} {XC : String → State → State → Prop} {mc ms : Nat} {free : Addr → Prop} {bytes : ByteArray} {maxL : Nat} {ret : Option FieldType}
    (hM : vx_Met l y ws rm Pc Qc XC mc ms free) (hblind : FrameBlind Pc) (hrc : rm.cells = mc) (hrs : rm.slots = ms)
    (hframes : rm.frames + 1 ≤ R.frames) (hlocals : W9 + (maxL + 11) + rm.locals ≤ R.locals)
    (hws : ∀ w ∈ ws, ∀ a' U, s.WarmedH U.vm → w.before a' U = true) (hcode : Cond.code y bytes maxL ret ∈ ws) (hinit : ∀ a' U, s.WarmedH U.vm → (Cond.initialized y.cls).before a' U = true) :
    vx_Back l R p e below s sargs y len W9 (PreOf R mc ms Pc) (PostOf Qc mc ms free) (vx_Post XC mc ms free) := by
  intro m meth c A g ig mk a X hg hsize hdg hW hn hp
  have h1 : (headSpec ws rm).pre.before a A.U = true := atoms_intro fun w hw => hws w hw _ _ X.warmed
  have h2 : (Cond.code y bytes maxL ret).before a A.U = true := hws _ hcode _ _ X.warmed
  have h3 : (Cond.initialized y.cls).before a A.U = true := hinit _ _ X.warmed
  have h4 : A.cells + (headSpec ws rm).room.cells ≤ R.cells := by rw [show (headSpec ws rm).room.cells = mc from hrc]; exact hp.1
  have h5 : A.slots + (headSpec ws rm).room.slots ≤ R.slots := by rw [show (headSpec ws rm).room.slots = ms from hrs]; exact hp.2.1
  have hPc : Pc a (A.U.calling g mk a) := hblind _ _ _ _ hp.2.2
  obtain ⟨U, Ls, c0, s0⟩ := A
  dsimp only [Pt.U, Pt.locs, Pt.cells, Pt.slots] at h1 h2 h3 h4 h5 X hn hPc ⊢
  obtain ⟨methY, cY, hmY, hcY, -, hlY, -, -, -, -⟩ := Cond.code_spec hn h2
  obtain ⟨kY, hkY, -⟩ := className_of_methodNamed hn
  have hinitY : kY.init = .initialized := Cond.initialized_spec (findClass_of_methodNamed hn) hkY h3
  have h : At U g.method c below := by rw [hg]; exact X.here
  have hlocals9 : W9 + (maxL + 11) + (headSpec ws rm).room.locals ≤ R.locals := hlocals
  have happ : (headSpec ws rm).appliesLoose y e.platform (U.calling g mk a) = true :=
    Spec.appliesLoose_calling (g := g) h hdg hn hkY hinitY
      (X.room_calling (g := g) (R' := (headSpec ws rm).room) hsize hmY hcY hframes (by rw [hlY]; omega) h4 h5) h1
  obtain ⟨mid, hmid⟩ := h.above
  have hfr : (U.setTop g).frames = (.java g :: mid) ++ below := by rw [State.frames_setTop' g h.top, hmid]; rfl
  obtain ⟨o, s₂, hsteps, -, hend, hq⟩ := Steps.callFree hM p X.admits X.cas X.clock (acts := []) hfr happ hPc trivial
  have hq' : vx_Q Qc XC mc ms free a (U.calling g mk a) o s₂ := hq
  rw [State.frames_setTop' g h.top] at hend
  obtain ⟨g₀, hg0⟩ := Option.isSome_iff_exists.mp h.top
  obtain ⟨r, hr⟩ := State.topJava?_eq_some.mp hg0
  have hr' : (({ U with heap := s₂.heap, slotsUsed := s₂.slotsUsed } : State).setVm s₂.vm).frames = .java g₀ :: r := hr
  rcases hq' with ⟨hqc, L, hfe, hL⟩ | ⟨q, rfl, E, ce, L, hx, hce, hcv, hcl, hW₂, hsm, hL⟩
  · obtain ⟨⟨v, rfl⟩, hW₂, e2, q2, q3, q4, q5, q6⟩ := id hfe
    have e3 : s₂ = ({ (U.calling g mk a).setFrames s₂.frames with heap := s₂.heap, slotsUsed := s₂.slotsUsed } : State).setVm s₂.vm := by
      have : s₂ = ({ s₂ with vm := (U.calling g mk a).vm } : State).setVm s₂.vm := rfl
      rw [e2] at this
      exact this
    obtain ⟨c₂, i₂, len₂, hc₂, hd₂, hf₂⟩ := hend
    have hW' : U.WarmedH s₂.vm := hW₂
    have hcc : c₂ = c := by
      have h1 : s₂.code? g.method = U.code? g.method := by
        rw [State.code?_eq, State.code?_eq, hW'.alike.method?]
      exact Option.some.inj (hc₂.symm.trans (h1.trans h.code))
    subst hcc
    have hlen : len₂ = len := by rw [hdg] at hd₂; cases hd₂; rfl
    subst hlen
    have hs₂ : s₂ = (({ U with heap := s₂.heap, slotsUsed := s₂.slotsUsed } : State).setVm s₂.vm).setTop { g with pc := g.pc + len₂, stack := v.toList ++ g.stack } := by
      refine e3.trans ?_
      rw [hf₂, State.calling_eq h.top, State.setFrames_setFrames, State.setTop_of_frames _ hr', hr]
      rfl
    have hsame : U.sameButNew ({ U with heap := s₂.heap, slotsUsed := s₂.slotsUsed } : State) L mc ms := by
      refine ⟨?_, q2, q3, q4, q5, q6⟩
      obtain ⟨t, ht, -⟩ := State.frames_cons hr
      show ({ U with heap := s₂.heap, slotsUsed := s₂.slotsUsed } : State) = { U.setFrames U.frames with heap := s₂.heap, slotsUsed := s₂.slotsUsed }
      rw [State.setFrames_self ht]
    subst hg
    refine Or.inl ⟨v, ⟨(({ U with heap := s₂.heap, slotsUsed := s₂.slotsUsed } : State).setVm s₂.vm), Ls ++ L, c0 + mc, s0 + ms⟩,
      ⟨X.admits, X.cas, X.clock, X.frames, X.room, X.hears, X.method, X.code, (X.here.setHeapUsed s₂.heap s₂.slotsUsed).setVm hW'.alike, X.tail, State.WarmedH.trans X.warmed hW', X.limits, X.bytes, X.same.trans (hsame.setVm s.vm)⟩,
      ⟨g, mk, s₂, L, rfl, rfl, hqc, rfl, hL, rfl, rfl⟩, ?_⟩
    show Steps p.tables e below _ ((({ U with heap := s₂.heap, slotsUsed := s₂.slotsUsed } : State).setVm s₂.vm).setTop { g with pc := g.pc + len₂, stack := v.toList ++ g.stack })
    rw [← hs₂]
    exact hsteps
  · obtain ⟨e2, q2, q3, q4, q5, q6⟩ := id hsm
    have e3 : s₂ = ({ (U.calling g mk a).setFrames s₂.frames with heap := s₂.heap, slotsUsed := s₂.slotsUsed } : State).setVm s₂.vm := by
      have : s₂ = ({ s₂ with vm := (U.calling g mk a).vm } : State).setVm s₂.vm := rfl
      rw [e2] at this
      exact this
    have hf₂ : s₂.frames = .throwing q :: .java g :: U.frames.tail := hend
    have hW' : U.WarmedH s₂.vm := hW₂
    have hs₂ : s₂ = ((({ U with heap := s₂.heap, slotsUsed := s₂.slotsUsed } : State).setVm s₂.vm).setTop g).pushFrame (.throwing q) := by
      refine e3.trans ?_
      rw [hf₂, State.calling_eq h.top, State.setFrames_setFrames, State.pushFrame, State.frames_setTop _ hr', State.setTop_of_frames _ hr', State.setFrames_setFrames, hr]
      rfl
    have hsame : U.sameButNew ({ U with heap := s₂.heap, slotsUsed := s₂.slotsUsed } : State) L mc ms := by
      refine ⟨?_, q2, q3, q4, q5, q6⟩
      obtain ⟨t, ht, -⟩ := State.frames_cons hr
      show ({ U with heap := s₂.heap, slotsUsed := s₂.slotsUsed } : State) = { U.setFrames U.frames with heap := s₂.heap, slotsUsed := s₂.slotsUsed }
      rw [State.setFrames_self ht]
    subst hg
    refine Or.inr ⟨q, ⟨(({ U with heap := s₂.heap, slotsUsed := s₂.slotsUsed } : State).setVm s₂.vm), Ls ++ L, c0 + mc, s0 + ms⟩,
      ⟨X.admits, X.cas, X.clock, X.frames, X.room, X.hears, X.method, X.code, (X.here.setHeapUsed s₂.heap s₂.slotsUsed).setVm hW'.alike, X.tail, State.WarmedH.trans X.warmed hW', X.limits, X.bytes, X.same.trans (hsame.setVm s.vm)⟩,
      ⟨g, mk, s₂, L, E, ce, rfl, rfl, hx, hce, hcv, hcl, rfl, hL, rfl, rfl⟩, ?_⟩
    show Steps p.tables e below _ (((({ U with heap := s₂.heap, slotsUsed := s₂.slotsUsed } : State).setVm s₂.vm).setTop g).pushFrame (.throwing q))
    rw [← hs₂]
    exact hsteps
end Payer
section Calls
variable {p : Program} {l : Launch} {e : Env} {R : Room} {s : State} {m : MethodId} {args : Array Value} {below : List Frame} {meth : Method} {c : Code} {T : State} {locs : List Loc} {cells slots : Nat}
theorem vx_callV (X : Stand p l e R s m args below meth c T locs cells slots) (hexec : p.tables.exec = Jvm.exec) {own C : String} {index : Nat} {y : MethodName} {bytes : ByteArray} {maxL : Nat} {ret : Option FieldType}
    (hown : s.vm.findClass own = some m.cls) (hlink : (Cond.methodLink own index y).before args s = true) (hinst : (Cond.instanceMethod y).before args s = true) (hsel : (Cond.selects C y y).before args s = true)
    (hcode : (Cond.code y bytes maxL ret).before args s = true) (hy : y.cls ≠ "java/lang/invoke/MethodHandle" ∧ y.cls ≠ "java/lang/invoke/VarHandle")
    {W9 : Nat} {Pre : Pt → Array Value → Prop} {Post : Pt → Array Value → Option Value → Pt → Prop} {PostX : Pt → Array Value → Addr → Pt → Prop} (hK : vx_Back l R p e below s args y 3 W9 Pre Post PostX)
    {b : Addr} {cellB : Cell} (hcell : T.heap[b]? = some cellB) (hobj : cellB.vm.isStatics = false) (hcls : s.vm.findClass C = some cellB.cls)
    {g : JFrame} (hg : g.method = m) (hsize : g.locals.size = c.maxLocals) {argsL rest : List Value} (hlen : ∀ sig, parseMethodDescriptor y.desc = some sig → argsL.length = sig.parameters.length)
    (hstack : g.stack = argsL.reverse ++ .ref b :: rest) (hW : 2 * g.monitorRoom + (rest.map fun v => v.category).sum ≤ W9) (hdg : decode c.code g.pc = .ok (.invokevirtual index, 3))
    (hpre : ∀ vm₁, s.WarmedH vm₁ → Pre ⟨T.setVm vm₁, locs, cells, slots⟩ (Value.ref b :: argsL).toArray) :
    (∃ (v : Option Value) (vm₁ : Vm) (B : Pt), s.WarmedH vm₁ ∧ Stand p l e R s m args below meth c B.U B.locs B.cells B.slots ∧ Post ⟨T.setVm vm₁, locs, cells, slots⟩ (Value.ref b :: argsL).toArray v B ∧
      ∀ target, Steps p.tables e below (B.U.setTop { g with pc := g.pc + 3, stack := v.toList ++ rest }) target → Steps p.tables e below (T.setTop g) target) ∨
    (∃ (q : Addr) (vm₁ : Vm) (B : Pt), s.WarmedH vm₁ ∧ Stand p l e R s m args below meth c B.U B.locs B.cells B.slots ∧ PostX ⟨T.setVm vm₁, locs, cells, slots⟩ (Value.ref b :: argsL).toArray q B ∧
      Steps p.tables e below (T.setTop g) ((B.U.setTop { g with stack := rest }).pushFrame (.throwing q))) := by
  obtain ⟨mk, methM, hnamed, hmethM, hstM, habM⟩ := Cond.instanceMethod_spec hinst
  obtain ⟨methM', cM, hmethM', -, -, -, -, -, -, hsigM⟩ := Cond.code_spec hnamed hcode
  cases hmethM.symm.trans hmethM'
  obtain ⟨c2, r2, m2, q1, q2, q3, q4, kP, hkP, hkPi⟩ := Cond.selects_spec hsel
  cases hcls.symm.trans q1
  cases (State.methodFound?_of_named hnamed hy).symm.trans q2
  cases hnamed.symm.trans q3
  have hselP : selectMethod e.platform s.vm cellB.cls mk = .method mk := by rw [Launch.admits_selectMethod X.admits]; exact q4
  obtain ⟨vm₁, X₁, hstep₁⟩ := X.invokevirtual hexec hown hlink hnamed hmethM hstM hkP hkPi hy (a := b) (cell := cellB) hcell
    (fun z h => by rw [h] at hobj; cases hobj) hselP hmethM habM hkP hkPi (g := g) hg (argsL := argsL) (rest := rest) (hlen _ hsigM) hstack hdg
  rcases hK m meth c ⟨T.setVm vm₁, locs, cells, slots⟩ { g with stack := rest } (.invokevirtual index) mk (Value.ref b :: argsL).toArray X₁ hg hsize hdg hW (X₁.named hnamed) (hpre vm₁ X₁.warmed) with ⟨v, B, X', hpost, hsteps⟩ | ⟨q, B, X', hpost, hsteps⟩
  · exact Or.inl ⟨v, vm₁, B, X₁.warmed, X', hpost, fun target h => hstep₁ _ fun acts => by rw [doInvoke_state]; exact hsteps.trans h⟩
  · exact Or.inr ⟨q, vm₁, B, X₁.warmed, X', hpost, hstep₁ _ fun acts => by rw [doInvoke_state]; exact hsteps⟩
theorem vx_callS (X : Stand p l e R s m args below meth c T locs cells slots) (hexec : p.tables.exec = Jvm.exec) {own : String} {index : Nat} {y : MethodName} {bytes : ByteArray} {maxL : Nat} {ret : Option FieldType}
    (hown : s.vm.findClass own = some m.cls) (hlink : (Cond.methodLink own index y).before args s = true) (hstat : (Cond.static y).before args s = true) (hinit : (Cond.initialized y.cls).before args s = true)
    (hcode : (Cond.code y bytes maxL ret).before args s = true) (hy : y.cls ≠ "java/lang/invoke/MethodHandle" ∧ y.cls ≠ "java/lang/invoke/VarHandle")
    {W9 : Nat} {Pre : Pt → Array Value → Prop} {Post : Pt → Array Value → Option Value → Pt → Prop} {PostX : Pt → Array Value → Addr → Pt → Prop} (hK : vx_Back l R p e below s args y 3 W9 Pre Post PostX)
    {g : JFrame} (hg : g.method = m) (hsize : g.locals.size = c.maxLocals) {argsL rest : List Value} (hlen : ∀ sig, parseMethodDescriptor y.desc = some sig → argsL.length = sig.parameters.length)
    (hstack : g.stack = argsL.reverse ++ rest) (hW : 2 * g.monitorRoom + (rest.map fun v => v.category).sum ≤ W9) (hdg : decode c.code g.pc = .ok (.invokestatic index, 3))
    (hpre : ∀ vm₁, s.WarmedH vm₁ → Pre ⟨T.setVm vm₁, locs, cells, slots⟩ argsL.toArray) :
    (∃ (v : Option Value) (vm₁ : Vm) (B : Pt), s.WarmedH vm₁ ∧ Stand p l e R s m args below meth c B.U B.locs B.cells B.slots ∧ Post ⟨T.setVm vm₁, locs, cells, slots⟩ argsL.toArray v B ∧
      ∀ target, Steps p.tables e below (B.U.setTop { g with pc := g.pc + 3, stack := v.toList ++ rest }) target → Steps p.tables e below (T.setTop g) target) ∨
    (∃ (q : Addr) (vm₁ : Vm) (B : Pt), s.WarmedH vm₁ ∧ Stand p l e R s m args below meth c B.U B.locs B.cells B.slots ∧ PostX ⟨T.setVm vm₁, locs, cells, slots⟩ argsL.toArray q B ∧
      Steps p.tables e below (T.setTop g) ((B.U.setTop { g with stack := rest }).pushFrame (.throwing q))) := by
  obtain ⟨mk, hnamed⟩ := Cond.code_named hcode
  obtain ⟨methM, cM, hmethM, -, -, -, -, -, -, hsigM⟩ := Cond.code_spec hnamed hcode
  have hstatic : methM.isStatic = true := Cond.static_spec hnamed hmethM hstat
  obtain ⟨kP, hkP, -⟩ := className_of_methodNamed hnamed
  have hinitP : kP.init = .initialized := Cond.initialized_spec (findClass_of_methodNamed hnamed) hkP hinit
  obtain ⟨vm₁, X₁, hstep₁⟩ := X.invokestatic hexec hown hlink hnamed hmethM hstatic hkP hinitP hy (g := g) hg (argsL := argsL) (rest := rest) (hlen _ hsigM) hstack hdg
  rcases hK m meth c ⟨T.setVm vm₁, locs, cells, slots⟩ { g with stack := rest } (.invokestatic index) mk argsL.toArray X₁ hg hsize hdg hW (X₁.named hnamed) (hpre vm₁ X₁.warmed) with ⟨v, B, X', hpost, hsteps⟩ | ⟨q, B, X', hpost, hsteps⟩
  · exact Or.inl ⟨v, vm₁, B, X₁.warmed, X', hpost, fun target h => hstep₁ _ fun acts => by rw [doInvoke_state]; exact hsteps.trans h⟩
  · exact Or.inr ⟨q, vm₁, B, X₁.warmed, X', hpost, hstep₁ _ fun acts => by rw [doInvoke_state]; exact hsteps⟩
end Calls
theorem vx_cls {s : State} {T : State} {vm₁ : Vm} {E : String} {k : ClassId} (hW : s.WarmedH vm₁) (h : (T.setVm vm₁).vm.findClass E = some k) : s.vm.findClass E = some k := by
  have h1 : vm₁.findClass E = some k := h
  rw [hW.alike.findClass] at h1
  exact h1
/-- the method's frame g, with q thrown over it -/
def vx_W (p : Program) (l : Launch) (e : Env) (R : Room) (s : State) (m : MethodId) (args : Array Value) (below : List Frame) (meth : Method) (c : Code) (H : Heap) (locs : List Loc) (cells slots : Nat) (Q : State → Prop) (g : JFrame) (q : Addr) : Prop :=
  ∀ T : State, T.heap = H → Stand p l e R s m args below meth c T locs cells slots → ∃ t, Steps p.tables e below ((T.setTop g).pushFrame (.throwing q)) t ∧ Q t
def vx_Run (p : Program) (l : Launch) (e : Env) (R : Room) (s : State) (m : MethodId) (args : Array Value) (below : List Frame) (meth : Method) (c : Code) (H : Heap) (locs : List Loc) (cells slots mc ms : Nat) (g : JFrame) (rest : List Value) (Qa : State → Outcome → State → Prop) (XC : String → State → State → Prop) (free : Addr → Prop) : Prop :=
  ∀ T : State, T.heap = H → Stand p l e R s m args below meth c T locs cells slots →
    (∃ (v : Option Value) (st₀ t T' : State) (L : List Loc), st₀.heap = H ∧ Stand p l e R s m args below meth c T' (locs ++ L) (cells + mc) (slots + ms) ∧ (∀ q ∈ L, free q.base) ∧ T'.heap = t.heap ∧ T'.vm = t.vm ∧ Qa st₀ (.returned v) t ∧
      Goes p e below T g T' { g with pc := g.pc + 3, stack := v.toList ++ rest }) ∨
    (∃ (q : Addr) (st₀ t T' : State) (L : List Loc) (E : String) (ce : Cell), st₀.heap = H ∧ Stand p l e R s m args below meth c T' (locs ++ L) (cells + mc) (slots + ms) ∧ (∀ z ∈ L, free z.base) ∧ T'.heap = t.heap ∧ T'.vm = t.vm ∧ XC E st₀ t ∧ t.heap[q]? = some ce ∧ ce.vm = .none ∧ s.vm.findClass E = some ce.cls ∧
      Steps p.tables e below (T.setTop g) ((T'.setTop { g with stack := rest }).pushFrame (.throwing q)))
def vx_X {S : Type} (px : S → Prop) (B : String → S → State → Prop) (A : Nat → Prop) : String → State → State → Prop := fun E st t => ∃ u : S, px u ∧ B E u t ∧ va_F A st t
section Runs
variable {p : Program} {l : Launch} {e : Env} {R : Room} {s : State} {m : MethodId} {args : Array Value} {below : List Frame} {meth : Method} {c : Code} {H : Heap} {locs : List Loc} {cells slots : Nat}
variable {y : MethodName} {bytes cc : ByteArray} {maxL nL mc ms n index : Nat} {ret : Option FieldType} {ws : List Cond} {rm : Room} {Pc : Array Value → State → Prop} {Qc : Array Value → State → Outcome → State → Prop} {XC : String → State → State → Prop} {free : Addr → Prop} {Ts : List Cond} {own C : String} {b : Addr} {As rest : List Value} {g : JFrame}
theorem vx_callBack (cb : CallB R s args own index y bytes maxL ret ws rm mc ms n) (hM : vx_Met l y ws rm Pc Qc XC mc ms free) (hbl : FrameBlind Pc) : vx_Back l R p e below s args y 3 8 (PreOf R mc ms Pc) (PostOf Qc mc ms free) (vx_Post XC mc ms free) := by
  obtain ⟨hrc, hrs, hfr, hlo, hws, hcw, -, hini, -⟩ := cb
  exact vx_back (bytes := bytes) (maxL := maxL) (ret := ret) hM hbl hrc hrs hfr hlo hws hcw (fun a' U hW => word_at hW (Or.inl (by first | rfl | simp [Cond.onTables, Cond.keeps, Cond.steady])) hini)
theorem vx_runV (S : CallFix p m c cc nL s args Ts own) (hM : vx_Met l y ws rm Pc Qc XC mc ms free) (cw : CallW R s args own C index y bytes maxL ret ws rm mc ms n) (hp : PreV s H C b Pc As)
    (hg : g.method = m) (hn : As.length = n) (hsize : g.locals.size = nL) (hstack : g.stack = As.reverse ++ .ref b :: rest) (hW : 2 * g.monitorRoom + (rest.map fun v => v.category).sum ≤ 8) (hdg : decode cc g.pc = .ok (.invokevirtual index, 3)) (hf : cells + mc ≤ R.cells ∧ slots + ms ≤ R.slots) :
    vx_Run p l e R s m args below meth c H locs cells slots mc ms g rest (Qc (Value.ref b :: As).toArray) XC free := by
  have hK : vx_Back l R p e below s args y 3 8 (PreOf R mc ms Pc) (PostOf Qc mc ms free) (vx_Post XC mc ms free) := vx_callBack cw.1 hM hp.1
  obtain ⟨⟨-, -, -, -, -, -, hcode, -, hy, hlen, hl⟩, hin, hse⟩ := cw
  obtain ⟨hx, hb, hml, ho, -⟩ := S
  obtain ⟨-, ⟨cellB, hcB, hoB, hclB⟩, hPc⟩ := hp
  intro T hT X
  rcases vx_callV X hx (C := C) (bytes := bytes) (maxL := maxL) (ret := ret) ho hl hin hse hcode hy hK (by rw [hT]; exact hcB) hoB hclB hg (hsize.trans hml.symm) (argsL := As) (rest := rest) (fun sig h => hn.trans (hlen sig h)) hstack hW (by rw [hb]; exact hdg)
    (fun vm₁ hW₁ => ⟨hf.1, hf.2, hPc (T.setVm vm₁) hT hW₁⟩) with ⟨v, vm₁, ⟨U', l2, c2, s2⟩, hW₁, X', ⟨g', mk, t, L, e1, e2, hq, h1, hL, h2, h3⟩, st⟩ | ⟨q, vm₁, ⟨U', l2, c2, s2⟩, hW₁, X', ⟨g', mk, t, L, E, ce, e1, e2, hq, hce, hcv, hcl, h1, hL, h2, h3⟩, st⟩
  · dsimp only [Pt.U, Pt.locs, Pt.cells, Pt.slots] at X' e1 e2 h1 h2 h3 st
    subst h1; subst h2; subst h3
    exact Or.inl ⟨v, (T.setVm vm₁).calling g' mk (Value.ref b :: As).toArray, t, U', L, hT, X', hL, e1, e2, hq, st⟩
  · dsimp only [Pt.U, Pt.locs, Pt.cells, Pt.slots] at X' e1 e2 h1 h2 h3 st hcl
    subst h1; subst h2; subst h3
    exact Or.inr ⟨q, (T.setVm vm₁).calling g' mk (Value.ref b :: As).toArray, t, U', L, E, ce, hT, X', hL, e1, e2, hq, hce, hcv, vx_cls hW₁ hcl, st⟩
theorem vx_runS (S : CallFix p m c cc nL s args Ts own) (hM : vx_Met l y ws rm Pc Qc XC mc ms free) (cw : CallB R s args own index y bytes maxL ret ws rm mc ms n ∧ (Cond.static y).before args s = true) (hp : PreS s H Pc As)
    (hg : g.method = m) (hn : As.length = n) (hsize : g.locals.size = nL) (hstack : g.stack = As.reverse ++ rest) (hW : 2 * g.monitorRoom + (rest.map fun v => v.category).sum ≤ 8) (hdg : decode cc g.pc = .ok (.invokestatic index, 3)) (hf : cells + mc ≤ R.cells ∧ slots + ms ≤ R.slots) :
    vx_Run p l e R s m args below meth c H locs cells slots mc ms g rest (Qc As.toArray) XC free := by
  have hK : vx_Back l R p e below s args y 3 8 (PreOf R mc ms Pc) (PostOf Qc mc ms free) (vx_Post XC mc ms free) := vx_callBack cw.1 hM hp.1
  obtain ⟨⟨-, -, -, -, -, -, hcode, hini, hy, hlen, hl⟩, hstt⟩ := cw
  obtain ⟨hx, hb, hml, ho, -⟩ := S
  intro T hT X
  rcases vx_callS X hx (bytes := bytes) (maxL := maxL) (ret := ret) ho hl hstt hini hcode hy hK hg (hsize.trans hml.symm) (argsL := As) (rest := rest) (fun sig h => hn.trans (hlen sig h)) hstack hW (by rw [hb]; exact hdg)
    (fun vm₁ hW₁ => ⟨hf.1, hf.2, hp.2 (T.setVm vm₁) hT hW₁⟩) with ⟨v, vm₁, ⟨U', l2, c2, s2⟩, hW₁, X', ⟨g', mk, t, L, e1, e2, hq, h1, hL, h2, h3⟩, st⟩ | ⟨q, vm₁, ⟨U', l2, c2, s2⟩, hW₁, X', ⟨g', mk, t, L, E, ce, e1, e2, hq, hce, hcv, hcl, h1, hL, h2, h3⟩, st⟩
  · dsimp only [Pt.U, Pt.locs, Pt.cells, Pt.slots] at X' e1 e2 h1 h2 h3 st
    subst h1; subst h2; subst h3
    exact Or.inl ⟨v, (T.setVm vm₁).calling g' mk As.toArray, t, U', L, hT, X', hL, e1, e2, hq, st⟩
  · dsimp only [Pt.U, Pt.locs, Pt.cells, Pt.slots] at X' e1 e2 h1 h2 h3 st hcl
    subst h1; subst h2; subst h3
    exact Or.inr ⟨q, (T.setVm vm₁).calling g' mk As.toArray, t, U', L, E, ce, hT, X', hL, e1, e2, hq, hce, hcv, vx_cls hW₁ hcl, st⟩
end Runs
section Rows
variable {p : Program} {l : Launch} {e : Env} {R : Room} {s : State} {m : MethodId} {args : Array Value} {below : List Frame} {meth : Method} {c : Code} {H : Heap} {locs : List Loc} {cells slots : Nat} {Q : State → Prop}
variable {mc ms : Nat} {free : Addr → Prop} {A0 A1 : Nat → Prop} {H0 : Heap} {a : Array Value} {pc : Nat} {ls : Array Slot} {st0 rest : List Value}
theorem vx_keep {st₀ t T' : State} {L : List Loc} (h0 : st₀.heap = H) (e1 : T'.heap = t.heap) (hS : va_S A0 H0 H locs) (hA : ∀ q, q < H.size → A1 q → A0 q) (hf : ∀ q, free q → A0 q) (hL : ∀ q ∈ L, free q.base) (hF : va_F A1 st₀ t) :
    H.size ≤ T'.heap.size ∧ (∀ q : Nat, q < H.size → ¬ A1 q → T'.heap[q]? = H[q]?) ∧ va_S A0 H0 T'.heap (locs ++ L) := by
  obtain ⟨hz, hk⟩ := hF
  rw [h0] at hz hk
  exact ⟨by rw [e1]; exact hz, fun q h1 h2 => by rw [e1]; exact hk q h1 h2,
    ⟨Nat.le_trans hS.1 (by rw [e1]; exact hz), fun q h1 h2 => by rw [e1, hk q (Nat.lt_of_lt_of_le h1 hS.1) (fun z => h2 (hA q (Nat.lt_of_lt_of_le h1 hS.1) z))]; exact hS.2.1 q h1 h2, fun q hq => by
      rcases List.mem_append.mp hq with h | h
      · exact hS.2.2 q h
      · exact hf _ (hL q h)⟩⟩
theorem vx_calli {S SX : Type} {post : Int32 → S → Prop} {px : SX → Prop} {B : S → State → Prop} {BX : String → SX → State → Prop} {AX : Nat → Prop} (hr : vx_Run p l e R s m args below meth c H locs cells slots mc ms (F0 m pc ls st0) rest (va_Qi post B A1 a) (vx_X px BX AX) free) (hS : va_S A0 H0 H locs) (hA : ∀ q, q < H.size → A1 q → A0 q) (hf : ∀ q, free q → A0 q) (hAX : ∀ q, q < H.size → AX q → A0 q)
    (kx : ∀ (E : String) (ce : Cell) (q9 : Addr) (u : SX) (t : State) (H1 : Heap) (locs1 : List Loc), t.heap = H1 → s.vm.Alike t.vm → px u → BX E u t → H.size ≤ H1.size → (∀ q : Nat, q < H.size → ¬ AX q → H1[q]? = H[q]?) → va_S A0 H0 H1 locs1 → H1[q9]? = some ce → ce.vm = .none → s.vm.findClass E = some ce.cls → vx_W p l e R s m args below meth c H1 locs1 (cells + mc) (slots + ms) Q (F0 m pc ls rest) q9)
    (kk : ∀ (r : Int32) (u : S) (t : State) (H1 : Heap) (locs1 : List Loc), t.heap = H1 → s.vm.Alike t.vm → post r u → B u t → H.size ≤ H1.size → (∀ q : Nat, q < H.size → ¬ A1 q → H1[q]? = H[q]?) → va_S A0 H0 H1 locs1 → W p l e R s m args below meth c H1 locs1 (cells + mc) (slots + ms) Q (F0 m (pc + 3) ls (.int r :: rest))) : W p l e R s m args below meth c H locs cells slots Q (F0 m pc ls st0) := by
  intro T hT X
  rcases hr T hT X with ⟨v, st₀, t, T', L, h0, X', hL, e1, e2, ⟨⟨r, u, hv, hp, hb⟩, hF⟩, st⟩ | ⟨q, st₀, t, T', L, E, ce, h0, X', hL, e1, e2, ⟨u, hp, hb, hF⟩, hce, hcv, hcl, st⟩
  · cases hv
    obtain ⟨k1, k2, k3⟩ := vx_keep h0 e1 hS hA hf hL hF
    obtain ⟨t2, a1, b1⟩ := kk r u t T'.heap (locs ++ L) e1.symm (by rw [← e2]; exact X'.warmed.alike) hp hb k1 k2 k3 T' rfl X'
    exact ⟨t2, st t2 a1, b1⟩
  · obtain ⟨k1, k2, k3⟩ := vx_keep h0 e1 hS hAX hf hL hF
    obtain ⟨t2, a1, b1⟩ := kx E ce q u t T'.heap (locs ++ L) e1.symm (by rw [← e2]; exact X'.warmed.alike) hp hb k1 k2 k3 (by rw [e1]; exact hce) hcv hcl T' rfl X'
    exact ⟨t2, st.trans a1, b1⟩
theorem vx_calll {S SX : Type} {post : Int64 → S → Prop} {px : SX → Prop} {B : S → State → Prop} {BX : String → SX → State → Prop} {AX : Nat → Prop} (hr : vx_Run p l e R s m args below meth c H locs cells slots mc ms (F0 m pc ls st0) rest (va_Ql post B A1 a) (vx_X px BX AX) free) (hS : va_S A0 H0 H locs) (hA : ∀ q, q < H.size → A1 q → A0 q) (hf : ∀ q, free q → A0 q) (hAX : ∀ q, q < H.size → AX q → A0 q)
    (kx : ∀ (E : String) (ce : Cell) (q9 : Addr) (u : SX) (t : State) (H1 : Heap) (locs1 : List Loc), t.heap = H1 → s.vm.Alike t.vm → px u → BX E u t → H.size ≤ H1.size → (∀ q : Nat, q < H.size → ¬ AX q → H1[q]? = H[q]?) → va_S A0 H0 H1 locs1 → H1[q9]? = some ce → ce.vm = .none → s.vm.findClass E = some ce.cls → vx_W p l e R s m args below meth c H1 locs1 (cells + mc) (slots + ms) Q (F0 m pc ls rest) q9)
    (kk : ∀ (r : Int64) (u : S) (t : State) (H1 : Heap) (locs1 : List Loc), t.heap = H1 → s.vm.Alike t.vm → post r u → B u t → H.size ≤ H1.size → (∀ q : Nat, q < H.size → ¬ A1 q → H1[q]? = H[q]?) → va_S A0 H0 H1 locs1 → W p l e R s m args below meth c H1 locs1 (cells + mc) (slots + ms) Q (F0 m (pc + 3) ls (.long r :: rest))) : W p l e R s m args below meth c H locs cells slots Q (F0 m pc ls st0) := by
  intro T hT X
  rcases hr T hT X with ⟨v, st₀, t, T', L, h0, X', hL, e1, e2, ⟨⟨r, u, hv, hp, hb⟩, hF⟩, st⟩ | ⟨q, st₀, t, T', L, E, ce, h0, X', hL, e1, e2, ⟨u, hp, hb, hF⟩, hce, hcv, hcl, st⟩
  · cases hv
    obtain ⟨k1, k2, k3⟩ := vx_keep h0 e1 hS hA hf hL hF
    obtain ⟨t2, a1, b1⟩ := kk r u t T'.heap (locs ++ L) e1.symm (by rw [← e2]; exact X'.warmed.alike) hp hb k1 k2 k3 T' rfl X'
    exact ⟨t2, st t2 a1, b1⟩
  · obtain ⟨k1, k2, k3⟩ := vx_keep h0 e1 hS hAX hf hL hF
    obtain ⟨t2, a1, b1⟩ := kx E ce q u t T'.heap (locs ++ L) e1.symm (by rw [← e2]; exact X'.warmed.alike) hp hb k1 k2 k3 (by rw [e1]; exact hce) hcv hcl T' rfl X'
    exact ⟨t2, st.trans a1, b1⟩
theorem vx_callf {S SX : Type} {post : UInt32 → S → Prop} {px : SX → Prop} {B : S → State → Prop} {BX : String → SX → State → Prop} {AX : Nat → Prop} (hr : vx_Run p l e R s m args below meth c H locs cells slots mc ms (F0 m pc ls st0) rest (va_Qf post B A1 a) (vx_X px BX AX) free) (hS : va_S A0 H0 H locs) (hA : ∀ q, q < H.size → A1 q → A0 q) (hf : ∀ q, free q → A0 q) (hAX : ∀ q, q < H.size → AX q → A0 q)
    (kx : ∀ (E : String) (ce : Cell) (q9 : Addr) (u : SX) (t : State) (H1 : Heap) (locs1 : List Loc), t.heap = H1 → s.vm.Alike t.vm → px u → BX E u t → H.size ≤ H1.size → (∀ q : Nat, q < H.size → ¬ AX q → H1[q]? = H[q]?) → va_S A0 H0 H1 locs1 → H1[q9]? = some ce → ce.vm = .none → s.vm.findClass E = some ce.cls → vx_W p l e R s m args below meth c H1 locs1 (cells + mc) (slots + ms) Q (F0 m pc ls rest) q9)
    (kk : ∀ (r : UInt32) (u : S) (t : State) (H1 : Heap) (locs1 : List Loc), t.heap = H1 → s.vm.Alike t.vm → post r u → B u t → H.size ≤ H1.size → (∀ q : Nat, q < H.size → ¬ A1 q → H1[q]? = H[q]?) → va_S A0 H0 H1 locs1 → W p l e R s m args below meth c H1 locs1 (cells + mc) (slots + ms) Q (F0 m (pc + 3) ls (.float r :: rest))) : W p l e R s m args below meth c H locs cells slots Q (F0 m pc ls st0) := by
  intro T hT X
  rcases hr T hT X with ⟨v, st₀, t, T', L, h0, X', hL, e1, e2, ⟨⟨r, u, hv, hp, hb⟩, hF⟩, st⟩ | ⟨q, st₀, t, T', L, E, ce, h0, X', hL, e1, e2, ⟨u, hp, hb, hF⟩, hce, hcv, hcl, st⟩
  · cases hv
    obtain ⟨k1, k2, k3⟩ := vx_keep h0 e1 hS hA hf hL hF
    obtain ⟨t2, a1, b1⟩ := kk r u t T'.heap (locs ++ L) e1.symm (by rw [← e2]; exact X'.warmed.alike) hp hb k1 k2 k3 T' rfl X'
    exact ⟨t2, st t2 a1, b1⟩
  · obtain ⟨k1, k2, k3⟩ := vx_keep h0 e1 hS hAX hf hL hF
    obtain ⟨t2, a1, b1⟩ := kx E ce q u t T'.heap (locs ++ L) e1.symm (by rw [← e2]; exact X'.warmed.alike) hp hb k1 k2 k3 (by rw [e1]; exact hce) hcv hcl T' rfl X'
    exact ⟨t2, st.trans a1, b1⟩
theorem vx_calld {S SX : Type} {post : UInt64 → S → Prop} {px : SX → Prop} {B : S → State → Prop} {BX : String → SX → State → Prop} {AX : Nat → Prop} (hr : vx_Run p l e R s m args below meth c H locs cells slots mc ms (F0 m pc ls st0) rest (va_Qd post B A1 a) (vx_X px BX AX) free) (hS : va_S A0 H0 H locs) (hA : ∀ q, q < H.size → A1 q → A0 q) (hf : ∀ q, free q → A0 q) (hAX : ∀ q, q < H.size → AX q → A0 q)
    (kx : ∀ (E : String) (ce : Cell) (q9 : Addr) (u : SX) (t : State) (H1 : Heap) (locs1 : List Loc), t.heap = H1 → s.vm.Alike t.vm → px u → BX E u t → H.size ≤ H1.size → (∀ q : Nat, q < H.size → ¬ AX q → H1[q]? = H[q]?) → va_S A0 H0 H1 locs1 → H1[q9]? = some ce → ce.vm = .none → s.vm.findClass E = some ce.cls → vx_W p l e R s m args below meth c H1 locs1 (cells + mc) (slots + ms) Q (F0 m pc ls rest) q9)
    (kk : ∀ (r : UInt64) (u : S) (t : State) (H1 : Heap) (locs1 : List Loc), t.heap = H1 → s.vm.Alike t.vm → post r u → B u t → H.size ≤ H1.size → (∀ q : Nat, q < H.size → ¬ A1 q → H1[q]? = H[q]?) → va_S A0 H0 H1 locs1 → W p l e R s m args below meth c H1 locs1 (cells + mc) (slots + ms) Q (F0 m (pc + 3) ls (.double r :: rest))) : W p l e R s m args below meth c H locs cells slots Q (F0 m pc ls st0) := by
  intro T hT X
  rcases hr T hT X with ⟨v, st₀, t, T', L, h0, X', hL, e1, e2, ⟨⟨r, u, hv, hp, hb⟩, hF⟩, st⟩ | ⟨q, st₀, t, T', L, E, ce, h0, X', hL, e1, e2, ⟨u, hp, hb, hF⟩, hce, hcv, hcl, st⟩
  · cases hv
    obtain ⟨k1, k2, k3⟩ := vx_keep h0 e1 hS hA hf hL hF
    obtain ⟨t2, a1, b1⟩ := kk r u t T'.heap (locs ++ L) e1.symm (by rw [← e2]; exact X'.warmed.alike) hp hb k1 k2 k3 T' rfl X'
    exact ⟨t2, st t2 a1, b1⟩
  · obtain ⟨k1, k2, k3⟩ := vx_keep h0 e1 hS hAX hf hL hF
    obtain ⟨t2, a1, b1⟩ := kx E ce q u t T'.heap (locs ++ L) e1.symm (by rw [← e2]; exact X'.warmed.alike) hp hb k1 k2 k3 (by rw [e1]; exact hce) hcv hcl T' rfl X'
    exact ⟨t2, st.trans a1, b1⟩
theorem vx_callv {S SX : Type} {post : S → Prop} {px : SX → Prop} {B : S → State → Prop} {BX : String → SX → State → Prop} {AX : Nat → Prop} (hr : vx_Run p l e R s m args below meth c H locs cells slots mc ms (F0 m pc ls st0) rest (va_Qv post B A1 a) (vx_X px BX AX) free) (hS : va_S A0 H0 H locs) (hA : ∀ q, q < H.size → A1 q → A0 q) (hf : ∀ q, free q → A0 q) (hAX : ∀ q, q < H.size → AX q → A0 q)
    (kx : ∀ (E : String) (ce : Cell) (q9 : Addr) (u : SX) (t : State) (H1 : Heap) (locs1 : List Loc), t.heap = H1 → s.vm.Alike t.vm → px u → BX E u t → H.size ≤ H1.size → (∀ q : Nat, q < H.size → ¬ AX q → H1[q]? = H[q]?) → va_S A0 H0 H1 locs1 → H1[q9]? = some ce → ce.vm = .none → s.vm.findClass E = some ce.cls → vx_W p l e R s m args below meth c H1 locs1 (cells + mc) (slots + ms) Q (F0 m pc ls rest) q9)
    (kk : ∀ (u : S) (t : State) (H1 : Heap) (locs1 : List Loc), t.heap = H1 → s.vm.Alike t.vm → post u → B u t → H.size ≤ H1.size → (∀ q : Nat, q < H.size → ¬ A1 q → H1[q]? = H[q]?) → va_S A0 H0 H1 locs1 → W p l e R s m args below meth c H1 locs1 (cells + mc) (slots + ms) Q (F0 m (pc + 3) ls (rest))) : W p l e R s m args below meth c H locs cells slots Q (F0 m pc ls st0) := by
  intro T hT X
  rcases hr T hT X with ⟨v, st₀, t, T', L, h0, X', hL, e1, e2, ⟨⟨u, hv, hp, hb⟩, hF⟩, st⟩ | ⟨q, st₀, t, T', L, E, ce, h0, X', hL, e1, e2, ⟨u, hp, hb, hF⟩, hce, hcv, hcl, st⟩
  · cases hv
    obtain ⟨k1, k2, k3⟩ := vx_keep h0 e1 hS hA hf hL hF
    obtain ⟨t2, a1, b1⟩ := kk u t T'.heap (locs ++ L) e1.symm (by rw [← e2]; exact X'.warmed.alike) hp hb k1 k2 k3 T' rfl X'
    exact ⟨t2, st t2 a1, b1⟩
  · obtain ⟨k1, k2, k3⟩ := vx_keep h0 e1 hS hAX hf hL hF
    obtain ⟨t2, a1, b1⟩ := kx E ce q u t T'.heap (locs ++ L) e1.symm (by rw [← e2]; exact X'.warmed.alike) hp hb k1 k2 k3 (by rw [e1]; exact hce) hcv hcl T' rfl X'
    exact ⟨t2, st.trans a1, b1⟩
/-- caught by the row x of this method's table; the rows ahead don't take it -/
theorem vx_catch {own name : String} {E : String} {ce : Cell} {q : Addr} (hown : s.vm.findClass own = some m.cls) (pre : List ExceptionTableEntry) (x : ExceptionTableEntry) (suf : List ExceptionTableEntry) (hsplit : c.exceptionTable.toList = pre ++ x :: suf)
    (hpass : ∀ z ∈ pre, covers z pc = false ∨ (z.catchType ≠ 0 ∧ ∃ nm : String, (Cond.classLink own z.catchType nm).before args s = true ∧ va_Nc E nm s)) (hx : covers x pc = true) (h0 : x.catchType ≠ 0)
    (hlink : (Cond.classLink own x.catchType name).before args s = true) (hcast : (Cond.castable E name).before args s = true) (hcell : H[q]? = some ce) (hv : ce.vm = .none) (hcl : s.vm.findClass E = some ce.cls)
    (kk : W p l e R s m args below meth c H locs cells slots Q (F0 m x.handlerPc ls [.ref q])) : vx_W p l e R s m args below meth c H locs cells slots Q (F0 m pc ls rest) q := by
  intro T hT X
  have hpl : e.platform.magicAccessors = ({} : Platform).magicAccessors := by rw [X.admits.platform]
  obtain ⟨c3, c4, hc3, hc4, hasg⟩ := Cond.castable_spec hcast
  cases Option.some.inj (hc3.symm.trans hcl)
  obtain ⟨c5, hc5, hcl5⟩ := Cond.classLink_spec hown hlink e.platform hpl
  cases Option.some.inj (hc4.symm.trans hc5)
  obtain ⟨vm', X', st⟩ := X.thenCaughtThrough q (g := F0 m pc ls rest) rfl (Steps.refl _) (by rw [hT]; exact hcell) (by rw [hv]; rfl) (by obtain ⟨k9, h9, -⟩ := Vm.findClass_spec hcl; exact ⟨k9, h9⟩) pre x suf hsplit
    (fun z hz => by
      rcases hpass z hz with h | ⟨hz0, nm, hl1, hn1⟩
      · exact Or.inl h
      · obtain ⟨c6, hc6, hcl6⟩ := Cond.classLink_spec hown hl1 e.platform hpl
        obtain ⟨a8, b8, h1, h2, h3⟩ := hn1
        cases Option.some.inj (h1.symm.trans hcl)
        cases Option.some.inj (h2.symm.trans hc6)
        exact Or.inr ⟨hz0, _, hcl6, h3⟩) hx (Or.inr ⟨h0, c4, hcl5, hasg⟩)
  obtain ⟨t, a1, b1⟩ := kk (T.setVm vm') hT X'
  exact ⟨t, st.trans a1, b1⟩
end Rows
section Ends
variable {p : Program} {l : Launch} {e : Env} {R : Room} {s : State} {m : MethodId} {args : Array Value} {below : List Frame} {meth : Method} {c : Code} {H : Heap} {locs : List Loc} {cells slots : Nat} {Q : State → Prop}
variable {mc ms : Nat} {free : Addr → Prop} {A0 A1 : Nat → Prop} {H0 : Heap} {a : Array Value} {ls : Array Slot} {st0 rest : List Value}
variable {Qc : Array Value → State → Outcome → State → Prop} {XC : String → State → State → Prop}
/-- what a body that may throw owes at its end -/
def vx_MQ (below : List Frame) (Qc : Array Value → State → Outcome → State → Prop) (XC : String → State → State → Prop) (a : Array Value) (s : State) (mc ms : Nat) (free : Addr → Prop) : State → Prop := fun t =>
  ∃ o, t.status = .running ∧ Ended t below o ∧ vx_Q Qc XC mc ms free a s o t
theorem vx_ret {g : JFrame} {mc ms : Nat} (k : W p l e R s m args below meth c H locs cells slots (MQ below Qc args s mc ms free) g) : W p l e R s m args below meth c H locs cells slots (vx_MQ below Qc XC args s mc ms free) g := by
  intro T hT X
  obtain ⟨t, a1, o, b1, b2, b3, b4⟩ := k T hT X
  exact ⟨t, a1, o, b1, b2, Or.inl ⟨b3, b4⟩⟩
/-- not caught here: it goes on to the caller -/
theorem vx_widen {g : JFrame} {q : Addr} {k n : Nat} (h1 : cells ≤ k) (h2 : slots ≤ n) (kk : vx_W p l e R s m args below meth c H locs k n Q g q) : vx_W p l e R s m args below meth c H locs cells slots Q g q := fun T hT X => kk T hT (stand_widen X h1 h2)
theorem vx_out {pc : Nat} {E : String} {ce : Cell} {q : Addr} {mc ms : Nat} (hout : ∀ x ∈ c.exceptionTable.toList, covers x pc = false) (hlocks : meth.locks = false) (hcell : H[q]? = some ce) (hv : ce.vm = .none) (hcl : s.vm.findClass E = some ce.cls)
    (hx : ∀ t : State, t.heap = H → s.vm.Alike t.vm → XC E s t) (hf : ∀ z ∈ locs, free z.base) (hc : cells ≤ mc) (hs : slots ≤ ms) :
    vx_W p l e R s m args below meth c H locs cells slots (vx_MQ below Qc XC args s mc ms free) (F0 m pc ls rest) q := by
  intro T hT X
  obtain ⟨st1, hrun, hend, hW, hsm⟩ := X.leaveThrown q (g := F0 m pc ls rest) rfl rfl rfl hout hlocks
  have hcell9 : (T.setFrames (.throwing q :: below)).heap[q]? = some ce := by
    show T.heap[q]? = some ce
    rw [hT]; exact hcell
  exact ⟨_, st1, .threw q, hrun, hend, Or.inr ⟨q, rfl, E, ce, locs, hx _ hT hW.alike, hcell9, hv, hcl, hW, hsm.mono hc hs, hf⟩⟩
theorem vx_frame {U : State} {k n : Nat} (h : s.sameButNew ({ U with vm := s.vm } : State) locs k n) : s.heap.size ≤ U.heap.size ∧ ∀ q : Nat, q < s.heap.size → (∀ z ∈ locs, z.base ≠ q) → U.heap[q]? = s.heap[q]? := by
  obtain ⟨-, h2, -, -, -, h6⟩ := h
  refine ⟨h2, fun q hq hz => ?_⟩
  obtain ⟨c9, e1, e2, e3, e4⟩ := h6 q _ (Array.getElem?_eq_getElem hq)
  have hs : c9.slots = (s.heap[q]).slots := Array.ext_getElem? fun i => e4 i fun hm => hz _ hm rfl
  have h9 : c9 = s.heap[q] := by
    rw [hs] at e2
    exact e2
  have e5 : U.heap[q]? = some c9 := e1
  rw [e5, h9, Array.getElem?_eq_getElem hq]
/-- the words of a throw but the four that speak of the heap -/
def vx_no (w : Cond) : Bool := decide (w ≠ .isRef (.static Bundle.tN "UNASSIGNED_STACK" Bundle.steD)) && decide (w ≠ .isRef (.static Bundle.tN "SUPPRESSED_SENTINEL" Bundle.listD)) && decide (w ≠ .laysStatic Bundle.tN "UNASSIGNED_STACK" Bundle.steD) && decide (w ≠ .laysStatic Bundle.tN "SUPPRESSED_SENTINEL" Bundle.listD)
def vx_at0 (own : String) (ic : Nat) (X : String) (names : List String) : List Cond := (Bundle.ownAtoms0 own ic X names).filter vx_no
def vx_atS (own : String) (ic : Nat) (X : String) (names : List String) : List Cond := (Bundle.ownAtoms own ic X names).filter vx_no
/-- a word that the tables alone decide, or a good one -/
def vx_ot (w : Cond) : Bool := w.onTables || goodWord w
theorem vx_ot_at {args a' : Array Value} {s U : State} {w : Cond} (hW : s.WarmedH U.vm) (hvm : s.vm = U.vm) (hg : vx_ot w = true) (h : w.before args s = true) : w.before a' U = true := by
  simp only [vx_ot, Bool.or_eq_true] at hg
  rcases hg with hg | hg
  · exact va_tabs hg hvm h
  · exact word_at hW (good_of_word hg) h
/-- a list's words: the good ones out of the method's own list, the others by premises of their own -/
theorem vx_hat {args : Array Value} {s : State} {L B : List Cond} (h1 : ∀ w ∈ L.filter goodWord, w.before args s = true) (h2 : ∀ w ∈ L.filter (fun w => !goodWord w), w ∈ B) (h3 : ∀ w ∈ B, w.before args s = true) : ∀ w ∈ L, w.before args s = true := by
  intro w hw
  by_cases g : goodWord w = true
  · exact h1 w (List.mem_filter.mpr ⟨hw, g⟩)
  · refine h3 w (h2 w (List.mem_filter.mpr ⟨hw, ?_⟩))
    show (!goodWord w) = true
    cases hgw : goodWord w
    · rfl
    · exact absurd hgw g
theorem vx_c {args : Array Value} {s : State} {w : Cond} {B : List Cond} (h : w.before args s = true) (t : ∀ w ∈ B, w.before args s = true) : ∀ w' ∈ w :: B, w'.before args s = true := fun w' h' => (List.mem_cons.mp h').elim (fun e => by rw [e]; exact h) (t w')
theorem vx_n {args : Array Value} {s : State} : ∀ w ∈ ([] : List Cond), w.before args s = true := fun _ h => nomatch h
theorem vx_own {args : Array Value} {s : State} {L : List Cond} (h1 : ∀ w ∈ L.filter vx_no, w.before args s = true)
    (hU : (Cond.isRef (.static Bundle.tN "UNASSIGNED_STACK" Bundle.steD)).before args s = true) (hN : (Cond.isRef (.static Bundle.tN "SUPPRESSED_SENTINEL" Bundle.listD)).before args s = true)
    (lU : (Cond.laysStatic Bundle.tN "UNASSIGNED_STACK" Bundle.steD).before args s = true) (lN : (Cond.laysStatic Bundle.tN "SUPPRESSED_SENTINEL" Bundle.listD).before args s = true) : ∀ w ∈ L, w.before args s = true := by
  intro w hw
  by_cases e1 : w = .isRef (.static Bundle.tN "UNASSIGNED_STACK" Bundle.steD)
  · rw [e1]; exact hU
  · by_cases e2 : w = .isRef (.static Bundle.tN "SUPPRESSED_SENTINEL" Bundle.listD)
    · rw [e2]; exact hN
    · by_cases e3 : w = .laysStatic Bundle.tN "UNASSIGNED_STACK" Bundle.steD
      · rw [e3]; exact lU
      · by_cases e4 : w = .laysStatic Bundle.tN "SUPPRESSED_SENTINEL" Bundle.listD
        · rw [e4]; exact lN
        · exact h1 w (List.mem_filter.mpr ⟨hw, by unfold vx_no; rw [decide_eq_true e1, decide_eq_true e2, decide_eq_true e3, decide_eq_true e4]; rfl⟩)
/-- where a static field lies, its class's statics cell in H -/
def vx_L (C n d : String) (A : Nat → Prop) (U : State) (H : Heap) : Prop := ∃ (c : ClassId) (k : Class) (i : Nat) (f : Field) (a : Nat) (cell : Cell), U.vm.findClass C = some c ∧ U.fieldFound? C n d = some (c, k, i, f) ∧ f.isStatic = true ∧ k.statics = some a ∧ H[a]? = some cell ∧ cell.vm.isStatics = true ∧ cell.cls = c ∧ f.slot < cell.slots.size ∧ k.staticTypes[f.slot]? = some f.type ∧ ¬ A a
theorem vx_L.moved {C n d : String} {A : Nat → Prop} {u U : State} {H : Heap} (hvm : u.vm.Alike U.vm) (h : vx_L C n d A u H) : vx_L C n d A U H := by
  obtain ⟨c, k, i, f, a, cell, h1, h2, h3, h4, h5, h6, h7, h8, h9, h10⟩ := h
  obtain ⟨k', hi', he⟩ := State.fieldFound?_setVm hvm h2
  exact ⟨c, k', i, f, a, cell, by rw [hvm.findClass]; exact h1, hi', h3, by rw [he]; exact h4, h5, h6, h7, h8, by rw [he]; exact h9, h10⟩
theorem vx_L.kept {C n d : String} {A : Nat → Prop} {U : State} {H H1 : Heap} (h : vx_L C n d A U H) (hq : ∀ a : Nat, a < H.size → ¬ A a → H1[a]? = H[a]?) : vx_L C n d A U H1 := by
  obtain ⟨c, k, i, f, a, cell, h1, h2, h3, h4, h5, h6, h7, h8, h9, h10⟩ := h
  exact ⟨c, k, i, f, a, cell, h1, h2, h3, h4, by rw [hq a (Array.getElem?_eq_some_iff.mp h5).1 h10]; exact h5, h6, h7, h8, h9, h10⟩
theorem vx_L.narrow {C n d : String} {A B : Nat → Prop} {U : State} {H : Heap} (h : vx_L C n d A U H) (hAB : ∀ q, B q → A q) : vx_L C n d B U H := by
  obtain ⟨c, k, i, f, a, cell, h1, h2, h3, h4, h5, h6, h7, h8, h9, h10⟩ := h
  exact ⟨c, k, i, f, a, cell, h1, h2, h3, h4, h5, h6, h7, h8, h9, fun z => h10 (hAB _ z)⟩
theorem vx_L.word {C n d : String} {A : Nat → Prop} {s : State} {args : Array Value} (h : vx_L C n d A s s.heap) : (Cond.laysStatic C n d).before args s = true := by
  obtain ⟨c, k, i, f, a, cell, h1, h2, h3, h4, h5, h6, h7, h8, h9, -⟩ := h
  show (Cond.laysStatic C n d).holds args s none s [] = true
  exact Cond.laysStatic_of h1 h2 h3 h4 h5 h6 h7 h8 h9
/-- .. and what it holds: null or some reference -/
def vx_Zq (C n d : String) (A : Nat → Prop) (U : State) (H : Heap) : Prop := va_Zq C n d A U H ∧ vx_L C n d A U H
theorem vx_Zq.moved {C n d : String} {A : Nat → Prop} {u U : State} {H : Heap} (hvm : u.vm.Alike U.vm) (h : vx_Zq C n d A u H) : vx_Zq C n d A U H := ⟨va_Zq.moved hvm h.1, vx_L.moved hvm h.2⟩
theorem vx_Zq.kept {C n d : String} {A : Nat → Prop} {U : State} {H H1 : Heap} (h : vx_Zq C n d A U H) (hq : ∀ a : Nat, a < H.size → ¬ A a → H1[a]? = H[a]?) : vx_Zq C n d A U H1 := ⟨va_Zq.kept h.1 hq, vx_L.kept h.2 hq⟩
theorem vx_Zq.narrow {C n d : String} {A B : Nat → Prop} {U : State} {H : Heap} (h : vx_Zq C n d A U H) (hAB : ∀ q, B q → A q) : vx_Zq C n d B U H := ⟨va_Zq.narrow h.1 hAB, vx_L.narrow h.2 hAB⟩
theorem vx_Zqof {args : Array Value} {s : State} {C n d : String} {A : Nat → Prop} (hl : (Cond.laysStatic C n d).before args s = true) (hini : (Cond.initialized C).before args s = true) (h : (Cond.isRef (.static C n d)).before args s = true) (hA : ∀ a : Nat, a < s.heap.size → ¬ A a) : vx_Zq C n d A s s.heap := by
  refine ⟨va_Zqof hl hini h hA, ?_⟩
  obtain ⟨c, k, i, f, a, cell, h1, h2, h3, h4, h5, h6, h7, h8, h9⟩ := Cond.laysStatic_spec hl
  exact ⟨c, k, i, f, a, cell, h1, h2, h3, h4, h5, h6, h7, h8, h9, hA a (Array.getElem?_eq_some_iff.mp h5).1⟩
theorem vx_isRef {C n d : String} {v : Value} {A : Nat → Prop} {s : State} {args : Array Value} (h : va_Z C n d v A s s.heap) (hv : v.isRef = true) : (Cond.isRef (.static C n d)).before args s = true := by
  obtain ⟨cf, kf, fi, f, a, cell, h1, h2, h3, h4, h5, h6, h7, -⟩ := h
  have he : (Term.static C n d).eval args s none [] s = some v := by
    simp [Term.eval, State.fieldNamed?, h1, h2, h4, h5, h6, h7]
  simp only [Cond.before, Cond.holds, Cond.value, he]
  cases v <;> simp_all [Value.isRef]
theorem vx_isRefq {C n d : String} {A : Nat → Prop} {s : State} {args : Array Value} (h : va_Zq C n d A s s.heap) : (Cond.isRef (.static C n d)).before args s = true := by
  rcases h with h | ⟨t, h⟩
  · exact vx_isRef h rfl
  · exact vx_isRef h rfl
/-- the same frame, seen from here: as if the method were called anew in this heap -/
theorem vx_rebase {T : State} (X : Stand p l e R s m args below meth c T locs cells slots) {R' : Room} (hf : R'.frames ≤ R.frames) (hl : R'.locals ≤ R.locals) (hc : cells + R'.cells ≤ R.cells) (hs : slots + R'.slots ≤ R.slots) :
    Stand p l e R' ((T.setVm s.vm).setFrames (.invoking m args :: below)) m args below meth c T [] 0 0 := by
  have htop : (T.setVm s.vm).topJava?.isSome := X.here.top
  have hF : ((T.setVm s.vm).setFrames (.invoking m args :: below)).frames = .invoking m args :: below := State.frames_setFrames _ (State.cur_lt_of_top htop)
  obtain ⟨g₀, hg0⟩ := Option.isSome_iff_exists.mp htop
  obtain ⟨r, hr⟩ := State.topJava?_eq_some.mp hg0
  have hl9 : e.platform.stackLimits (T.setVm s.vm).me = e.platform.stackLimits s.me := X.limits
  have hb9 : (T.setVm s.vm).me.stackBytes = s.me.stackBytes := X.bytes
  refine ⟨X.admits, X.cas, X.clock, hF, ?_, X.hears, X.method, X.code, X.here, X.tail, X.warmed, ?_, ?_, ?_⟩
  · have h := X.room
    have hU : ((T.setVm s.vm).setFrames (.invoking m args :: below)).localsInUse = s.localsInUse := by
      rw [State.localsInUse_invoking hF (meth := meth) (c := c) X.method X.code, State.localsInUse_invoking X.frames X.method X.code]
    simp only [State.hasRoom, Bool.and_eq_true, decide_eq_true_eq] at h ⊢
    obtain ⟨⟨⟨⟨h1, h2, h3, h4, h5, h6⟩, h7⟩, h8⟩, h9⟩ := h
    rw [X.frames, List.length_cons] at h2 h3
    have q1 := X.heapSize
    have q2 := X.used
    simp only [hF, hU, List.length_cons, State.stackLimits_setFrames, State.stackBytes_setFrames, hl9, hb9]
    refine ⟨⟨⟨⟨by omega, by omega, by omega, by omega, by omega, h6⟩, ?_⟩, ?_⟩, X.book⟩
    · show T.heap.size + R'.cells ≤ e.platform.maxCells
      omega
    · show T.slotsUsed + R'.slots ≤ e.platform.maxSlots
      omega
  · rw [State.stackLimits_setFrames]; rfl
  · rw [State.stackBytes_setFrames]; rfl
  · refine ⟨?_, Nat.le_refl _, Nat.le_refl _, ?_, ?_, fun a c9 h9 => ⟨c9, h9, rfl, rfl, fun _ _ => rfl⟩⟩
    · obtain ⟨t, ht, -⟩ := State.frames_cons hr
      show T.setVm s.vm = { ((T.setVm s.vm).setFrames (.invoking m args :: below)).setFrames (T.setVm s.vm).frames with heap := T.heap, slotsUsed := T.slotsUsed }
      rw [State.setFrames_setFrames, State.setFrames_self ht]
      rfl
    · show T.slotsUsed = T.slotsUsed + ((T.heap.toList.drop T.heap.size).map (·.slots.size)).sum
      rw [List.drop_eq_nil_of_le (Nat.le_of_eq Array.length_toList)]
      rfl
    · show ((T.heap.toList.drop T.heap.size).map (·.slots.size)).sum ≤ 0
      rw [List.drop_eq_nil_of_le (Nat.le_of_eq Array.length_toList)]
      exact Nat.le_refl _
/-- 'throw new E()': new; dup; invokespecial; athrow -/
theorem vx_throw0 {cc : ByteArray} {pc : Nat} (hexec : p.tables.exec = Jvm.exec) (hb : c.code = cc) (hl : l.stackTraces = false) {own cls : String} {names : List String} {ik ic mc ms : Nat} {A : Nat → Prop}
    (hown : s.vm.findClass own = some m.cls) (hcls : Bundle.fit cls = true) (hnames : ∀ n ∈ names, Bundle.fit n = true)
    (hk : (Cond.classLink own ik cls).before args s = true) (hini : (Cond.initialized cls).before args s = true) (hat : ∀ w ∈ vx_at0 own ic cls names, w.before args s = true)
    (hgood : ∀ w ∈ Cond.classLink own ik cls :: Cond.initialized cls :: vx_at0 own ic cls names, vx_ot w = true)
    (hU : vx_Zq Bundle.tN "UNASSIGNED_STACK" Bundle.steD A s s.heap) (hN : vx_Zq Bundle.tN "SUPPRESSED_SENTINEL" Bundle.listD A s s.heap) (hS : va_S A s.heap H locs) (hsize : ls.size = c.maxLocals)
    (d0 : decode cc pc = .ok (.new ik, 3)) (d3 : decode cc (pc + 3) = .ok (.dup, 1)) (d4 : decode cc (pc + 4) = .ok (.invokespecial ic, 3)) (d7 : decode cc (pc + 7) = .ok (.athrow, 1))
    (hout : ∀ x ∈ c.exceptionTable.toList, covers x (pc + 7) = false)
    (hRframes : names.length + 3 < R.frames) (hRlocals : (rest.map fun v => v.category).sum + (13 * (names.length + 1) + 42) ≤ R.locals) (hRcells : cells + 1 ≤ R.cells) (hRslots : slots + 6 ≤ R.slots) (hlocks : meth.locks = false)
    (hx : ∀ t : State, s.vm.Alike t.vm → H.size ≤ t.heap.size → (∀ q : Nat, q < H.size → t.heap[q]? = H[q]?) → XC cls s t)
    (hf : ∀ z ∈ locs, free z.base) (hc : cells + 1 ≤ mc) (hs : slots + 6 ≤ ms) :
    W p l e R s m args below meth c H locs cells slots (vx_MQ below Qc XC args s mc ms free) (F0 m pc ls rest) := by
  intro T hT X
  have htr : e.platform.stackTraces = false := (show e.platform.stackTraces = l.stackTraces by rw [X.admits.platform]).trans hl
  have Y := vx_rebase X (R' := { frames := R.frames, locals := R.locals, cells := 1, slots := 6 }) (Nat.le_refl _) (Nat.le_refl _) hRcells hRslots
  obtain ⟨s', hA⟩ : ∃ z, z = (T.setVm s.vm).setFrames (.invoking m args :: below) := ⟨_, rfl⟩
  rw [← hA] at Y
  have hvm : s'.vm = s.vm := by rw [hA]; rfl
  have hhp : s'.heap = H := by rw [hA]; exact hT
  have hW0 : s.WarmedH s'.vm := by rw [hvm]; exact State.WarmedH.refl s
  have hat' : ∀ w ∈ vx_at0 own ic cls names, w.before args s' = true := fun w hw => vx_ot_at hW0 hvm.symm (hgood w (List.mem_cons_of_mem _ (List.mem_cons_of_mem _ hw))) (hat w hw)
  have hk' : (Cond.classLink own ik cls).before args s' = true := vx_ot_at hW0 hvm.symm (hgood _ List.mem_cons_self) hk
  have hini' : (Cond.initialized cls).before args s' = true := vx_ot_at hW0 hvm.symm (hgood _ (List.mem_cons_of_mem _ List.mem_cons_self)) hini
  have hU' : vx_Zq Bundle.tN "UNASSIGNED_STACK" Bundle.steD A s' s'.heap := by rw [hhp]; exact vx_Zq.moved hW0.alike (hU.kept hS.2.1)
  have hN' : vx_Zq Bundle.tN "SUPPRESSED_SENTINEL" Bundle.listD A s' s'.heap := by rw [hhp]; exact vx_Zq.moved hW0.alike (hN.kept hS.2.1)
  have h : ∀ w ∈ Bundle.ownAtoms0 own ic cls names, w.before args s' = true := vx_own hat' (vx_isRefq hU'.1) (vx_isRefq hN'.1) hU'.2.word hN'.2.word
  have hown' : s'.vm.findClass own = some m.cls := by rw [hvm]; exact hown
  have hins : (Cond.instantiable cls 6).before args s' = true := h _ (by simp [Bundle.ownAtoms0])
  obtain ⟨vm₁, cX, kX, hfX, hkX, -, -, X₁, st1⟩ := Y.newCold hexec (own := own) (C := cls) (index := ik) (n := 6) hown' hk' hins hini'
    (g := F0 m pc ls rest) rfl (by rw [hb]; exact d0) (Nat.le_refl _) (Nat.le_refl _)
  generalize hT1 : (T.setVm vm₁).pushCell { cls := cX, slots := kX.instanceTypes.map defaultValue, vm := .none } = T1 at X₁ st1
  have hcat : (Value.ref T.heap.size).category = 1 := rfl
  have hcellA : T1.heap[T.heap.size]? = some (freshCell cX kX) := by rw [← hT1]; exact State.heap_pushCell_size _ _
  have d3' : decode c.code (pc + 3) = .ok (.dup, 1) := by rw [hb]; exact d3
  obtain ⟨U, hsteps, hrun, hend, hW, hsame, ce, hce, hO⟩ := X₁.ctorThrow0 hexec htr (own := own) (cls := cls) (names := names) (ic := ic) hown' hcls hnames h (fun x hx => nomatch hx) hfX hkX hcellA (by rw [hhp, hT]; exact Nat.le_refl _)
    (g := { method := m, pc := pc + 4, locals := ls, stack := .ref T.heap.size :: .ref T.heap.size :: rest, locked := none }) rfl hsize rfl rfl (rest := rest) rfl
    (by rw [hb]; exact d4) (by rw [hb]; exact d7) hout hRframes (by simp only [List.map_cons, List.sum_cons, hcat]; omega) hlocks
  obtain ⟨f1, f2⟩ := vx_frame hsame
  rw [hhp] at f1 f2
  have hWs : s.WarmedH U.vm := State.WarmedH.trans hW0 hW
  have hcl : s.vm.findClass cls = some ce.cls := by
    have h9 := hO.cls
    rw [hvm] at h9
    exact h9
  have hall : s.sameButNew ({ U with vm := s.vm } : State) locs mc ms := by
    subst hA
    obtain ⟨e1, e2⟩ := hsame
    rw [State.setFrames_setFrames] at e1
    have h2 : (T.setVm s.vm).sameButNew ({ U with vm := s.vm } : State) [] (0 + 1) (0 + 6) := ⟨e1, e2⟩
    have h3 := X.same.trans h2
    rw [List.append_nil] at h3
    exact h3.mono hc hs
  refine ⟨U, ?_, .threw T.heap.size, hrun, hend, Or.inr ⟨T.heap.size, rfl, cls, ce, locs, hx U hWs.alike f1 (fun q hq => f2 q hq (fun z hz => nomatch hz)), hce, hO.vm, hcl, hWs, hall, hf⟩⟩
  refine st1 _ ?_
  show Steps p.tables e below (T1.setTop { method := m, pc := pc + 3, locals := ls, stack := .ref T.heap.size :: rest, locked := none }) _
  jvm_step X₁.here [X₁.here.top, hexec, d3', Value.category]
  exact hsteps
/-- 'throw new E("text")': new; dup; ldc; invokespecial; athrow -/
theorem vx_throwS {cc : ByteArray} {pc : Nat} (hexec : p.tables.exec = Jvm.exec) (hb : c.code = cc) (hl : l.stackTraces = false) {own cls text : String} {names : List String} {ik is ic mc ms sa : Nat} {A : Nat → Prop}
    (hown : s.vm.findClass own = some m.cls) (hcls : Bundle.fit cls = true) (hnames : ∀ n ∈ names, Bundle.fit n = true)
    (hk : (Cond.classLink own ik cls).before args s = true) (hini : (Cond.initialized cls).before args s = true) (hstr : vk_R own is text sa s) (hat : ∀ w ∈ vx_atS own ic cls names, w.before args s = true)
    (hgood : ∀ w ∈ Cond.classLink own ik cls :: Cond.initialized cls :: vx_atS own ic cls names, vx_ot w = true)
    (hU : vx_Zq Bundle.tN "UNASSIGNED_STACK" Bundle.steD A s s.heap) (hN : vx_Zq Bundle.tN "SUPPRESSED_SENTINEL" Bundle.listD A s s.heap) (hS : va_S A s.heap H locs) (hsize : ls.size = c.maxLocals)
    (d0 : decode cc pc = .ok (.new ik, 3)) (d3 : decode cc (pc + 3) = .ok (.dup, 1)) (d4 : decode cc (pc + 4) = .ok (.ldc is, 2)) (d6 : decode cc (pc + 6) = .ok (.invokespecial ic, 3)) (d9 : decode cc (pc + 9) = .ok (.athrow, 1))
    (hout : ∀ x ∈ c.exceptionTable.toList, covers x (pc + 9) = false)
    (hRframes : names.length + 3 < R.frames) (hRlocals : (rest.map fun v => v.category).sum + (13 * (names.length + 1) + 43) ≤ R.locals) (hRcells : cells + 1 ≤ R.cells) (hRslots : slots + 6 ≤ R.slots) (hlocks : meth.locks = false)
    (hx : ∀ t : State, s.vm.Alike t.vm → H.size ≤ t.heap.size → (∀ q : Nat, q < H.size → t.heap[q]? = H[q]?) → XC cls s t)
    (hf : ∀ z ∈ locs, free z.base) (hc : cells + 1 ≤ mc) (hs : slots + 6 ≤ ms) :
    W p l e R s m args below meth c H locs cells slots (vx_MQ below Qc XC args s mc ms free) (F0 m pc ls rest) := by
  intro T hT X
  have htr : e.platform.stackTraces = false := (show e.platform.stackTraces = l.stackTraces by rw [X.admits.platform]).trans hl
  have Y := vx_rebase X (R' := { frames := R.frames, locals := R.locals, cells := 1, slots := 6 }) (Nat.le_refl _) (Nat.le_refl _) hRcells hRslots
  obtain ⟨s', hA⟩ : ∃ z, z = (T.setVm s.vm).setFrames (.invoking m args :: below) := ⟨_, rfl⟩
  rw [← hA] at Y
  have hvm : s'.vm = s.vm := by rw [hA]; rfl
  have hhp : s'.heap = H := by rw [hA]; exact hT
  have hW0 : s.WarmedH s'.vm := by rw [hvm]; exact State.WarmedH.refl s
  have hat' : ∀ w ∈ vx_atS own ic cls names, w.before args s' = true := fun w hw => vx_ot_at hW0 hvm.symm (hgood w (List.mem_cons_of_mem _ (List.mem_cons_of_mem _ hw))) (hat w hw)
  have hk' : (Cond.classLink own ik cls).before args s' = true := vx_ot_at hW0 hvm.symm (hgood _ List.mem_cons_self) hk
  have hini' : (Cond.initialized cls).before args s' = true := vx_ot_at hW0 hvm.symm (hgood _ (List.mem_cons_of_mem _ List.mem_cons_self)) hini
  have hU' : vx_Zq Bundle.tN "UNASSIGNED_STACK" Bundle.steD A s' s'.heap := by rw [hhp]; exact vx_Zq.moved hW0.alike (hU.kept hS.2.1)
  have hN' : vx_Zq Bundle.tN "SUPPRESSED_SENTINEL" Bundle.listD A s' s'.heap := by rw [hhp]; exact vx_Zq.moved hW0.alike (hN.kept hS.2.1)
  have h : ∀ w ∈ Bundle.ownAtoms own ic cls names, w.before args s' = true := vx_own hat' (vx_isRefq hU'.1) (vx_isRefq hN'.1) hU'.2.word hN'.2.word
  have hown' : s'.vm.findClass own = some m.cls := by rw [hvm]; exact hown
  have hins : (Cond.instantiable cls 6).before args s' = true := h _ (by simp [Bundle.ownAtoms])
  obtain ⟨vm₁, cX, kX, hfX, hkX, -, -, X₁, st1⟩ := Y.newCold hexec (own := own) (C := cls) (index := ik) (n := 6) hown' hk' hins hini'
    (g := F0 m pc ls rest) rfl (by rw [hb]; exact d0) (Nat.le_refl _) (Nat.le_refl _)
  generalize hT1 : (T.setVm vm₁).pushCell { cls := cX, slots := kX.instanceTypes.map defaultValue, vm := .none } = T1 at X₁ st1
  have hcat : (Value.ref T.heap.size).category = 1 := rfl
  have hcellA : T1.heap[T.heap.size]? = some (freshCell cX kX) := by rw [← hT1]; exact State.heap_pushCell_size _ _
  have d3' : decode c.code (pc + 3) = .ok (.dup, 1) := by rw [hb]; exact d3
  have d4' : decode c.code (pc + 4) = .ok (.ldc is, 2) := by rw [hb]; exact d4
  have hstr' : vk_R own is text sa s' := vk_R.warm hW0 hstr
  obtain ⟨U, hsteps, hrun, hend, hW, hsame, ce, hce, hO⟩ := X₁.ctorThrowS hexec htr (own := own) (cls := cls) (names := names) (ic := ic) hown' hcls hnames h (fun x hx => nomatch hx) hfX hkX hcellA (by rw [hhp, hT]; exact Nat.le_refl _) (msg := .ref sa) rfl
    (g := { method := m, pc := pc + 6, locals := ls, stack := .ref sa :: .ref T.heap.size :: .ref T.heap.size :: rest, locked := none }) rfl hsize rfl rfl (rest := rest) rfl
    (by rw [hb]; exact d6) (by rw [hb]; exact d9) hout hRframes (by simp only [List.map_cons, List.sum_cons, hcat]; omega) hlocks
  obtain ⟨f1, f2⟩ := vx_frame hsame
  rw [hhp] at f1 f2
  have hWs : s.WarmedH U.vm := State.WarmedH.trans hW0 hW
  have hcl : s.vm.findClass cls = some ce.cls := by
    have h9 := hO.cls
    rw [hvm] at h9
    exact h9
  have hall : s.sameButNew ({ U with vm := s.vm } : State) locs mc ms := by
    subst hA
    obtain ⟨e1, e2⟩ := hsame
    rw [State.setFrames_setFrames] at e1
    have h2 : (T.setVm s.vm).sameButNew ({ U with vm := s.vm } : State) [] (0 + 1) (0 + 6) := ⟨e1, e2⟩
    have h3 := X.same.trans h2
    rw [List.append_nil] at h3
    exact h3.mono hc hs
  refine ⟨U, ?_, .threw T.heap.size, hrun, hend, Or.inr ⟨T.heap.size, rfl, cls, ce, locs, hx U hWs.alike f1 (fun q hq => f2 q hq (fun z hz => nomatch hz)), hce, hO.vm, hcl, hWs, hall, hf⟩⟩
  refine st1 _ ?_
  show Steps p.tables e below (T1.setTop { method := m, pc := pc + 3, locals := ls, stack := .ref T.heap.size :: rest, locked := none }) _
  jvm_step X₁.here [X₁.here.top, hexec, d3', Value.category]
  exact X₁.ldcString hexec (own := own) (text := text) (index := is) (a := sa) hown' hstr'.1 hstr'.2
    (g := { method := m, pc := pc + 4, locals := ls, stack := .ref T.heap.size :: .ref T.heap.size :: rest, locked := none }) rfl d4' _ hsteps
/-- 'throw new E("text")', the text by a wide index -/
theorem vx_throwSW {cc : ByteArray} {pc : Nat} (hexec : p.tables.exec = Jvm.exec) (hb : c.code = cc) (hl : l.stackTraces = false) {own cls text : String} {names : List String} {ik is ic mc ms sa : Nat} {A : Nat → Prop}
    (hown : s.vm.findClass own = some m.cls) (hcls : Bundle.fit cls = true) (hnames : ∀ n ∈ names, Bundle.fit n = true)
    (hk : (Cond.classLink own ik cls).before args s = true) (hini : (Cond.initialized cls).before args s = true) (hstr : vk_R own is text sa s) (hat : ∀ w ∈ vx_atS own ic cls names, w.before args s = true)
    (hgood : ∀ w ∈ Cond.classLink own ik cls :: Cond.initialized cls :: vx_atS own ic cls names, vx_ot w = true)
    (hU : vx_Zq Bundle.tN "UNASSIGNED_STACK" Bundle.steD A s s.heap) (hN : vx_Zq Bundle.tN "SUPPRESSED_SENTINEL" Bundle.listD A s s.heap) (hS : va_S A s.heap H locs) (hsize : ls.size = c.maxLocals)
    (d0 : decode cc pc = .ok (.new ik, 3)) (d3 : decode cc (pc + 3) = .ok (.dup, 1)) (d4 : decode cc (pc + 4) = .ok (.ldc_w is, 3)) (d7 : decode cc (pc + 7) = .ok (.invokespecial ic, 3)) (d10 : decode cc (pc + 10) = .ok (.athrow, 1))
    (hout : ∀ x ∈ c.exceptionTable.toList, covers x (pc + 10) = false)
    (hRframes : names.length + 3 < R.frames) (hRlocals : (rest.map fun v => v.category).sum + (13 * (names.length + 1) + 43) ≤ R.locals) (hRcells : cells + 1 ≤ R.cells) (hRslots : slots + 6 ≤ R.slots) (hlocks : meth.locks = false)
    (hx : ∀ t : State, s.vm.Alike t.vm → H.size ≤ t.heap.size → (∀ q : Nat, q < H.size → t.heap[q]? = H[q]?) → XC cls s t)
    (hf : ∀ z ∈ locs, free z.base) (hc : cells + 1 ≤ mc) (hs : slots + 6 ≤ ms) :
    W p l e R s m args below meth c H locs cells slots (vx_MQ below Qc XC args s mc ms free) (F0 m pc ls rest) := by
  intro T hT X
  have htr : e.platform.stackTraces = false := (show e.platform.stackTraces = l.stackTraces by rw [X.admits.platform]).trans hl
  have Y := vx_rebase X (R' := { frames := R.frames, locals := R.locals, cells := 1, slots := 6 }) (Nat.le_refl _) (Nat.le_refl _) hRcells hRslots
  obtain ⟨s', hA⟩ : ∃ z, z = (T.setVm s.vm).setFrames (.invoking m args :: below) := ⟨_, rfl⟩
  rw [← hA] at Y
  have hvm : s'.vm = s.vm := by rw [hA]; rfl
  have hhp : s'.heap = H := by rw [hA]; exact hT
  have hW0 : s.WarmedH s'.vm := by rw [hvm]; exact State.WarmedH.refl s
  have hat' : ∀ w ∈ vx_atS own ic cls names, w.before args s' = true := fun w hw => vx_ot_at hW0 hvm.symm (hgood w (List.mem_cons_of_mem _ (List.mem_cons_of_mem _ hw))) (hat w hw)
  have hk' : (Cond.classLink own ik cls).before args s' = true := vx_ot_at hW0 hvm.symm (hgood _ List.mem_cons_self) hk
  have hini' : (Cond.initialized cls).before args s' = true := vx_ot_at hW0 hvm.symm (hgood _ (List.mem_cons_of_mem _ List.mem_cons_self)) hini
  have hU' : vx_Zq Bundle.tN "UNASSIGNED_STACK" Bundle.steD A s' s'.heap := by rw [hhp]; exact vx_Zq.moved hW0.alike (hU.kept hS.2.1)
  have hN' : vx_Zq Bundle.tN "SUPPRESSED_SENTINEL" Bundle.listD A s' s'.heap := by rw [hhp]; exact vx_Zq.moved hW0.alike (hN.kept hS.2.1)
  have h : ∀ w ∈ Bundle.ownAtoms own ic cls names, w.before args s' = true := vx_own hat' (vx_isRefq hU'.1) (vx_isRefq hN'.1) hU'.2.word hN'.2.word
  have hown' : s'.vm.findClass own = some m.cls := by rw [hvm]; exact hown
  have hins : (Cond.instantiable cls 6).before args s' = true := h _ (by simp [Bundle.ownAtoms])
  obtain ⟨vm₁, cX, kX, hfX, hkX, -, -, X₁, st1⟩ := Y.newCold hexec (own := own) (C := cls) (index := ik) (n := 6) hown' hk' hins hini'
    (g := F0 m pc ls rest) rfl (by rw [hb]; exact d0) (Nat.le_refl _) (Nat.le_refl _)
  generalize hT1 : (T.setVm vm₁).pushCell { cls := cX, slots := kX.instanceTypes.map defaultValue, vm := .none } = T1 at X₁ st1
  have hcat : (Value.ref T.heap.size).category = 1 := rfl
  have hcellA : T1.heap[T.heap.size]? = some (freshCell cX kX) := by rw [← hT1]; exact State.heap_pushCell_size _ _
  have d3' : decode c.code (pc + 3) = .ok (.dup, 1) := by rw [hb]; exact d3
  have d4' : decode c.code (pc + 4) = .ok (.ldc_w is, 3) := by rw [hb]; exact d4
  have hstr' : vk_R own is text sa s' := vk_R.warm hW0 hstr
  obtain ⟨U, hsteps, hrun, hend, hW, hsame, ce, hce, hO⟩ := X₁.ctorThrowS hexec htr (own := own) (cls := cls) (names := names) (ic := ic) hown' hcls hnames h (fun x hx => nomatch hx) hfX hkX hcellA (by rw [hhp, hT]; exact Nat.le_refl _) (msg := .ref sa) rfl
    (g := { method := m, pc := pc + 7, locals := ls, stack := .ref sa :: .ref T.heap.size :: .ref T.heap.size :: rest, locked := none }) rfl hsize rfl rfl (rest := rest) rfl
    (by rw [hb]; exact d7) (by rw [hb]; exact d10) hout hRframes (by simp only [List.map_cons, List.sum_cons, hcat]; omega) hlocks
  obtain ⟨f1, f2⟩ := vx_frame hsame
  rw [hhp] at f1 f2
  have hWs : s.WarmedH U.vm := State.WarmedH.trans hW0 hW
  have hcl : s.vm.findClass cls = some ce.cls := by
    have h9 := hO.cls
    rw [hvm] at h9
    exact h9
  have hall : s.sameButNew ({ U with vm := s.vm } : State) locs mc ms := by
    subst hA
    obtain ⟨e1, e2⟩ := hsame
    rw [State.setFrames_setFrames] at e1
    have h2 : (T.setVm s.vm).sameButNew ({ U with vm := s.vm } : State) [] (0 + 1) (0 + 6) := ⟨e1, e2⟩
    have h3 := X.same.trans h2
    rw [List.append_nil] at h3
    exact h3.mono hc hs
  refine ⟨U, ?_, .threw T.heap.size, hrun, hend, Or.inr ⟨T.heap.size, rfl, cls, ce, locs, hx U hWs.alike f1 (fun q hq => f2 q hq (fun z hz => nomatch hz)), hce, hO.vm, hcl, hWs, hall, hf⟩⟩
  refine st1 _ ?_
  show Steps p.tables e below (T1.setTop { method := m, pc := pc + 3, locals := ls, stack := .ref T.heap.size :: rest, locked := none }) _
  jvm_step X₁.here [X₁.here.top, hexec, d3', Value.category]
  exact X₁.ldcStringW hexec (own := own) (text := text) (index := is) (a := sa) hown' hstr'.1 hstr'.2
    (g := { method := m, pc := pc + 4, locals := ls, stack := .ref T.heap.size :: .ref T.heap.size :: rest, locked := none }) rfl d4' _ hsteps
end Ends
section Bodies
variable {l : Launch}
theorem vx_ofW {y : MethodName} {ws ws' : List Cond} {rm : Room} {Pc : Array Value → State → Prop} {Qc : Array Value → State → Outcome → State → Prop} {XC : String → State → State → Prop} {mc ms : Nat} {free : Addr → Prop} {cc : ByteArray} {maxL : Nat} {ret : Option FieldType}
    (hy : plainName y.cls = true) (hw : ws = Cond.code y cc maxL ret :: ws')
    (body : ∀ p e s m args below meth c s₁, BodyLoose p l y (headSpec ws rm) cc maxL ret e s m args below meth c s₁ → c.maxLocals = maxL → (∀ x ∈ c.exceptionTable.toList, False) → Pc args s →
      W p l e (headSpec ws rm).room s m args below meth c s.heap [] 0 0 (vx_MQ below Qc XC args s mc ms free) (entryFrame m args maxL)) : vx_Met l y ws rm Pc Qc XC mc ms free := by
  refine MetFree.of_bodyS (code := cc) (maxLocals := maxL) (ret := ret) hy ?_ ?_
  · intro args s m h hn
    obtain ⟨meth, c, h1, h2, h3, h4, h5, h6, -, -⟩ := Cond.code_spec hn (atoms_spec (ws := ws) h _ (by rw [hw]; exact List.mem_cons_self))
    exact ⟨meth, c, h1, h2, h3, h4, h5, h6⟩
  · intro p e s m args below meth c s₁ B hml hP _
    have hh0 : s₁.heap = s.heap := by rw [B.state]; rfl
    have ht : ∀ x ∈ c.exceptionTable.toList, False := by
      obtain ⟨meth9, c9, h1, h2, -, -, -, -, h7, -⟩ := Cond.code_spec B.named (atoms_spec (ws := ws) B.pre _ (by rw [hw]; exact List.mem_cons_self))
      cases Option.some.inj (h1.symm.trans B.method)
      cases Option.some.inj (h2.symm.trans (Stand.of_body B).code)
      intro x hx
      rw [Array.isEmpty_iff.mp h7] at hx
      cases hx
    obtain ⟨t, a1, o, b1, b2, b3⟩ := body p e s m args below meth c s₁ B hml ht hP s₁ hh0 (Stand.of_body B)
    exact ⟨t, o, a1, b1, b2, b3⟩
/-- the table of a body with handlers -/
theorem vx_table {p : Program} {x y : MethodName} {S : Spec} {cc bytes : ByteArray} {maxL maxL' : Nat} {ret ret' : Option FieldType} {e : Env} {s s₁ : State} {m : MethodId} {args : Array Value} {below : List Frame} {meth : Method} {c : Code} {hh : List (Nat × Nat × Nat × Nat)}
    (B : BodyLoose p l y S cc maxL ret e s m args below meth c s₁) (h : (Cond.codeWith y bytes maxL' ret' hh).before args s = true) : c.exceptionTable.toList = tableOf hh := by
  obtain ⟨m9, meth9, c9, hn9, h1, h2, -, -, h6, -⟩ := Cond.codeWith_spec h
  cases Option.some.inj (hn9.symm.trans B.named)
  cases Option.some.inj (h1.symm.trans B.method)
  cases Option.some.inj (h2.symm.trans (Stand.of_body B).code)
  rw [← h6, table_eq]
end Bodies
end VXA
/-! ===== END ===== -/
/-! ===== BEGIN a static call of a method with an exception table ===== -/
section VXS
variable {p : Program} {l : Launch} {e : Env} {R : Room} {s : State} {m : MethodId} {args : Array Value} {below : List Frame} {meth : Method} {c : Code} {T : State} {H : Heap} {locs : List Loc} {cells slots : Nat}
abbrev vx_CSW (R : Room) (s : State) (args : Array Value) (own : String) (index : Nat) (y : MethodName) (bytes : ByteArray) (maxL : Nat) (ret : Option FieldType) (hh : List (Nat × Nat × Nat × Nat)) (ws : List Cond) (rm : Room) (mc ms n : Nat) : Prop :=
  (rm.cells = mc ∧ rm.slots = ms ∧ rm.frames + 1 ≤ R.frames ∧ 8 + (maxL + 11) + rm.locals ≤ R.locals ∧ (∀ w ∈ ws, ∀ (a' : Array Value) (U : State), s.WarmedH U.vm → w.before a' U = true) ∧ Cond.codeWith y bytes maxL ret hh ∈ ws) ∧
  (Cond.codeWith y bytes maxL ret hh).before args s = true ∧ (Cond.initialized y.cls).before args s = true ∧ (y.cls ≠ "java/lang/invoke/MethodHandle" ∧ y.cls ≠ "java/lang/invoke/VarHandle") ∧
  (∀ sig, parseMethodDescriptor y.desc = some sig → n = sig.parameters.length) ∧ (Cond.methodLink own index y).before args s = true ∧ (Cond.static y).before args s = true
theorem vx_cwSW {own : String} {index maxL mc ms : Nat} {y : MethodName} {bytes : ByteArray} {ret : Option FieldType} {hh : List (Nat × Nat × Nat × Nat)} {Ts ws ws' : List Cond} {rm : Room} (n : Nat) (ht : ∀ w ∈ Ts, w.before args s = true) (hT : GoodIn Ts (va_wsS own index y ws)) (hw : ws = Cond.codeWith y bytes maxL ret hh :: ws') (hrc : rm.cells = mc) (hrs : rm.slots = ms)
    (hd : y.cls ≠ "java/lang/invoke/MethodHandle" ∧ y.cls ≠ "java/lang/invoke/VarHandle" ∧ (parseMethodDescriptor y.desc).map (fun d => d.parameters.length) = some n) (hR : rm.frames + 1 ≤ R.frames ∧ 8 + (maxL + 11) + rm.locals ≤ R.locals) :
    vx_CSW R s args own index y bytes maxL ret hh ws rm mc ms n := by
  have ok : ∀ w ∈ va_wsS own index y ws, w.before args s = true := fun w h => ht w (hT w h).1
  have hG : GoodIn Ts ws := fun w h => hT w (by unfold va_wsS; exact List.mem_append_right _ h)
  have hc : Cond.codeWith y bytes maxL ret hh ∈ ws := by rw [hw]; exact List.mem_cons_self
  refine ⟨⟨hrc, hrs, hR.1, hR.2, pay_in ht hG, hc⟩, ht _ (hG _ hc).1, ok _ (by simp [va_wsS]), ⟨hd.1, hd.2.1⟩, fun sig h => ?_, ok _ (by simp [va_wsS]), ok _ (by simp [va_wsS])⟩
  have h2 := hd.2.2
  rw [h] at h2
  exact (Option.some.inj h2).symm
theorem vx_callSW (X : Stand p l e R s m args below meth c T locs cells slots) (hexec : p.tables.exec = Jvm.exec) {own : String} {index : Nat} {y : MethodName} {bytes : ByteArray} {maxL : Nat} {ret : Option FieldType} {hh : List (Nat × Nat × Nat × Nat)}
    (hown : s.vm.findClass own = some m.cls) (hlink : (Cond.methodLink own index y).before args s = true) (hstat : (Cond.static y).before args s = true) (hinit : (Cond.initialized y.cls).before args s = true)
    (hcode : (Cond.codeWith y bytes maxL ret hh).before args s = true) (hy : y.cls ≠ "java/lang/invoke/MethodHandle" ∧ y.cls ≠ "java/lang/invoke/VarHandle")
    {W9 : Nat} {Pre : Pt → Array Value → Prop} {Post : Pt → Array Value → Option Value → Pt → Prop} (hK : Back l R p e below s args y 3 W9 Pre Post)
    {g : JFrame} (hg : g.method = m) (hsize : g.locals.size = c.maxLocals) {argsL rest : List Value} (hlen : ∀ sig, parseMethodDescriptor y.desc = some sig → argsL.length = sig.parameters.length)
    (hstack : g.stack = argsL.reverse ++ rest) (hW : 2 * g.monitorRoom + (rest.map fun v => v.category).sum ≤ W9) (hdg : decode c.code g.pc = .ok (.invokestatic index, 3))
    (hpre : ∀ vm₁, s.WarmedH vm₁ → Pre ⟨T.setVm vm₁, locs, cells, slots⟩ argsL.toArray) :
    ∃ (v : Option Value) (vm₁ : Vm) (B : Pt), s.WarmedH vm₁ ∧ Stand p l e R s m args below meth c B.U B.locs B.cells B.slots ∧ Post ⟨T.setVm vm₁, locs, cells, slots⟩ argsL.toArray v B ∧
      ∀ target, Steps p.tables e below (B.U.setTop { g with pc := g.pc + 3, stack := v.toList ++ rest }) target → Steps p.tables e below (T.setTop g) target := by
  obtain ⟨mk, methM, cM, hnamed, hmethM, -, -, -, -, -, -, hsigM⟩ := Cond.codeWith_spec hcode
  have hstatic : methM.isStatic = true := Cond.static_spec hnamed hmethM hstat
  obtain ⟨kP, hkP, -⟩ := className_of_methodNamed hnamed
  have hinitP : kP.init = .initialized := Cond.initialized_spec (findClass_of_methodNamed hnamed) hkP hinit
  obtain ⟨vm₁, X₁, hstep₁⟩ := X.invokestatic hexec hown hlink hnamed hmethM hstatic hkP hinitP hy (g := g) hg (argsL := argsL) (rest := rest) (hlen _ hsigM) hstack hdg
  obtain ⟨v, B, X', hpost, hsteps⟩ := hK m meth c ⟨T.setVm vm₁, locs, cells, slots⟩ { g with stack := rest } (.invokestatic index) mk argsL.toArray X₁ hg hsize hdg hW (X₁.named hnamed) (hpre vm₁ X₁.warmed)
  exact ⟨v, vm₁, B, X₁.warmed, X', hpost, fun target h => hstep₁ _ fun acts => by rw [doInvoke_state]; exact hsteps.trans h⟩
theorem vx_runSW {y : MethodName} {bytes cc : ByteArray} {maxL nL mc ms n index : Nat} {ret : Option FieldType} {hh : List (Nat × Nat × Nat × Nat)} {ws : List Cond} {rm : Room} {Pc : Array Value → State → Prop} {Qc : Array Value → State → Outcome → State → Prop} {free : Addr → Prop} {Ts : List Cond} {own : String} {As rest : List Value} {g : JFrame}
    (S : CallFix p m c cc nL s args Ts own) (hM : Met l y ws rm Pc Qc mc ms free) (cw : vx_CSW R s args own index y bytes maxL ret hh ws rm mc ms n) (hp : PreS s H Pc As)
    (hg : g.method = m) (hn : As.length = n) (hsize : g.locals.size = nL) (hstack : g.stack = As.reverse ++ rest) (hW : 2 * g.monitorRoom + (rest.map fun v => v.category).sum ≤ 8) (hdg : decode cc g.pc = .ok (.invokestatic index, 3)) (hf : cells + mc ≤ R.cells ∧ slots + ms ≤ R.slots) :
    va_Run p l e R s m args below meth c H locs cells slots mc ms g rest (Qc As.toArray) (free) := by
  obtain ⟨⟨hrc, hrs, hfr, hlo, hws, hcw⟩, hcode, hini, hy, hlen, hl, hstt⟩ := cw
  have hK : Back l R p e below s args y 3 8 (PreOf R mc ms Pc) (PostOf Qc mc ms free) := va_backW (hh := hh) (bytes := bytes) (maxL := maxL) (ret := ret) hM hp.1 hrc hrs hfr hlo hws hcw (fun a' U hW => word_at hW (Or.inl (by first | rfl | simp [Cond.onTables, Cond.keeps, Cond.steady])) hini)
  obtain ⟨hx, hb, hml, ho, -⟩ := S
  intro T hT X
  obtain ⟨v, vm₁, ⟨U', l2, c2, s2⟩, hW₁, X', ⟨g', mk, t, L, e1, e2, hq, h1, hL, h2, h3⟩, st⟩ := vx_callSW X hx (hh := hh) (bytes := bytes) (maxL := maxL) (ret := ret) ho hl hstt hini hcode hy hK hg (hsize.trans hml.symm) (argsL := As) (rest := rest) (fun sig h => hn.trans (hlen sig h)) hstack hW (by rw [hb]; exact hdg)
    (fun vm₁ hW₁ => ⟨hf.1, hf.2, hp.2 (T.setVm vm₁) hT hW₁⟩)
  dsimp only [Pt.U, Pt.locs, Pt.cells, Pt.slots] at X' e1 e2 h1 h2 h3 st
  subst h1; subst h2; subst h3
  exact ⟨v, (T.setVm vm₁).calling g' mk As.toArray, t, U', L, hT, X', hL, e1, e2, hq, st⟩
/-- not caught here, past rows that name other classes: it goes on to the caller -/
theorem vx_outP {p : Program} {l : Launch} {e : Env} {R : Room} {s : State} {m : MethodId} {args : Array Value} {below : List Frame} {meth : Method} {c : Code} {H : Heap} {locs : List Loc} {cells slots : Nat} {free : Addr → Prop} {ls : Array Slot} {rest : List Value} {Qc : Array Value → State → Outcome → State → Prop} {XC : String → State → State → Prop}
    {pc : Nat} {own E : String} {ce : Cell} {q : Addr} {mc ms : Nat} (hown : s.vm.findClass own = some m.cls) (hlocks : meth.locks = false)
    (hpass : ∀ z ∈ c.exceptionTable.toList, covers z pc = false ∨ (z.catchType ≠ 0 ∧ ∃ nm : String, (Cond.classLink own z.catchType nm).before args s = true ∧ va_Nc E nm s)) (hcell : H[q]? = some ce) (hv : ce.vm = .none) (hcl : s.vm.findClass E = some ce.cls)
    (hx : ∀ t : State, t.heap = H → s.vm.Alike t.vm → XC E s t) (hf : ∀ z ∈ locs, free z.base) (hc : cells ≤ mc) (hs : slots ≤ ms) :
    vx_W p l e R s m args below meth c H locs cells slots (vx_MQ below Qc XC args s mc ms free) (F0 m pc ls rest) q := by
  intro T hT X
  have hpl : e.platform.magicAccessors = ({} : Platform).magicAccessors := by rw [X.admits.platform]
  obtain ⟨vm', hW', X', st⟩ := X.outThrough hlocks q (g := F0 m pc ls rest) rfl rfl rfl (cell := ce) (by rw [hT]; exact hcell) (by rw [hv]; rfl)
    (by obtain ⟨k9, h9, -⟩ := Vm.findClass_spec hcl; exact ⟨k9, h9⟩) (fun z hz => by
      rcases hpass z hz with h | ⟨hz0, nm, hl1, hn1⟩
      · exact Or.inl h
      · obtain ⟨c6, hc6, hcl6⟩ := Cond.classLink_spec hown hl1 e.platform hpl
        obtain ⟨a8, b8, h1, h2, h3⟩ := hn1
        cases Option.some.inj (h1.symm.trans hcl)
        cases Option.some.inj (h2.symm.trans hc6)
        exact Or.inr ⟨hz0, _, hcl6, h3⟩)
  obtain ⟨g₀, hfr⟩ := X'.frames_eq
  have hcell9 : ((T.setVm vm').setFrames (.throwing q :: below)).heap[q]? = some ce := by
    show T.heap[q]? = some ce
    rw [hT]; exact hcell
  have hend : Ended ((T.setVm vm').setFrames (.throwing q :: below)) below (.threw q) := State.frames_setFrames _ (State.cur_lt_of_frames hfr)
  refine ⟨(T.setVm vm').setFrames (.throwing q :: below), ?_, .threw q, X'.here.running, hend, Or.inr ⟨q, rfl, E, ce, locs, hx _ hT (X'.ends _).1.alike, hcell9, hv, hcl, (X'.ends _).1, (X'.ends _).2.mono hc hs, hf⟩⟩
  rw [X.pushThrowing_eq]
  exact st
/-- a thing of a world lies in the heap -/
theorem vx_lt {D : va_G} {cl : List vw_C} {ws : va_W} {H1 : Heap} (h : va_P D cl ws H1) {k : Nat} {q : Nat × va_E} (hk : ws[k]? = some q) : q.1 < H1.size := (h k q hk).lt
end VXS
/-! ===== END ===== -/
/-! ===== BEGIN methods with a table of their own: called by a name, returning or throwing ===== -/
section VXH
/-! vx_backW, vx_callVX, vx_callSX, vx_callVW, vx_runVW, vx_runVX, vx_runSX, vx_ofWH follow the same proofs as their sisters above (Free/Laws.lean, Shelf42/LK1.lean); vx_outP calls Shelf42/NT130.lean (outThrough). -/
section
variable {l : Launch} {R : Room} {p : Program} {e : Env} {below : List Frame} {s : State} {sargs : Array Value} {y : MethodName} {len W9 : Nat}
theorem vx_backW {ws : List Cond} {rm : Room} {Pc : Array Value → State → Prop} {Qc : Array Value → State → Outcome → State → Prop} {XC : String → State → State → Prop} {mc ms : Nat} {free : Addr → Prop} {bytes : ByteArray} {maxL : Nat} {ret : Option FieldType} {hh : List (Nat × Nat × Nat × Nat)}
    (hM : vx_Met l y ws rm Pc Qc XC mc ms free) (hblind : FrameBlind Pc) (hrc : rm.cells = mc) (hrs : rm.slots = ms)
    (hframes : rm.frames + 1 ≤ R.frames) (hlocals : W9 + (maxL + 11) + rm.locals ≤ R.locals)
    (hws : ∀ w ∈ ws, ∀ a' U, s.WarmedH U.vm → w.before a' U = true) (hcode : Cond.codeWith y bytes maxL ret hh ∈ ws) (hinit : ∀ a' U, s.WarmedH U.vm → (Cond.initialized y.cls).before a' U = true) :
    vx_Back l R p e below s sargs y len W9 (PreOf R mc ms Pc) (PostOf Qc mc ms free) (vx_Post XC mc ms free) := by
  intro m meth c A g ig mk a X hg hsize hdg hW hn hp
  have h1 : (headSpec ws rm).pre.before a A.U = true := atoms_intro fun w hw => hws w hw _ _ X.warmed
  have h2 : (Cond.codeWith y bytes maxL ret hh).before a A.U = true := hws _ hcode _ _ X.warmed
  have h3 : (Cond.initialized y.cls).before a A.U = true := hinit _ _ X.warmed
  have h4 : A.cells + (headSpec ws rm).room.cells ≤ R.cells := by rw [show (headSpec ws rm).room.cells = mc from hrc]; exact hp.1
  have h5 : A.slots + (headSpec ws rm).room.slots ≤ R.slots := by rw [show (headSpec ws rm).room.slots = ms from hrs]; exact hp.2.1
  have hPc : Pc a (A.U.calling g mk a) := hblind _ _ _ _ hp.2.2
  obtain ⟨U, Ls, c0, s0⟩ := A
  dsimp only [Pt.U, Pt.locs, Pt.cells, Pt.slots] at h1 h2 h3 h4 h5 X hn hPc ⊢
  obtain ⟨m9, methY, cY, hn9, hmY, hcY, -, hlY, -⟩ := Cond.codeWith_spec h2
  cases Option.some.inj (hn9.symm.trans hn)
  obtain ⟨kY, hkY, -⟩ := className_of_methodNamed hn
  have hinitY : kY.init = .initialized := Cond.initialized_spec (findClass_of_methodNamed hn) hkY h3
  have h : At U g.method c below := by rw [hg]; exact X.here
  have hlocals9 : W9 + (maxL + 11) + (headSpec ws rm).room.locals ≤ R.locals := hlocals
  have happ : (headSpec ws rm).appliesLoose y e.platform (U.calling g mk a) = true :=
    Spec.appliesLoose_calling (g := g) h hdg hn hkY hinitY
      (X.room_calling (g := g) (R' := (headSpec ws rm).room) hsize hmY hcY hframes (by rw [hlY]; omega) h4 h5) h1
  obtain ⟨mid, hmid⟩ := h.above
  have hfr : (U.setTop g).frames = (.java g :: mid) ++ below := by rw [State.frames_setTop' g h.top, hmid]; rfl
  obtain ⟨o, s₂, hsteps, -, hend, hq⟩ := Steps.callFree hM p X.admits X.cas X.clock (acts := []) hfr happ hPc trivial
  have hq' : vx_Q Qc XC mc ms free a (U.calling g mk a) o s₂ := hq
  rw [State.frames_setTop' g h.top] at hend
  obtain ⟨g₀, hg0⟩ := Option.isSome_iff_exists.mp h.top
  obtain ⟨r, hr⟩ := State.topJava?_eq_some.mp hg0
  have hr' : (({ U with heap := s₂.heap, slotsUsed := s₂.slotsUsed } : State).setVm s₂.vm).frames = .java g₀ :: r := hr
  rcases hq' with ⟨hqc, L, hfe, hL⟩ | ⟨q, rfl, E, ce, L, hx, hce, hcv, hcl, hW₂, hsm, hL⟩
  · obtain ⟨⟨v, rfl⟩, hW₂, e2, q2, q3, q4, q5, q6⟩ := id hfe
    have e3 : s₂ = ({ (U.calling g mk a).setFrames s₂.frames with heap := s₂.heap, slotsUsed := s₂.slotsUsed } : State).setVm s₂.vm := by
      have : s₂ = ({ s₂ with vm := (U.calling g mk a).vm } : State).setVm s₂.vm := rfl
      rw [e2] at this
      exact this
    obtain ⟨c₂, i₂, len₂, hc₂, hd₂, hf₂⟩ := hend
    have hW' : U.WarmedH s₂.vm := hW₂
    have hcc : c₂ = c := by
      have h1 : s₂.code? g.method = U.code? g.method := by
        rw [State.code?_eq, State.code?_eq, hW'.alike.method?]
      exact Option.some.inj (hc₂.symm.trans (h1.trans h.code))
    subst hcc
    have hlen : len₂ = len := by rw [hdg] at hd₂; cases hd₂; rfl
    subst hlen
    have hs₂ : s₂ = (({ U with heap := s₂.heap, slotsUsed := s₂.slotsUsed } : State).setVm s₂.vm).setTop { g with pc := g.pc + len₂, stack := v.toList ++ g.stack } := by
      refine e3.trans ?_
      rw [hf₂, State.calling_eq h.top, State.setFrames_setFrames, State.setTop_of_frames _ hr', hr]
      rfl
    have hsame : U.sameButNew ({ U with heap := s₂.heap, slotsUsed := s₂.slotsUsed } : State) L mc ms := by
      refine ⟨?_, q2, q3, q4, q5, q6⟩
      obtain ⟨t, ht, -⟩ := State.frames_cons hr
      show ({ U with heap := s₂.heap, slotsUsed := s₂.slotsUsed } : State) = { U.setFrames U.frames with heap := s₂.heap, slotsUsed := s₂.slotsUsed }
      rw [State.setFrames_self ht]
    subst hg
    refine Or.inl ⟨v, ⟨(({ U with heap := s₂.heap, slotsUsed := s₂.slotsUsed } : State).setVm s₂.vm), Ls ++ L, c0 + mc, s0 + ms⟩,
      ⟨X.admits, X.cas, X.clock, X.frames, X.room, X.hears, X.method, X.code, (X.here.setHeapUsed s₂.heap s₂.slotsUsed).setVm hW'.alike, X.tail, State.WarmedH.trans X.warmed hW', X.limits, X.bytes, X.same.trans (hsame.setVm s.vm)⟩,
      ⟨g, mk, s₂, L, rfl, rfl, hqc, rfl, hL, rfl, rfl⟩, ?_⟩
    show Steps p.tables e below _ ((({ U with heap := s₂.heap, slotsUsed := s₂.slotsUsed } : State).setVm s₂.vm).setTop { g with pc := g.pc + len₂, stack := v.toList ++ g.stack })
    rw [← hs₂]
    exact hsteps
  · obtain ⟨e2, q2, q3, q4, q5, q6⟩ := id hsm
    have e3 : s₂ = ({ (U.calling g mk a).setFrames s₂.frames with heap := s₂.heap, slotsUsed := s₂.slotsUsed } : State).setVm s₂.vm := by
      have : s₂ = ({ s₂ with vm := (U.calling g mk a).vm } : State).setVm s₂.vm := rfl
      rw [e2] at this
      exact this
    have hf₂ : s₂.frames = .throwing q :: .java g :: U.frames.tail := hend
    have hW' : U.WarmedH s₂.vm := hW₂
    have hs₂ : s₂ = ((({ U with heap := s₂.heap, slotsUsed := s₂.slotsUsed } : State).setVm s₂.vm).setTop g).pushFrame (.throwing q) := by
      refine e3.trans ?_
      rw [hf₂, State.calling_eq h.top, State.setFrames_setFrames, State.pushFrame, State.frames_setTop _ hr', State.setTop_of_frames _ hr', State.setFrames_setFrames, hr]
      rfl
    have hsame : U.sameButNew ({ U with heap := s₂.heap, slotsUsed := s₂.slotsUsed } : State) L mc ms := by
      refine ⟨?_, q2, q3, q4, q5, q6⟩
      obtain ⟨t, ht, -⟩ := State.frames_cons hr
      show ({ U with heap := s₂.heap, slotsUsed := s₂.slotsUsed } : State) = { U.setFrames U.frames with heap := s₂.heap, slotsUsed := s₂.slotsUsed }
      rw [State.setFrames_self ht]
    subst hg
    refine Or.inr ⟨q, ⟨(({ U with heap := s₂.heap, slotsUsed := s₂.slotsUsed } : State).setVm s₂.vm), Ls ++ L, c0 + mc, s0 + ms⟩,
      ⟨X.admits, X.cas, X.clock, X.frames, X.room, X.hears, X.method, X.code, (X.here.setHeapUsed s₂.heap s₂.slotsUsed).setVm hW'.alike, X.tail, State.WarmedH.trans X.warmed hW', X.limits, X.bytes, X.same.trans (hsame.setVm s.vm)⟩,
      ⟨g, mk, s₂, L, E, ce, rfl, rfl, hx, hce, hcv, hcl, rfl, hL, rfl, rfl⟩, ?_⟩
    show Steps p.tables e below _ (((({ U with heap := s₂.heap, slotsUsed := s₂.slotsUsed } : State).setVm s₂.vm).setTop g).pushFrame (.throwing q))
    rw [← hs₂]
    exact hsteps
end
variable {p : Program} {l : Launch} {e : Env} {R : Room} {s : State} {m : MethodId} {args : Array Value} {below : List Frame} {meth : Method} {c : Code} {T : State} {H : Heap} {locs : List Loc} {cells slots : Nat}
theorem vx_callVX (X : Stand p l e R s m args below meth c T locs cells slots) (hexec : p.tables.exec = Jvm.exec) {own C : String} {index : Nat} {y : MethodName} {bytes : ByteArray} {maxL : Nat} {ret : Option FieldType} {hh : List (Nat × Nat × Nat × Nat)}
    (hown : s.vm.findClass own = some m.cls) (hlink : (Cond.methodLink own index y).before args s = true) (hinst : (Cond.instanceMethod y).before args s = true) (hsel : (Cond.selects C y y).before args s = true)
    (hcode : (Cond.codeWith y bytes maxL ret hh).before args s = true) (hy : y.cls ≠ "java/lang/invoke/MethodHandle" ∧ y.cls ≠ "java/lang/invoke/VarHandle")
    {W9 : Nat} {Pre : Pt → Array Value → Prop} {Post : Pt → Array Value → Option Value → Pt → Prop} {PostX : Pt → Array Value → Addr → Pt → Prop} (hK : vx_Back l R p e below s args y 3 W9 Pre Post PostX)
    {b : Addr} {cellB : Cell} (hcell : T.heap[b]? = some cellB) (hobj : cellB.vm.isStatics = false) (hcls : s.vm.findClass C = some cellB.cls)
    {g : JFrame} (hg : g.method = m) (hsize : g.locals.size = c.maxLocals) {argsL rest : List Value} (hlen : ∀ sig, parseMethodDescriptor y.desc = some sig → argsL.length = sig.parameters.length)
    (hstack : g.stack = argsL.reverse ++ .ref b :: rest) (hW : 2 * g.monitorRoom + (rest.map fun v => v.category).sum ≤ W9) (hdg : decode c.code g.pc = .ok (.invokevirtual index, 3))
    (hpre : ∀ vm₁, s.WarmedH vm₁ → Pre ⟨T.setVm vm₁, locs, cells, slots⟩ (Value.ref b :: argsL).toArray) :
    (∃ (v : Option Value) (vm₁ : Vm) (B : Pt), s.WarmedH vm₁ ∧ Stand p l e R s m args below meth c B.U B.locs B.cells B.slots ∧ Post ⟨T.setVm vm₁, locs, cells, slots⟩ (Value.ref b :: argsL).toArray v B ∧
      ∀ target, Steps p.tables e below (B.U.setTop { g with pc := g.pc + 3, stack := v.toList ++ rest }) target → Steps p.tables e below (T.setTop g) target) ∨
    (∃ (q : Addr) (vm₁ : Vm) (B : Pt), s.WarmedH vm₁ ∧ Stand p l e R s m args below meth c B.U B.locs B.cells B.slots ∧ PostX ⟨T.setVm vm₁, locs, cells, slots⟩ (Value.ref b :: argsL).toArray q B ∧
      Steps p.tables e below (T.setTop g) ((B.U.setTop { g with stack := rest }).pushFrame (.throwing q))) := by
  obtain ⟨mk, methM, hnamed, hmethM, hstM, habM⟩ := Cond.instanceMethod_spec hinst
  obtain ⟨m8, methM', cM, hn8, hmethM', -, -, -, -, -, -, hsigM⟩ := Cond.codeWith_spec hcode
  cases Option.some.inj (hn8.symm.trans hnamed)
  cases hmethM.symm.trans hmethM'
  obtain ⟨c2, r2, m2, q1, q2, q3, q4, kP, hkP, hkPi⟩ := Cond.selects_spec hsel
  cases hcls.symm.trans q1
  cases (State.methodFound?_of_named hnamed hy).symm.trans q2
  cases hnamed.symm.trans q3
  have hselP : selectMethod e.platform s.vm cellB.cls mk = .method mk := by rw [Launch.admits_selectMethod X.admits]; exact q4
  obtain ⟨vm₁, X₁, hstep₁⟩ := X.invokevirtual hexec hown hlink hnamed hmethM hstM hkP hkPi hy (a := b) (cell := cellB) hcell
    (fun z h => by rw [h] at hobj; cases hobj) hselP hmethM habM hkP hkPi (g := g) hg (argsL := argsL) (rest := rest) (hlen _ hsigM) hstack hdg
  rcases hK m meth c ⟨T.setVm vm₁, locs, cells, slots⟩ { g with stack := rest } (.invokevirtual index) mk (Value.ref b :: argsL).toArray X₁ hg hsize hdg hW (X₁.named hnamed) (hpre vm₁ X₁.warmed) with ⟨v, B, X', hpost, hsteps⟩ | ⟨q, B, X', hpost, hsteps⟩
  · exact Or.inl ⟨v, vm₁, B, X₁.warmed, X', hpost, fun target h => hstep₁ _ fun acts => by rw [doInvoke_state]; exact hsteps.trans h⟩
  · exact Or.inr ⟨q, vm₁, B, X₁.warmed, X', hpost, hstep₁ _ fun acts => by rw [doInvoke_state]; exact hsteps⟩
theorem vx_callSX (X : Stand p l e R s m args below meth c T locs cells slots) (hexec : p.tables.exec = Jvm.exec) {own : String} {index : Nat} {y : MethodName} {bytes : ByteArray} {maxL : Nat} {ret : Option FieldType} {hh : List (Nat × Nat × Nat × Nat)}
    (hown : s.vm.findClass own = some m.cls) (hlink : (Cond.methodLink own index y).before args s = true) (hstat : (Cond.static y).before args s = true) (hinit : (Cond.initialized y.cls).before args s = true)
    (hcode : (Cond.codeWith y bytes maxL ret hh).before args s = true) (hy : y.cls ≠ "java/lang/invoke/MethodHandle" ∧ y.cls ≠ "java/lang/invoke/VarHandle")
    {W9 : Nat} {Pre : Pt → Array Value → Prop} {Post : Pt → Array Value → Option Value → Pt → Prop} {PostX : Pt → Array Value → Addr → Pt → Prop} (hK : vx_Back l R p e below s args y 3 W9 Pre Post PostX)
    {g : JFrame} (hg : g.method = m) (hsize : g.locals.size = c.maxLocals) {argsL rest : List Value} (hlen : ∀ sig, parseMethodDescriptor y.desc = some sig → argsL.length = sig.parameters.length)
    (hstack : g.stack = argsL.reverse ++ rest) (hW : 2 * g.monitorRoom + (rest.map fun v => v.category).sum ≤ W9) (hdg : decode c.code g.pc = .ok (.invokestatic index, 3))
    (hpre : ∀ vm₁, s.WarmedH vm₁ → Pre ⟨T.setVm vm₁, locs, cells, slots⟩ argsL.toArray) :
    (∃ (v : Option Value) (vm₁ : Vm) (B : Pt), s.WarmedH vm₁ ∧ Stand p l e R s m args below meth c B.U B.locs B.cells B.slots ∧ Post ⟨T.setVm vm₁, locs, cells, slots⟩ argsL.toArray v B ∧
      ∀ target, Steps p.tables e below (B.U.setTop { g with pc := g.pc + 3, stack := v.toList ++ rest }) target → Steps p.tables e below (T.setTop g) target) ∨
    (∃ (q : Addr) (vm₁ : Vm) (B : Pt), s.WarmedH vm₁ ∧ Stand p l e R s m args below meth c B.U B.locs B.cells B.slots ∧ PostX ⟨T.setVm vm₁, locs, cells, slots⟩ argsL.toArray q B ∧
      Steps p.tables e below (T.setTop g) ((B.U.setTop { g with stack := rest }).pushFrame (.throwing q))) := by
  obtain ⟨mk, methM, cM, hnamed, hmethM, -, -, -, -, -, -, hsigM⟩ := Cond.codeWith_spec hcode
  have hstatic : methM.isStatic = true := Cond.static_spec hnamed hmethM hstat
  obtain ⟨kP, hkP, -⟩ := className_of_methodNamed hnamed
  have hinitP : kP.init = .initialized := Cond.initialized_spec (findClass_of_methodNamed hnamed) hkP hinit
  obtain ⟨vm₁, X₁, hstep₁⟩ := X.invokestatic hexec hown hlink hnamed hmethM hstatic hkP hinitP hy (g := g) hg (argsL := argsL) (rest := rest) (hlen _ hsigM) hstack hdg
  rcases hK m meth c ⟨T.setVm vm₁, locs, cells, slots⟩ { g with stack := rest } (.invokestatic index) mk argsL.toArray X₁ hg hsize hdg hW (X₁.named hnamed) (hpre vm₁ X₁.warmed) with ⟨v, B, X', hpost, hsteps⟩ | ⟨q, B, X', hpost, hsteps⟩
  · exact Or.inl ⟨v, vm₁, B, X₁.warmed, X', hpost, fun target h => hstep₁ _ fun acts => by rw [doInvoke_state]; exact hsteps.trans h⟩
  · exact Or.inr ⟨q, vm₁, B, X₁.warmed, X', hpost, hstep₁ _ fun acts => by rw [doInvoke_state]; exact hsteps⟩
theorem vx_callVW (X : Stand p l e R s m args below meth c T locs cells slots) (hexec : p.tables.exec = Jvm.exec) {own C : String} {index : Nat} {y : MethodName} {bytes : ByteArray} {maxL : Nat} {ret : Option FieldType} {hh : List (Nat × Nat × Nat × Nat)}
    (hown : s.vm.findClass own = some m.cls) (hlink : (Cond.methodLink own index y).before args s = true) (hinst : (Cond.instanceMethod y).before args s = true) (hsel : (Cond.selects C y y).before args s = true)
    (hcode : (Cond.codeWith y bytes maxL ret hh).before args s = true) (hy : y.cls ≠ "java/lang/invoke/MethodHandle" ∧ y.cls ≠ "java/lang/invoke/VarHandle")
    {W9 : Nat} {Pre : Pt → Array Value → Prop} {Post : Pt → Array Value → Option Value → Pt → Prop} (hK : Back l R p e below s args y 3 W9 Pre Post)
    {b : Addr} {cellB : Cell} (hcell : T.heap[b]? = some cellB) (hobj : cellB.vm.isStatics = false) (hcls : s.vm.findClass C = some cellB.cls)
    {g : JFrame} (hg : g.method = m) (hsize : g.locals.size = c.maxLocals) {argsL rest : List Value} (hlen : ∀ sig, parseMethodDescriptor y.desc = some sig → argsL.length = sig.parameters.length)
    (hstack : g.stack = argsL.reverse ++ .ref b :: rest) (hW : 2 * g.monitorRoom + (rest.map fun v => v.category).sum ≤ W9) (hdg : decode c.code g.pc = .ok (.invokevirtual index, 3))
    (hpre : ∀ vm₁, s.WarmedH vm₁ → Pre ⟨T.setVm vm₁, locs, cells, slots⟩ (Value.ref b :: argsL).toArray) :
    ∃ (v : Option Value) (vm₁ : Vm) (B : Pt), s.WarmedH vm₁ ∧ Stand p l e R s m args below meth c B.U B.locs B.cells B.slots ∧ Post ⟨T.setVm vm₁, locs, cells, slots⟩ (Value.ref b :: argsL).toArray v B ∧
      ∀ target, Steps p.tables e below (B.U.setTop { g with pc := g.pc + 3, stack := v.toList ++ rest }) target → Steps p.tables e below (T.setTop g) target := by
  obtain ⟨mk, methM, hnamed, hmethM, hstM, habM⟩ := Cond.instanceMethod_spec hinst
  obtain ⟨m8, methM', cM, hn8, hmethM', -, -, -, -, -, -, hsigM⟩ := Cond.codeWith_spec hcode
  cases Option.some.inj (hn8.symm.trans hnamed)
  cases hmethM.symm.trans hmethM'
  obtain ⟨c2, r2, m2, q1, q2, q3, q4, kP, hkP, hkPi⟩ := Cond.selects_spec hsel
  cases hcls.symm.trans q1
  cases (State.methodFound?_of_named hnamed hy).symm.trans q2
  cases hnamed.symm.trans q3
  have hselP : selectMethod e.platform s.vm cellB.cls mk = .method mk := by rw [Launch.admits_selectMethod X.admits]; exact q4
  obtain ⟨vm₁, X₁, hstep₁⟩ := X.invokevirtual hexec hown hlink hnamed hmethM hstM hkP hkPi hy (a := b) (cell := cellB) hcell
    (fun z h => by rw [h] at hobj; cases hobj) hselP hmethM habM hkP hkPi (g := g) hg (argsL := argsL) (rest := rest) (hlen _ hsigM) hstack hdg
  obtain ⟨v, B, X', hpost, hsteps⟩ := hK m meth c ⟨T.setVm vm₁, locs, cells, slots⟩ { g with stack := rest } (.invokevirtual index) mk (Value.ref b :: argsL).toArray X₁ hg hsize hdg hW (X₁.named hnamed) (hpre vm₁ X₁.warmed)
  exact ⟨v, vm₁, B, X₁.warmed, X', hpost, fun target h => hstep₁ _ fun acts => by rw [doInvoke_state]; exact hsteps.trans h⟩
abbrev vx_CVW (R : Room) (s : State) (args : Array Value) (own C : String) (index : Nat) (y : MethodName) (bytes : ByteArray) (maxL : Nat) (ret : Option FieldType) (hh : List (Nat × Nat × Nat × Nat)) (ws : List Cond) (rm : Room) (mc ms n : Nat) : Prop :=
  (rm.cells = mc ∧ rm.slots = ms ∧ rm.frames + 1 ≤ R.frames ∧ 8 + (maxL + 11) + rm.locals ≤ R.locals ∧ (∀ w ∈ ws, ∀ (a' : Array Value) (U : State), s.WarmedH U.vm → w.before a' U = true) ∧ Cond.codeWith y bytes maxL ret hh ∈ ws) ∧
  (Cond.codeWith y bytes maxL ret hh).before args s = true ∧ (Cond.initialized y.cls).before args s = true ∧ (y.cls ≠ "java/lang/invoke/MethodHandle" ∧ y.cls ≠ "java/lang/invoke/VarHandle") ∧
  (∀ sig, parseMethodDescriptor y.desc = some sig → n = sig.parameters.length) ∧ (Cond.methodLink own index y).before args s = true ∧ (Cond.instanceMethod y).before args s = true ∧ (Cond.selects C y y).before args s = true
theorem vx_cwVW {own C : String} {index maxL mc ms : Nat} {y : MethodName} {bytes : ByteArray} {ret : Option FieldType} {hh : List (Nat × Nat × Nat × Nat)} {Ts ws ws' : List Cond} {rm : Room} (n : Nat) (ht : ∀ w ∈ Ts, w.before args s = true) (hT : GoodIn Ts (wsV own index C y ws)) (hw : ws = Cond.codeWith y bytes maxL ret hh :: ws') (hrc : rm.cells = mc) (hrs : rm.slots = ms)
    (hd : y.cls = C ∧ y.cls ≠ "java/lang/invoke/MethodHandle" ∧ y.cls ≠ "java/lang/invoke/VarHandle" ∧ (parseMethodDescriptor y.desc).map (fun d => d.parameters.length) = some n) (hR : rm.frames + 1 ≤ R.frames ∧ 8 + (maxL + 11) + rm.locals ≤ R.locals) :
    vx_CVW R s args own C index y bytes maxL ret hh ws rm mc ms n := by
  obtain ⟨hC, hd⟩ := hd
  subst hC
  have ok : ∀ w ∈ wsV own index y.cls y ws, w.before args s = true := fun w h => ht w (hT w h).1
  have hG : GoodIn Ts ws := fun w h => hT w (by unfold wsV; exact List.mem_append_right _ h)
  have hc : Cond.codeWith y bytes maxL ret hh ∈ ws := by rw [hw]; exact List.mem_cons_self
  refine ⟨⟨hrc, hrs, hR.1, hR.2, pay_in ht hG, hc⟩, ht _ (hG _ hc).1, ok _ (by simp [wsV]), ⟨hd.1, hd.2.1⟩, fun sig h => ?_, ok _ (by simp [wsV]), ok _ (by simp [wsV]), ok _ (by simp [wsV])⟩
  have h2 := hd.2.2
  rw [h] at h2
  exact (Option.some.inj h2).symm
theorem vx_runVW {y : MethodName} {bytes cc : ByteArray} {maxL nL mc ms n index : Nat} {ret : Option FieldType} {hh : List (Nat × Nat × Nat × Nat)} {ws : List Cond} {rm : Room} {Pc : Array Value → State → Prop} {Qc : Array Value → State → Outcome → State → Prop} {free : Addr → Prop} {Ts : List Cond} {own C : String} {b : Addr} {As rest : List Value} {g : JFrame}
    (S : CallFix p m c cc nL s args Ts own) (hM : Met l y ws rm Pc Qc mc ms free) (cw : vx_CVW R s args own C index y bytes maxL ret hh ws rm mc ms n) (hp : PreV s H C b Pc As)
    (hg : g.method = m) (hn : As.length = n) (hsize : g.locals.size = nL) (hstack : g.stack = As.reverse ++ .ref b :: rest) (hW : 2 * g.monitorRoom + (rest.map fun v => v.category).sum ≤ 8) (hdg : decode cc g.pc = .ok (.invokevirtual index, 3)) (hf : cells + mc ≤ R.cells ∧ slots + ms ≤ R.slots) :
    va_Run p l e R s m args below meth c H locs cells slots mc ms g rest (Qc (Value.ref b :: As).toArray) free := by
  obtain ⟨⟨hrc, hrs, hfr, hlo, hws, hcw⟩, hcode, hini, hy, hlen, hl, hin, hse⟩ := cw
  have hK : Back l R p e below s args y 3 8 (PreOf R mc ms Pc) (PostOf Qc mc ms free) := va_backW (hh := hh) (bytes := bytes) (maxL := maxL) (ret := ret) hM hp.1 hrc hrs hfr hlo hws hcw (fun a' U hW => word_at hW (Or.inl (by first | rfl | simp [Cond.onTables, Cond.keeps, Cond.steady])) hini)
  obtain ⟨hx, hb, hml, ho, -⟩ := S
  obtain ⟨-, ⟨cellB, hcB, hoB, hclB⟩, hPc⟩ := hp
  intro T hT X
  obtain ⟨v, vm₁, ⟨U', l2, c2, s2⟩, hW₁, X', ⟨g', mk, t, L, e1, e2, hq, h1, hL, h2, h3⟩, st⟩ := vx_callVW X hx (C := C) (hh := hh) (bytes := bytes) (maxL := maxL) (ret := ret) ho hl hin hse hcode hy hK (by rw [hT]; exact hcB) hoB hclB hg (hsize.trans hml.symm) (argsL := As) (rest := rest) (fun sig h => hn.trans (hlen sig h)) hstack hW (by rw [hb]; exact hdg)
    (fun vm₁ hW₁ => ⟨hf.1, hf.2, hPc (T.setVm vm₁) hT hW₁⟩)
  dsimp only [Pt.U, Pt.locs, Pt.cells, Pt.slots] at X' e1 e2 h1 h2 h3 st
  subst h1; subst h2; subst h3
  exact ⟨v, (T.setVm vm₁).calling g' mk (Value.ref b :: As).toArray, t, U', L, hT, X', hL, e1, e2, hq, st⟩
section
variable {y : MethodName} {bytes cc : ByteArray} {maxL nL mc ms n index : Nat} {ret : Option FieldType} {ws : List Cond} {rm : Room} {Pc : Array Value → State → Prop} {Qc : Array Value → State → Outcome → State → Prop} {XC : String → State → State → Prop} {free : Addr → Prop} {Ts : List Cond} {own C : String} {b : Addr} {As rest : List Value} {g : JFrame}
theorem vx_runVX {hh : List (Nat × Nat × Nat × Nat)} (S : CallFix p m c cc nL s args Ts own) (hM : vx_Met l y ws rm Pc Qc XC mc ms free) (cw : vx_CVW R s args own C index y bytes maxL ret hh ws rm mc ms n) (hp : PreV s H C b Pc As)
    (hg : g.method = m) (hn : As.length = n) (hsize : g.locals.size = nL) (hstack : g.stack = As.reverse ++ .ref b :: rest) (hW : 2 * g.monitorRoom + (rest.map fun v => v.category).sum ≤ 8) (hdg : decode cc g.pc = .ok (.invokevirtual index, 3)) (hf : cells + mc ≤ R.cells ∧ slots + ms ≤ R.slots) :
    vx_Run p l e R s m args below meth c H locs cells slots mc ms g rest (Qc (Value.ref b :: As).toArray) XC free := by
  obtain ⟨⟨hrc, hrs, hfr, hlo, hws, hcw⟩, hcode, hini, hy, hlen, hl, hin, hse⟩ := cw
  have hK : vx_Back l R p e below s args y 3 8 (PreOf R mc ms Pc) (PostOf Qc mc ms free) (vx_Post XC mc ms free) := vx_backW (hh := hh) (bytes := bytes) (maxL := maxL) (ret := ret) hM hp.1 hrc hrs hfr hlo hws hcw (fun a' U hW => word_at hW (Or.inl (by first | rfl | simp [Cond.onTables, Cond.keeps, Cond.steady])) hini)
  obtain ⟨hx, hb, hml, ho, -⟩ := S
  obtain ⟨-, ⟨cellB, hcB, hoB, hclB⟩, hPc⟩ := hp
  intro T hT X
  rcases vx_callVX X hx (C := C) (hh := hh) (bytes := bytes) (maxL := maxL) (ret := ret) ho hl hin hse hcode hy hK (by rw [hT]; exact hcB) hoB hclB hg (hsize.trans hml.symm) (argsL := As) (rest := rest) (fun sig h => hn.trans (hlen sig h)) hstack hW (by rw [hb]; exact hdg)
    (fun vm₁ hW₁ => ⟨hf.1, hf.2, hPc (T.setVm vm₁) hT hW₁⟩) with ⟨v, vm₁, ⟨U', l2, c2, s2⟩, hW₁, X', ⟨g', mk, t, L, e1, e2, hq, h1, hL, h2, h3⟩, st⟩ | ⟨q, vm₁, ⟨U', l2, c2, s2⟩, hW₁, X', ⟨g', mk, t, L, E, ce, e1, e2, hq, hce, hcv, hcl, h1, hL, h2, h3⟩, st⟩
  · dsimp only [Pt.U, Pt.locs, Pt.cells, Pt.slots] at X' e1 e2 h1 h2 h3 st
    subst h1; subst h2; subst h3
    exact Or.inl ⟨v, (T.setVm vm₁).calling g' mk (Value.ref b :: As).toArray, t, U', L, hT, X', hL, e1, e2, hq, st⟩
  · dsimp only [Pt.U, Pt.locs, Pt.cells, Pt.slots] at X' e1 e2 h1 h2 h3 st hcl
    subst h1; subst h2; subst h3
    exact Or.inr ⟨q, (T.setVm vm₁).calling g' mk (Value.ref b :: As).toArray, t, U', L, E, ce, hT, X', hL, e1, e2, hq, hce, hcv, vx_cls hW₁ hcl, st⟩
theorem vx_runSX {hh : List (Nat × Nat × Nat × Nat)} (S : CallFix p m c cc nL s args Ts own) (hM : vx_Met l y ws rm Pc Qc XC mc ms free) (cw : vx_CSW R s args own index y bytes maxL ret hh ws rm mc ms n) (hp : PreS s H Pc As)
    (hg : g.method = m) (hn : As.length = n) (hsize : g.locals.size = nL) (hstack : g.stack = As.reverse ++ rest) (hW : 2 * g.monitorRoom + (rest.map fun v => v.category).sum ≤ 8) (hdg : decode cc g.pc = .ok (.invokestatic index, 3)) (hf : cells + mc ≤ R.cells ∧ slots + ms ≤ R.slots) :
    vx_Run p l e R s m args below meth c H locs cells slots mc ms g rest (Qc As.toArray) XC free := by
  obtain ⟨⟨hrc, hrs, hfr, hlo, hws, hcw⟩, hcode, hini, hy, hlen, hl, hstt⟩ := cw
  have hK : vx_Back l R p e below s args y 3 8 (PreOf R mc ms Pc) (PostOf Qc mc ms free) (vx_Post XC mc ms free) := vx_backW (hh := hh) (bytes := bytes) (maxL := maxL) (ret := ret) hM hp.1 hrc hrs hfr hlo hws hcw (fun a' U hW => word_at hW (Or.inl (by first | rfl | simp [Cond.onTables, Cond.keeps, Cond.steady])) hini)
  obtain ⟨hx, hb, hml, ho, -⟩ := S
  intro T hT X
  rcases vx_callSX X hx (hh := hh) (bytes := bytes) (maxL := maxL) (ret := ret) ho hl hstt hini hcode hy hK hg (hsize.trans hml.symm) (argsL := As) (rest := rest) (fun sig h => hn.trans (hlen sig h)) hstack hW (by rw [hb]; exact hdg)
    (fun vm₁ hW₁ => ⟨hf.1, hf.2, hp.2 (T.setVm vm₁) hT hW₁⟩) with ⟨v, vm₁, ⟨U', l2, c2, s2⟩, hW₁, X', ⟨g', mk, t, L, e1, e2, hq, h1, hL, h2, h3⟩, st⟩ | ⟨q, vm₁, ⟨U', l2, c2, s2⟩, hW₁, X', ⟨g', mk, t, L, E, ce, e1, e2, hq, hce, hcv, hcl, h1, hL, h2, h3⟩, st⟩
  · dsimp only [Pt.U, Pt.locs, Pt.cells, Pt.slots] at X' e1 e2 h1 h2 h3 st
    subst h1; subst h2; subst h3
    exact Or.inl ⟨v, (T.setVm vm₁).calling g' mk As.toArray, t, U', L, hT, X', hL, e1, e2, hq, st⟩
  · dsimp only [Pt.U, Pt.locs, Pt.cells, Pt.slots] at X' e1 e2 h1 h2 h3 st hcl
    subst h1; subst h2; subst h3
    exact Or.inr ⟨q, (T.setVm vm₁).calling g' mk As.toArray, t, U', L, E, ce, hT, X', hL, e1, e2, hq, hce, hcv, vx_cls hW₁ hcl, st⟩
end
end VXH
theorem vx_ofWH {l : Launch} {y : MethodName} {ws ws' : List Cond} {rm : Room} {Pc : Array Value → State → Prop} {Qc : Array Value → State → Outcome → State → Prop} {XC : String → State → State → Prop} {mc ms : Nat} {free : Addr → Prop} {cc : ByteArray} {maxL : Nat} {ret : Option FieldType} {hh : List (Nat × Nat × Nat × Nat)}
    (hy : plainName y.cls = true) (hw : ws = Cond.codeWith y cc maxL ret hh :: ws')
    (body : ∀ p e s m args below meth c s₁, BodyLoose p l y (headSpec ws rm) cc maxL ret e s m args below meth c s₁ → c.maxLocals = maxL → Pc args s →
      W p l e (headSpec ws rm).room s m args below meth c s.heap [] 0 0 (vx_MQ below Qc XC args s mc ms free) (entryFrame m args maxL)) : vx_Met l y ws rm Pc Qc XC mc ms free := by
  refine MetFree.of_bodyS (code := cc) (maxLocals := maxL) (ret := ret) hy ?_ ?_
  · intro args s m h hn
    obtain ⟨m9, meth, c, hn9, h1, h2, h3, h4, -, h5, h6, -⟩ := Cond.codeWith_spec (atoms_spec (ws := ws) h _ (by rw [hw]; exact List.mem_cons_self))
    cases hn.symm.trans hn9
    exact ⟨meth, c, h1, h2, h3, h4, h5, h6⟩
  · intro p e s m args below meth c s₁ B hml hP _
    have hh0 : s₁.heap = s.heap := by rw [B.state]; rfl
    obtain ⟨t, a1, o, b1, b2, b3⟩ := body p e s m args below meth c s₁ B hml hP s₁ hh0 (Stand.of_body B)
    exact ⟨t, o, a1, b1, b2, b3⟩
/-! ===== END ===== -/

/-! ===== BEGIN printed: names, fields, word lists, decode rows ===== -/
def RX0 : String := "GustMill$State"
def TX0 : u_T := fun k => match k with
  | 0 => ("GustMill$State", "winds", "[I", true)
  | 1 => ("GustMill$State", "sizes", "[I", true)
  | 2 => ("GustMill$State", "sacksUpon", "[I", true)
  | 3 => ("GustMill$State", "isFresh", "[Z", true)
  | 4 => ("GustMill$State", "bakers", "[I", true)
  | 5 => ("GustMill$State", "lefts", "[I", true)
  | 6 => ("GustMill$State", "untils", "[I", true)
  | 7 => ("GustMill$State", "stonesUnder", "[I", true)
  | 8 => ("GustMill$State", "groundHours", "[I", true)
  | 9 => ("GustMill$State", "hour", "I", false)
  | 10 => ("GustMill$State", "stoneCount", "I", false)
  | 11 => ("GustMill$State", "sackCount", "I", false)
  | 12 => ("GustMill$State", "groundCount", "I", false)
  | 13 => ("GustMill$State", "changeCount", "I", false)
  | 14 => ("GustMill$State", "rule", "I", false)
  | _ => ("GustMill$State", "isTakingOff", "Z", false)
def tyX0 : Nat → FieldType := fun k => match k with
  | 0 => .array .int
  | 1 => .array .int
  | 2 => .array .int
  | 3 => .array .boolean
  | 4 => .array .int
  | 5 => .array .int
  | 6 => .array .int
  | 7 => .array .int
  | 8 => .array .int
  | 9 => .int
  | 10 => .int
  | 11 => .int
  | 12 => .int
  | 13 => .int
  | 14 => .int
  | _ => .boolean
abbrev wsX00 : List Cond := u_ws RX0 TX0 16
theorem nmX0 : ∀ a, a < 16 → ∀ b, b < 16 → a ≠ b → (TX0 a).2.1 ≠ (TX0 b).2.1 := by decide +kernel
theorem tyX0_ok : ∀ k, k < 16 → parseFieldDescriptor (TX0 k).2.2.1 = some (tyX0 k) := by decide +kernel
abbrev cX0_init : ByteArray := prog_2_method_1_code
def yX0_init : MethodName := ⟨RX0, "<init>", "()V"⟩
abbrev cX0_become : ByteArray := prog_2_method_2_code
def yX0_become : MethodName := ⟨RX0, "become", "(LGustMill$State;)V"⟩
abbrev cX0_copyRow : ByteArray := prog_2_method_3_code
def yX0_copyRow : MethodName := ⟨RX0, "copyRow", "([I[I)V"⟩
abbrev cX0_placeStone : ByteArray := prog_2_method_4_code
def yX0_placeStone : MethodName := ⟨RX0, "placeStone", "(I)I"⟩
abbrev cX0_storeSack : ByteArray := prog_2_method_5_code
def yX0_storeSack : MethodName := ⟨RX0, "storeSack", "(III)I"⟩
abbrev cX0_run : ByteArray := prog_2_method_6_code
def yX0_run : MethodName := ⟨RX0, "run", "(I)I"⟩
abbrev cX0_takeOffUnwanted : ByteArray := prog_2_method_7_code
def yX0_takeOffUnwanted : MethodName := ⟨RX0, "takeOffUnwanted", "()V"⟩
abbrev cX0_fillStones : ByteArray := prog_2_method_8_code
def yX0_fillStones : MethodName := ⟨RX0, "fillStones", "()V"⟩
abbrev cX0_grind : ByteArray := prog_2_method_9_code
def yX0_grind : MethodName := ⟨RX0, "grind", "()I"⟩
abbrev cX0_finishSacks : ByteArray := prog_2_method_10_code
def yX0_finishSacks : MethodName := ⟨RX0, "finishSacks", "()V"⟩
abbrev cX0_clearStone : ByteArray := prog_2_method_11_code
def yX0_clearStone : MethodName := ⟨RX0, "clearStone", "(I)V"⟩
abbrev cX0_windOfHour : ByteArray := prog_2_method_12_code
def yX0_windOfHour : MethodName := ⟨RX0, "windOfHour", "()I"⟩
abbrev cX0_isGround : ByteArray := prog_2_method_13_code
def yX0_isGround : MethodName := ⟨RX0, "isGround", "(I)Z"⟩
abbrev cX0_firstByRule : ByteArray := prog_2_method_14_code
def yX0_firstByRule : MethodName := ⟨RX0, "firstByRule", "(Z)I"⟩
abbrev cX0_countAhead : ByteArray := prog_2_method_15_code
def yX0_countAhead : MethodName := ⟨RX0, "countAhead", "(I)I"⟩
abbrev cX0_isAhead : ByteArray := prog_2_method_16_code
def yX0_isAhead : MethodName := ⟨RX0, "isAhead", "(II)Z"⟩
abbrev cX0_hoursLate : ByteArray := prog_2_method_17_code
def yX0_hoursLate : MethodName := ⟨RX0, "hoursLate", "()I"⟩
def RX1 : String := "GustMill"
def TX1 : u_T := fun k => match k with
  | 0 => ("GustMill", "now", "LGustMill$State;", true)
  | _ => ("GustMill", "trial", "LGustMill$State;", true)
def tyX1 : Nat → FieldType := fun k => match k with
  | 0 => .object "GustMill$State"
  | _ => .object "GustMill$State"
abbrev wsX10 : List Cond := u_ws RX1 TX1 2
theorem nmX1 : ∀ a, a < 2 → ∀ b, b < 2 → a ≠ b → (TX1 a).2.1 ≠ (TX1 b).2.1 := by decide +kernel
theorem tyX1_ok : ∀ k, k < 2 → parseFieldDescriptor (TX1 k).2.2.1 = some (tyX1 k) := by decide +kernel
abbrev cX1_init : ByteArray := prog_1_method_1_code
def yX1_init : MethodName := ⟨RX1, "<init>", "()V"⟩
abbrev cX1_addStone : ByteArray := prog_1_method_2_code
def yX1_addStone : MethodName := ⟨RX1, "addStone", "(I)I"⟩
abbrev cX1_setWind : ByteArray := prog_1_method_3_code
def yX1_setWind : MethodName := ⟨RX1, "setWind", "(II)I"⟩
abbrev cX1_setRule : ByteArray := prog_1_method_4_code
def yX1_setRule : MethodName := ⟨RX1, "setRule", "(I)I"⟩
abbrev cX1_setTakingOff : ByteArray := prog_1_method_5_code
def yX1_setTakingOff : MethodName := ⟨RX1, "setTakingOff", "(Z)Z"⟩
abbrev cX1_bring : ByteArray := prog_1_method_6_code
def yX1_bring : MethodName := ⟨RX1, "bring", "(III)I"⟩
abbrev cX1_lift : ByteArray := prog_1_method_7_code
def yX1_lift : MethodName := ⟨RX1, "lift", "(I)I"⟩
abbrev cX1_setUntil : ByteArray := prog_1_method_8_code
def yX1_setUntil : MethodName := ⟨RX1, "setUntil", "(II)I"⟩
abbrev cX1_pass : ByteArray := prog_1_method_9_code
def yX1_pass : MethodName := ⟨RX1, "pass", "(I)I"⟩
abbrev cX1_hour : ByteArray := prog_1_method_10_code
def yX1_hour : MethodName := ⟨RX1, "hour", "()I"⟩
abbrev cX1_stones : ByteArray := prog_1_method_11_code
def yX1_stones : MethodName := ⟨RX1, "stones", "()I"⟩
abbrev cX1_sacks : ByteArray := prog_1_method_12_code
def yX1_sacks : MethodName := ⟨RX1, "sacks", "()I"⟩
abbrev cX1_rule : ByteArray := prog_1_method_13_code
def yX1_rule : MethodName := ⟨RX1, "rule", "()I"⟩
abbrev cX1_wind : ByteArray := prog_1_method_14_code
def yX1_wind : MethodName := ⟨RX1, "wind", "()I"⟩
abbrev cX1_sackOn : ByteArray := prog_1_method_15_code
def yX1_sackOn : MethodName := ⟨RX1, "sackOn", "(I)I"⟩
abbrev cX1_stoneOf : ByteArray := prog_1_method_16_code
def yX1_stoneOf : MethodName := ⟨RX1, "stoneOf", "(I)I"⟩
abbrev cX1_leftOf : ByteArray := prog_1_method_17_code
def yX1_leftOf : MethodName := ⟨RX1, "leftOf", "(I)I"⟩
abbrev cX1_untilOf : ByteArray := prog_1_method_18_code
def yX1_untilOf : MethodName := ⟨RX1, "untilOf", "(I)I"⟩
abbrev cX1_groundAt : ByteArray := prog_1_method_19_code
def yX1_groundAt : MethodName := ⟨RX1, "groundAt", "(I)I"⟩
abbrev cX1_ground : ByteArray := prog_1_method_20_code
def yX1_ground : MethodName := ⟨RX1, "ground", "()I"⟩
abbrev cX1_changes : ByteArray := prog_1_method_21_code
def yX1_changes : MethodName := ⟨RX1, "changes", "()I"⟩
abbrev cX1_first : ByteArray := prog_1_method_22_code
def yX1_first : MethodName := ⟨RX1, "first", "()I"⟩
abbrev cX1_placeOf : ByteArray := prog_1_method_23_code
def yX1_placeOf : MethodName := ⟨RX1, "placeOf", "(I)I"⟩
abbrev cX1_leftFor : ByteArray := prog_1_method_24_code
def yX1_leftFor : MethodName := ⟨RX1, "leftFor", "(I)I"⟩
abbrev cX1_late : ByteArray := prog_1_method_25_code
def yX1_late : MethodName := ⟨RX1, "late", "()I"⟩
abbrev cX1_willBeGroundAt : ByteArray := prog_1_method_26_code
def yX1_willBeGroundAt : MethodName := ⟨RX1, "willBeGroundAt", "(I)I"⟩
abbrev cX1_spareOf : ByteArray := prog_1_method_27_code
def yX1_spareOf : MethodName := ⟨RX1, "spareOf", "(I)I"⟩
abbrev cX1_lateWith : ByteArray := prog_1_method_28_code
def yX1_lateWith : MethodName := ⟨RX1, "lateWith", "(IZ)I"⟩
abbrev cX1_bestRule : ByteArray := prog_1_method_29_code
def yX1_bestRule : MethodName := ⟨RX1, "bestRule", "()I"⟩
abbrev cX1_wouldBeInTime : ByteArray := prog_1_method_30_code
def yX1_wouldBeInTime : MethodName := ⟨RX1, "wouldBeInTime", "(II)Z"⟩
abbrev cX1_groundIn : ByteArray := prog_1_method_31_code
def yX1_groundIn : MethodName := ⟨RX1, "groundIn", "(I)I"⟩
abbrev cX1_meanLeft : ByteArray := prog_1_method_32_code
def yX1_meanLeft : MethodName := ⟨RX1, "meanLeft", "()D"⟩
abbrev cX1_digest : ByteArray := prog_1_method_33_code
def yX1_digest : MethodName := ⟨RX1, "digest", "()J"⟩
abbrev cX1_mixSacks : ByteArray := prog_1_method_34_code
def yX1_mixSacks : MethodName := ⟨RX1, "mixSacks", "(J)J"⟩
abbrev cX1_mix : ByteArray := prog_1_method_35_code
def yX1_mix : MethodName := ⟨RX1, "mix", "(JI)J"⟩
abbrev cX1_lookAhead : ByteArray := prog_1_method_36_code
def yX1_lookAhead : MethodName := ⟨RX1, "lookAhead", "()V"⟩
abbrev cX1_requireSack : ByteArray := prog_1_method_37_code
def yX1_requireSack : MethodName := ⟨RX1, "requireSack", "(I)V"⟩
abbrev cX1_requireRule : ByteArray := prog_1_method_38_code
def yX1_requireRule : MethodName := ⟨RX1, "requireRule", "(I)V"⟩
abbrev cX1_requireBaker : ByteArray := prog_1_method_39_code
def yX1_requireBaker : MethodName := ⟨RX1, "requireBaker", "(I)V"⟩
abbrev cX1_requireGrain : ByteArray := prog_1_method_40_code
def yX1_requireGrain : MethodName := ⟨RX1, "requireGrain", "(I)V"⟩
abbrev cX1_requireUntil : ByteArray := prog_1_method_41_code
def yX1_requireUntil : MethodName := ⟨RX1, "requireUntil", "(I)V"⟩
abbrev cX1_requireHours : ByteArray := prog_1_method_42_code
def yX1_requireHours : MethodName := ⟨RX1, "requireHours", "(I)V"⟩
def RX2 : String := "GustMillModel"
def TX2 : u_T := fun k => match k with
  | 0 => ("GustMillModel", "thrown", "I", false)
  | 1 => ("GustMillModel", "stones", "I", false)
  | 2 => ("GustMillModel", "size", "[I", true)
  | 3 => ("GustMillModel", "wind", "[I", true)
  | 4 => ("GustMillModel", "rule", "I", false)
  | 5 => ("GustMillModel", "isAllowed", "Z", false)
  | 6 => ("GustMillModel", "sacks", "I", false)
  | 7 => ("GustMillModel", "baker", "[I", true)
  | 8 => ("GustMillModel", "until", "[I", true)
  | 9 => ("GustMillModel", "now", "[I", true)
  | 10 => ("GustMillModel", "kept", "[I", true)
  | _ => ("GustMillModel", "fresh", "[I", true)
def tyX2 : Nat → FieldType := fun k => match k with
  | 0 => .int
  | 1 => .int
  | 2 => .array .int
  | 3 => .array .int
  | 4 => .int
  | 5 => .boolean
  | 6 => .int
  | 7 => .array .int
  | 8 => .array .int
  | 9 => .array .int
  | 10 => .array .int
  | _ => .array .int
abbrev wsX20 : List Cond := u_ws RX2 TX2 12
theorem nmX2 : ∀ a, a < 12 → ∀ b, b < 12 → a ≠ b → (TX2 a).2.1 ≠ (TX2 b).2.1 := by decide +kernel
theorem tyX2_ok : ∀ k, k < 12 → parseFieldDescriptor (TX2 k).2.2.1 = some (tyX2 k) := by decide +kernel
abbrev cX2_init : ByteArray := prog_4_method_1_code
def yX2_init : MethodName := ⟨RX2, "<init>", "()V"⟩
abbrev cX2_thrown : ByteArray := prog_4_method_2_code
def yX2_thrown : MethodName := ⟨RX2, "thrown", "()I"⟩
abbrev cX2_fail : ByteArray := prog_4_method_3_code
def yX2_fail : MethodName := ⟨RX2, "fail", "(I)I"⟩
abbrev cX2_told : ByteArray := prog_4_method_4_code
def yX2_told : MethodName := ⟨RX2, "told", "(I)I"⟩
abbrev cX2_isIn : ByteArray := prog_4_method_5_code
def yX2_isIn : MethodName := ⟨RX2, "isIn", "(III)Z"⟩
abbrev cX2_isStone : ByteArray := prog_4_method_6_code
def yX2_isStone : MethodName := ⟨RX2, "isStone", "(I)Z"⟩
abbrev cX2_isSack : ByteArray := prog_4_method_7_code
def yX2_isSack : MethodName := ⟨RX2, "isSack", "(I)Z"⟩
abbrev cX2_keep : ByteArray := prog_4_method_8_code
def yX2_keep : MethodName := ⟨RX2, "keep", "()V"⟩
abbrev cX2_bringBack : ByteArray := prog_4_method_9_code
def yX2_bringBack : MethodName := ⟨RX2, "bringBack", "()V"⟩
abbrev cX2_isDone : ByteArray := prog_4_method_10_code
def yX2_isDone : MethodName := ⟨RX2, "isDone", "(I)Z"⟩
abbrev cX2_turn : ByteArray := prog_4_method_11_code
def yX2_turn : MethodName := ⟨RX2, "turn", "(I)I"⟩
abbrev cX2_ahead : ByteArray := prog_4_method_12_code
def yX2_ahead : MethodName := ⟨RX2, "ahead", "(I)I"⟩
abbrev cX2_next : ByteArray := prog_4_method_13_code
def yX2_next : MethodName := ⟨RX2, "next", "(Z)I"⟩
abbrev cX2_on : ByteArray := prog_4_method_14_code
def yX2_on : MethodName := ⟨RX2, "on", "(I)I"⟩
abbrev cX2_hourOn : ByteArray := prog_4_method_15_code
def yX2_hourOn : MethodName := ⟨RX2, "hourOn", "()V"⟩
abbrev cX2_hoursOn : ByteArray := prog_4_method_16_code
def yX2_hoursOn : MethodName := ⟨RX2, "hoursOn", "(I)V"⟩
abbrev cX2_addStone : ByteArray := prog_4_method_17_code
def yX2_addStone : MethodName := ⟨RX2, "addStone", "(I)I"⟩
abbrev cX2_setWind : ByteArray := prog_4_method_18_code
def yX2_setWind : MethodName := ⟨RX2, "setWind", "(II)I"⟩
abbrev cX2_setRule : ByteArray := prog_4_method_19_code
def yX2_setRule : MethodName := ⟨RX2, "setRule", "(I)I"⟩
abbrev cX2_setTakingOff : ByteArray := prog_4_method_20_code
def yX2_setTakingOff : MethodName := ⟨RX2, "setTakingOff", "(Z)Z"⟩
abbrev cX2_put : ByteArray := prog_4_method_21_code
def yX2_put : MethodName := ⟨RX2, "put", "(III)V"⟩
abbrev cX2_bring : ByteArray := prog_4_method_22_code
def yX2_bring : MethodName := ⟨RX2, "bring", "(III)I"⟩
abbrev cX2_lift : ByteArray := prog_4_method_23_code
def yX2_lift : MethodName := ⟨RX2, "lift", "(I)I"⟩
abbrev cX2_setUntil : ByteArray := prog_4_method_24_code
def yX2_setUntil : MethodName := ⟨RX2, "setUntil", "(II)I"⟩
abbrev cX2_pass : ByteArray := prog_4_method_25_code
def yX2_pass : MethodName := ⟨RX2, "pass", "(I)I"⟩
abbrev cX2_hour : ByteArray := prog_4_method_26_code
def yX2_hour : MethodName := ⟨RX2, "hour", "()I"⟩
abbrev cX2_stones : ByteArray := prog_4_method_27_code
def yX2_stones : MethodName := ⟨RX2, "stones", "()I"⟩
abbrev cX2_sacks : ByteArray := prog_4_method_28_code
def yX2_sacks : MethodName := ⟨RX2, "sacks", "()I"⟩
abbrev cX2_rule : ByteArray := prog_4_method_29_code
def yX2_rule : MethodName := ⟨RX2, "rule", "()I"⟩
abbrev cX2_wind : ByteArray := prog_4_method_30_code
def yX2_wind : MethodName := ⟨RX2, "wind", "()I"⟩
abbrev cX2_sackOn : ByteArray := prog_4_method_31_code
def yX2_sackOn : MethodName := ⟨RX2, "sackOn", "(I)I"⟩
abbrev cX2_of : ByteArray := prog_4_method_32_code
def yX2_of : MethodName := ⟨RX2, "of", "(II)I"⟩
abbrev cX2_stoneOf : ByteArray := prog_4_method_33_code
def yX2_stoneOf : MethodName := ⟨RX2, "stoneOf", "(I)I"⟩
abbrev cX2_leftOf : ByteArray := prog_4_method_34_code
def yX2_leftOf : MethodName := ⟨RX2, "leftOf", "(I)I"⟩
abbrev cX2_untilOf : ByteArray := prog_4_method_35_code
def yX2_untilOf : MethodName := ⟨RX2, "untilOf", "(I)I"⟩
abbrev cX2_groundAt : ByteArray := prog_4_method_36_code
def yX2_groundAt : MethodName := ⟨RX2, "groundAt", "(I)I"⟩
abbrev cX2_done : ByteArray := prog_4_method_37_code
def yX2_done : MethodName := ⟨RX2, "done", "()I"⟩
abbrev cX2_ground : ByteArray := prog_4_method_38_code
def yX2_ground : MethodName := ⟨RX2, "ground", "()I"⟩
abbrev cX2_changes : ByteArray := prog_4_method_39_code
def yX2_changes : MethodName := ⟨RX2, "changes", "()I"⟩
abbrev cX2_first : ByteArray := prog_4_method_40_code
def yX2_first : MethodName := ⟨RX2, "first", "()I"⟩
abbrev cX2_place : ByteArray := prog_4_method_41_code
def yX2_place : MethodName := ⟨RX2, "place", "(I)I"⟩
abbrev cX2_placeOf : ByteArray := prog_4_method_42_code
def yX2_placeOf : MethodName := ⟨RX2, "placeOf", "(I)I"⟩
abbrev cX2_rest : ByteArray := prog_4_method_43_code
def yX2_rest : MethodName := ⟨RX2, "rest", "(I)I"⟩
abbrev cX2_leftFor : ByteArray := prog_4_method_44_code
def yX2_leftFor : MethodName := ⟨RX2, "leftFor", "(I)I"⟩
abbrev cX2_lost : ByteArray := prog_4_method_45_code
def yX2_lost : MethodName := ⟨RX2, "lost", "(I)I"⟩
abbrev cX2_late : ByteArray := prog_4_method_46_code
def yX2_late : MethodName := ⟨RX2, "late", "()I"⟩
abbrev cX2_groundThen : ByteArray := prog_4_method_47_code
def yX2_groundThen : MethodName := ⟨RX2, "groundThen", "(I)I"⟩
abbrev cX2_willBeGroundAt : ByteArray := prog_4_method_48_code
def yX2_willBeGroundAt : MethodName := ⟨RX2, "willBeGroundAt", "(I)I"⟩
abbrev cX2_spareOf : ByteArray := prog_4_method_49_code
def yX2_spareOf : MethodName := ⟨RX2, "spareOf", "(I)I"⟩
abbrev cX2_lostBy : ByteArray := prog_4_method_50_code
def yX2_lostBy : MethodName := ⟨RX2, "lostBy", "(IZ)I"⟩
abbrev cX2_lateWith : ByteArray := prog_4_method_51_code
def yX2_lateWith : MethodName := ⟨RX2, "lateWith", "(IZ)I"⟩
abbrev cX2_best : ByteArray := prog_4_method_52_code
def yX2_best : MethodName := ⟨RX2, "best", "()I"⟩
abbrev cX2_bestRule : ByteArray := prog_4_method_53_code
def yX2_bestRule : MethodName := ⟨RX2, "bestRule", "()I"⟩
abbrev cX2_wouldBeInTime : ByteArray := prog_4_method_54_code
def yX2_wouldBeInTime : MethodName := ⟨RX2, "wouldBeInTime", "(II)Z"⟩
abbrev cX2_milledIn : ByteArray := prog_4_method_55_code
def yX2_milledIn : MethodName := ⟨RX2, "milledIn", "(I)I"⟩
abbrev cX2_groundIn : ByteArray := prog_4_method_56_code
def yX2_groundIn : MethodName := ⟨RX2, "groundIn", "(I)I"⟩
abbrev cX2_meanLeft : ByteArray := prog_4_method_57_code
def yX2_meanLeft : MethodName := ⟨RX2, "meanLeft", "()D"⟩
abbrev cX2_digest : ByteArray := prog_4_method_58_code
def yX2_digest : MethodName := ⟨RX2, "digest", "()J"⟩
def RJ9 : String := "java/lang/Math"
def TJ9 : u_T := fun k => match k with
  | _ => ("", "", "", false)
def tyJ9 : Nat → FieldType := fun k => match k with
  | _ => .int
abbrev wsJ90 : List Cond := u_ws RJ9 TJ9 0
theorem nmJ9 : ∀ a, a < 0 → ∀ b, b < 0 → a ≠ b → (TJ9 a).2.1 ≠ (TJ9 b).2.1 := by decide +kernel
theorem tyJ9_ok : ∀ k, k < 0 → parseFieldDescriptor (TJ9 k).2.2.1 = some (tyJ9 k) := by decide +kernel
abbrev cJ9_floorMod_7cf53 : ByteArray := prog_9_method_50_code
def yJ9_floorMod_7cf53 : MethodName := ⟨RJ9, "floorMod", "(II)I"⟩
abbrev cJ9_max_7cf53 : ByteArray := prog_9_method_65_code
def yJ9_max_7cf53 : MethodName := ⟨RJ9, "max", "(II)I"⟩
abbrev cJ9_min_7cf53 : ByteArray := prog_9_method_69_code
def yJ9_min_7cf53 : MethodName := ⟨RJ9, "min", "(II)I"⟩
def RJ0 : String := "java/lang/String"
def TJ0 : u_T := fun k => match k with
  | _ => ("", "", "", false)
def tyJ0 : Nat → FieldType := fun k => match k with
  | _ => .int
abbrev wsJ00 : List Cond := u_ws RJ0 TJ0 0
theorem nmJ0 : ∀ a, a < 0 → ∀ b, b < 0 → a ≠ b → (TJ0 a).2.1 ≠ (TJ0 b).2.1 := by decide +kernel
theorem tyJ0_ok : ∀ k, k < 0 → parseFieldDescriptor (TJ0 k).2.2.1 = some (tyJ0 k) := by decide +kernel
def RJ10 : String := "java/lang/System"
def TJ10 : u_T := fun k => match k with
  | _ => ("", "", "", false)
def tyJ10 : Nat → FieldType := fun k => match k with
  | _ => .int
abbrev wsJ100 : List Cond := u_ws RJ10 TJ10 0
theorem nmJ10 : ∀ a, a < 0 → ∀ b, b < 0 → a ≠ b → (TJ10 a).2.1 ≠ (TJ10 b).2.1 := by decide +kernel
theorem tyJ10_ok : ∀ k, k < 0 → parseFieldDescriptor (TJ10 k).2.2.1 = some (tyJ10 k) := by decide +kernel
def RL : String := "GustMillLaw"
abbrev cL_addStone : ByteArray := method_3_code
def yL_addStone : MethodName := ⟨RL, "addStone", "(LGustMill;I[J)I"⟩
abbrev cL_setWind : ByteArray := method_4_code
def yL_setWind : MethodName := ⟨RL, "setWind", "(LGustMill;II[J)I"⟩
abbrev cL_setRule : ByteArray := method_5_code
def yL_setRule : MethodName := ⟨RL, "setRule", "(LGustMill;I[J)I"⟩
abbrev cL_bring : ByteArray := method_6_code
def yL_bring : MethodName := ⟨RL, "bring", "(LGustMill;III[J)I"⟩
abbrev cL_lift : ByteArray := method_7_code
def yL_lift : MethodName := ⟨RL, "lift", "(LGustMill;I[J)I"⟩
abbrev cL_setUntil : ByteArray := method_8_code
def yL_setUntil : MethodName := ⟨RL, "setUntil", "(LGustMill;II[J)I"⟩
abbrev cL_pass : ByteArray := method_9_code
def yL_pass : MethodName := ⟨RL, "pass", "(LGustMill;I[J)I"⟩
abbrev cL_sackOn : ByteArray := method_10_code
def yL_sackOn : MethodName := ⟨RL, "sackOn", "(LGustMill;I[J)I"⟩
abbrev cL_stoneOf : ByteArray := method_11_code
def yL_stoneOf : MethodName := ⟨RL, "stoneOf", "(LGustMill;I[J)I"⟩
abbrev cL_leftOf : ByteArray := method_12_code
def yL_leftOf : MethodName := ⟨RL, "leftOf", "(LGustMill;I[J)I"⟩
abbrev cL_untilOf : ByteArray := method_13_code
def yL_untilOf : MethodName := ⟨RL, "untilOf", "(LGustMill;I[J)I"⟩
abbrev cL_groundAt : ByteArray := method_14_code
def yL_groundAt : MethodName := ⟨RL, "groundAt", "(LGustMill;I[J)I"⟩
abbrev cL_placeOf : ByteArray := method_15_code
def yL_placeOf : MethodName := ⟨RL, "placeOf", "(LGustMill;I[J)I"⟩
abbrev cL_leftFor : ByteArray := method_16_code
def yL_leftFor : MethodName := ⟨RL, "leftFor", "(LGustMill;I[J)I"⟩
abbrev cL_willBeGroundAt : ByteArray := method_17_code
def yL_willBeGroundAt : MethodName := ⟨RL, "willBeGroundAt", "(LGustMill;I[J)I"⟩
abbrev cL_spareOf : ByteArray := method_18_code
def yL_spareOf : MethodName := ⟨RL, "spareOf", "(LGustMill;I[J)I"⟩
abbrev cL_lateWith : ByteArray := method_19_code
def yL_lateWith : MethodName := ⟨RL, "lateWith", "(LGustMill;IZ[J)I"⟩
abbrev cL_wouldBeInTime : ByteArray := method_20_code
def yL_wouldBeInTime : MethodName := ⟨RL, "wouldBeInTime", "(LGustMill;II[J)I"⟩
abbrev cL_groundIn : ByteArray := method_21_code
def yL_groundIn : MethodName := ⟨RL, "groundIn", "(LGustMill;I[J)I"⟩
abbrev cL_law : ByteArray := code
def yL_law : MethodName := ⟨RL, "law", "([I)Z"⟩
def wsX0_init : List Cond := .code yX0_init cX0_init 2 none :: ([.methodLink RX0 3 objectInit, .instanceMethod objectInit, .code objectInit ⟨#[0xb1]⟩ 1 none, .arrayClass .int, .fieldLink RX0 9 "GustMill$State" "winds" "[I", .fieldLink RX0 15 "GustMill$State" "sizes" "[I", .fieldLink RX0 18 "GustMill$State" "sacksUpon" "[I", .arrayClass .boolean, .fieldLink RX0 21 "GustMill$State" "isFresh" "[Z", .fieldLink RX0 25 "GustMill$State" "bakers" "[I", .fieldLink RX0 28 "GustMill$State" "lefts" "[I", .fieldLink RX0 31 "GustMill$State" "untils" "[I", .fieldLink RX0 34 "GustMill$State" "stonesUnder" "[I", .fieldLink RX0 37 "GustMill$State" "groundHours" "[I", .fieldLink RX0 40 "GustMill$State" "hour" "I", .fieldLink RX0 44 "GustMill$State" "stoneCount" "I", .fieldLink RX0 47 "GustMill$State" "sackCount" "I", .fieldLink RX0 50 "GustMill$State" "groundCount" "I", .fieldLink RX0 53 "GustMill$State" "changeCount" "I", .fieldLink RX0 56 "GustMill$State" "rule" "I", .fieldLink RX0 59 "GustMill$State" "isTakingOff" "Z"] ++ wsX00)
def wsX0_copyRow : List Cond := .code yX0_copyRow cX0_copyRow 3 none :: ([])
def wsX0_become : List Cond := .code yX0_become cX0_become 2 none :: ([.fieldLink RX0 9 "GustMill$State" "winds" "[I", .fieldLink RX0 15 "GustMill$State" "sizes" "[I", .fieldLink RX0 18 "GustMill$State" "sacksUpon" "[I", .fieldLink RX0 25 "GustMill$State" "bakers" "[I", .fieldLink RX0 28 "GustMill$State" "lefts" "[I", .fieldLink RX0 31 "GustMill$State" "untils" "[I", .fieldLink RX0 34 "GustMill$State" "stonesUnder" "[I", .fieldLink RX0 37 "GustMill$State" "groundHours" "[I", .fieldLink RX0 40 "GustMill$State" "hour" "I", .fieldLink RX0 44 "GustMill$State" "stoneCount" "I", .fieldLink RX0 47 "GustMill$State" "sackCount" "I", .fieldLink RX0 50 "GustMill$State" "groundCount" "I", .fieldLink RX0 53 "GustMill$State" "changeCount" "I", .fieldLink RX0 56 "GustMill$State" "rule" "I", .fieldLink RX0 59 "GustMill$State" "isTakingOff" "Z", .methodLink RX0 63 yX0_copyRow, .static yX0_copyRow, .initialized RX0, .code yX0_copyRow cX0_copyRow 3 none] ++ wsX00)
def wsX0_placeStone : List Cond := .code yX0_placeStone cX0_placeStone 3 (some .int) :: ([.fieldLink RX0 44 "GustMill$State" "stoneCount" "I", .fieldLink RX0 15 "GustMill$State" "sizes" "[I", .fieldLink RX0 18 "GustMill$State" "sacksUpon" "[I"] ++ wsX00)
def wsX0_storeSack : List Cond := .code yX0_storeSack cX0_storeSack 5 (some .int) :: ([.fieldLink RX0 47 "GustMill$State" "sackCount" "I", .fieldLink RX0 25 "GustMill$State" "bakers" "[I", .fieldLink RX0 28 "GustMill$State" "lefts" "[I", .fieldLink RX0 31 "GustMill$State" "untils" "[I", .fieldLink RX0 34 "GustMill$State" "stonesUnder" "[I", .fieldLink RX0 37 "GustMill$State" "groundHours" "[I"] ++ wsX00)
def wsX0_isGround : List Cond := .code yX0_isGround cX0_isGround 2 (some .boolean) :: ([.fieldLink RX0 28 "GustMill$State" "lefts" "[I"] ++ wsX00)
def wsX0_isAhead : List Cond := .code yX0_isAhead cX0_isAhead 4 (some .boolean) :: ([.fieldLink RX0 56 "GustMill$State" "rule" "I", .fieldLink RX0 31 "GustMill$State" "untils" "[I", .fieldLink RX0 28 "GustMill$State" "lefts" "[I"] ++ wsX00)
def wsX0_countAhead : List Cond := .code yX0_countAhead cX0_countAhead 4 (some .int) :: ([.fieldLink RX0 47 "GustMill$State" "sackCount" "I", .methodLink RX0 101 yX0_isGround, .instanceMethod yX0_isGround, .selects RX0 yX0_isGround yX0_isGround, .initialized RX0, .code yX0_isGround cX0_isGround 2 (some .boolean), .fieldLink RX0 28 "GustMill$State" "lefts" "[I", .methodLink RX0 108 yX0_isAhead, .instanceMethod yX0_isAhead, .selects RX0 yX0_isAhead yX0_isAhead, .code yX0_isAhead cX0_isAhead 4 (some .boolean), .fieldLink RX0 56 "GustMill$State" "rule" "I", .fieldLink RX0 31 "GustMill$State" "untils" "[I"] ++ wsX00)
def wsX0_clearStone : List Cond := .code yX0_clearStone cX0_clearStone 3 none :: ([.fieldLink RX0 18 "GustMill$State" "sacksUpon" "[I", .fieldLink RX0 34 "GustMill$State" "stonesUnder" "[I"] ++ wsX00)
def wsX0_takeOffUnwanted : List Cond := .code yX0_takeOffUnwanted cX0_takeOffUnwanted 3 none :: ([.fieldLink RX0 44 "GustMill$State" "stoneCount" "I", .fieldLink RX0 18 "GustMill$State" "sacksUpon" "[I", .methodLink RX0 80 yX0_countAhead, .instanceMethod yX0_countAhead, .selects RX0 yX0_countAhead yX0_countAhead, .initialized RX0, .code yX0_countAhead cX0_countAhead 4 (some .int), .fieldLink RX0 47 "GustMill$State" "sackCount" "I", .methodLink RX0 101 yX0_isGround, .instanceMethod yX0_isGround, .selects RX0 yX0_isGround yX0_isGround, .code yX0_isGround cX0_isGround 2 (some .boolean), .fieldLink RX0 28 "GustMill$State" "lefts" "[I", .methodLink RX0 108 yX0_isAhead, .instanceMethod yX0_isAhead, .selects RX0 yX0_isAhead yX0_isAhead, .code yX0_isAhead cX0_isAhead 4 (some .boolean), .fieldLink RX0 56 "GustMill$State" "rule" "I", .fieldLink RX0 31 "GustMill$State" "untils" "[I", .methodLink RX0 84 yX0_clearStone, .instanceMethod yX0_clearStone, .selects RX0 yX0_clearStone yX0_clearStone, .code yX0_clearStone cX0_clearStone 3 none, .fieldLink RX0 34 "GustMill$State" "stonesUnder" "[I"] ++ wsX00)
def wsX0_firstByRule : List Cond := .code yX0_firstByRule cX0_firstByRule 5 (some .int) :: ([.fieldLink RX0 47 "GustMill$State" "sackCount" "I", .fieldLink RX0 34 "GustMill$State" "stonesUnder" "[I", .methodLink RX0 101 yX0_isGround, .instanceMethod yX0_isGround, .selects RX0 yX0_isGround yX0_isGround, .initialized RX0, .code yX0_isGround cX0_isGround 2 (some .boolean), .fieldLink RX0 28 "GustMill$State" "lefts" "[I", .methodLink RX0 108 yX0_isAhead, .instanceMethod yX0_isAhead, .selects RX0 yX0_isAhead yX0_isAhead, .code yX0_isAhead cX0_isAhead 4 (some .boolean), .fieldLink RX0 56 "GustMill$State" "rule" "I", .fieldLink RX0 31 "GustMill$State" "untils" "[I"] ++ wsX00)
def wsX0_fillStones : List Cond := .code yX0_fillStones cX0_fillStones 3 none :: ([.fieldLink RX0 44 "GustMill$State" "stoneCount" "I", .fieldLink RX0 18 "GustMill$State" "sacksUpon" "[I", .fieldLink RX0 21 "GustMill$State" "isFresh" "[Z", .fieldLink RX0 34 "GustMill$State" "stonesUnder" "[I", .fieldLink RX0 53 "GustMill$State" "changeCount" "I", .methodLink RX0 88 yX0_firstByRule, .instanceMethod yX0_firstByRule, .selects RX0 yX0_firstByRule yX0_firstByRule, .initialized RX0, .code yX0_firstByRule cX0_firstByRule 5 (some .int), .fieldLink RX0 47 "GustMill$State" "sackCount" "I", .methodLink RX0 101 yX0_isGround, .instanceMethod yX0_isGround, .selects RX0 yX0_isGround yX0_isGround, .code yX0_isGround cX0_isGround 2 (some .boolean), .fieldLink RX0 28 "GustMill$State" "lefts" "[I", .methodLink RX0 108 yX0_isAhead, .instanceMethod yX0_isAhead, .selects RX0 yX0_isAhead yX0_isAhead, .code yX0_isAhead cX0_isAhead 4 (some .boolean), .fieldLink RX0 56 "GustMill$State" "rule" "I", .fieldLink RX0 31 "GustMill$State" "untils" "[I"] ++ wsX00)
def wsJ9_floorMod_7cf53 : List Cond := .code yJ9_floorMod_7cf53 cJ9_floorMod_7cf53 3 (some .int) :: ([])
def wsX0_windOfHour : List Cond := .code yX0_windOfHour cX0_windOfHour 1 (some .int) :: ([.fieldLink RX0 9 "GustMill$State" "winds" "[I", .fieldLink RX0 40 "GustMill$State" "hour" "I", .methodLink RX0 105 yJ9_floorMod_7cf53, .static yJ9_floorMod_7cf53, .initialized RJ9, .code yJ9_floorMod_7cf53 cJ9_floorMod_7cf53 3 (some .int)] ++ wsX00)
def wsX0_grind : List Cond := .code yX0_grind cX0_grind 7 (some .int) :: ([.fieldLink RX0 44 "GustMill$State" "stoneCount" "I", .fieldLink RX0 18 "GustMill$State" "sacksUpon" "[I", .fieldLink RX0 21 "GustMill$State" "isFresh" "[Z", .fieldLink RX0 15 "GustMill$State" "sizes" "[I", .fieldLink RX0 28 "GustMill$State" "lefts" "[I", .methodLink RX0 95 Lib.Math.min.name, .static Lib.Math.min.name, .initialized "java/lang/Math", .code Lib.Math.min.name Lib.Math.min.code 2 (some .int), .methodLink RX0 92 yX0_windOfHour, .instanceMethod yX0_windOfHour, .selects RX0 yX0_windOfHour yX0_windOfHour, .initialized RX0, .code yX0_windOfHour cX0_windOfHour 1 (some .int), .fieldLink RX0 9 "GustMill$State" "winds" "[I", .fieldLink RX0 40 "GustMill$State" "hour" "I", .methodLink RX0 105 yJ9_floorMod_7cf53, .static yJ9_floorMod_7cf53, .initialized RJ9, .code yJ9_floorMod_7cf53 cJ9_floorMod_7cf53 3 (some .int)] ++ wsX00)
def wsX0_finishSacks : List Cond := .code yX0_finishSacks cX0_finishSacks 3 none :: ([.fieldLink RX0 44 "GustMill$State" "stoneCount" "I", .fieldLink RX0 18 "GustMill$State" "sacksUpon" "[I", .fieldLink RX0 37 "GustMill$State" "groundHours" "[I", .fieldLink RX0 40 "GustMill$State" "hour" "I", .fieldLink RX0 50 "GustMill$State" "groundCount" "I", .methodLink RX0 101 yX0_isGround, .instanceMethod yX0_isGround, .selects RX0 yX0_isGround yX0_isGround, .initialized RX0, .code yX0_isGround cX0_isGround 2 (some .boolean), .fieldLink RX0 28 "GustMill$State" "lefts" "[I", .methodLink RX0 84 yX0_clearStone, .instanceMethod yX0_clearStone, .selects RX0 yX0_clearStone yX0_clearStone, .code yX0_clearStone cX0_clearStone 3 none, .fieldLink RX0 34 "GustMill$State" "stonesUnder" "[I"] ++ wsX00)
def wsX0_run_r1 : List Cond := [Cond.fieldLink RX0 40 "GustMill$State" "hour" "I", Cond.fieldLink RX0 50 "GustMill$State" "groundCount" "I", Cond.fieldLink RX0 47 "GustMill$State" "sackCount" "I", Cond.fieldLink RX0 59 "GustMill$State" "isTakingOff" "Z", Cond.methodLink RX0 67 yX0_takeOffUnwanted, Cond.instanceMethod yX0_takeOffUnwanted, Cond.selects RX0 yX0_takeOffUnwanted yX0_takeOffUnwanted, Cond.initialized RX0, Cond.code yX0_takeOffUnwanted cX0_takeOffUnwanted 3 none, Cond.fieldLink RX0 44 "GustMill$State" "stoneCount" "I", Cond.fieldLink RX0 18 "GustMill$State" "sacksUpon" "[I", Cond.methodLink RX0 80 yX0_countAhead, Cond.instanceMethod yX0_countAhead, Cond.selects RX0 yX0_countAhead yX0_countAhead, Cond.code yX0_countAhead cX0_countAhead 4 (some .int), Cond.methodLink RX0 101 yX0_isGround, Cond.instanceMethod yX0_isGround, Cond.selects RX0 yX0_isGround yX0_isGround, Cond.code yX0_isGround cX0_isGround 2 (some .boolean), Cond.fieldLink RX0 28 "GustMill$State" "lefts" "[I", Cond.methodLink RX0 108 yX0_isAhead, Cond.instanceMethod yX0_isAhead, Cond.selects RX0 yX0_isAhead yX0_isAhead, Cond.code yX0_isAhead cX0_isAhead 4 (some .boolean)]
def wsX0_run_r2 : List Cond := [Cond.fieldLink RX0 56 "GustMill$State" "rule" "I", Cond.fieldLink RX0 31 "GustMill$State" "untils" "[I", Cond.methodLink RX0 84 yX0_clearStone, Cond.instanceMethod yX0_clearStone, Cond.selects RX0 yX0_clearStone yX0_clearStone, Cond.code yX0_clearStone cX0_clearStone 3 none, Cond.fieldLink RX0 34 "GustMill$State" "stonesUnder" "[I", Cond.methodLink RX0 70 yX0_fillStones, Cond.instanceMethod yX0_fillStones, Cond.selects RX0 yX0_fillStones yX0_fillStones, Cond.code yX0_fillStones cX0_fillStones 3 none, Cond.fieldLink RX0 21 "GustMill$State" "isFresh" "[Z", Cond.fieldLink RX0 53 "GustMill$State" "changeCount" "I", Cond.methodLink RX0 88 yX0_firstByRule, Cond.instanceMethod yX0_firstByRule, Cond.selects RX0 yX0_firstByRule yX0_firstByRule, Cond.code yX0_firstByRule cX0_firstByRule 5 (some .int), Cond.methodLink RX0 73 yX0_grind, Cond.instanceMethod yX0_grind, Cond.selects RX0 yX0_grind yX0_grind, Cond.code yX0_grind cX0_grind 7 (some .int), Cond.fieldLink RX0 15 "GustMill$State" "sizes" "[I", Cond.methodLink RX0 95 Lib.Math.min.name, Cond.static Lib.Math.min.name]
def wsX0_run_r3 : List Cond := [Cond.initialized "java/lang/Math", Cond.code Lib.Math.min.name Lib.Math.min.code 2 (some .int), Cond.methodLink RX0 92 yX0_windOfHour, Cond.instanceMethod yX0_windOfHour, Cond.selects RX0 yX0_windOfHour yX0_windOfHour, Cond.code yX0_windOfHour cX0_windOfHour 1 (some .int), Cond.fieldLink RX0 9 "GustMill$State" "winds" "[I", Cond.methodLink RX0 105 yJ9_floorMod_7cf53, Cond.static yJ9_floorMod_7cf53, Cond.initialized RJ9, Cond.code yJ9_floorMod_7cf53 cJ9_floorMod_7cf53 3 (some .int), Cond.methodLink RX0 77 yX0_finishSacks, Cond.instanceMethod yX0_finishSacks, Cond.selects RX0 yX0_finishSacks yX0_finishSacks, Cond.code yX0_finishSacks cX0_finishSacks 3 none, Cond.fieldLink RX0 37 "GustMill$State" "groundHours" "[I"]
def wsX0_run : List Cond := .code yX0_run cX0_run 5 (some .int) :: ((wsX0_run_r1 ++ (wsX0_run_r2 ++ wsX0_run_r3)) ++ wsX00)
def wsX0_hoursLate : List Cond := .code yX0_hoursLate cX0_hoursLate 3 (some .int) :: ([.fieldLink RX0 47 "GustMill$State" "sackCount" "I", .fieldLink RX0 37 "GustMill$State" "groundHours" "[I", .fieldLink RX0 31 "GustMill$State" "untils" "[I", .methodLink RX0 112 Lib.Math.max.name, .static Lib.Math.max.name, .initialized "java/lang/Math", .code Lib.Math.max.name Lib.Math.max.code 2 (some .int), .methodLink RX0 101 yX0_isGround, .instanceMethod yX0_isGround, .selects RX0 yX0_isGround yX0_isGround, .initialized RX0, .code yX0_isGround cX0_isGround 2 (some .boolean), .fieldLink RX0 28 "GustMill$State" "lefts" "[I"] ++ wsX00)
def wsX1_init_r1 : List Cond := [Cond.methodLink RX1 1 objectInit, Cond.instanceMethod objectInit, Cond.code objectInit ⟨#[0xb1]⟩ 1 none, Cond.classLink RX1 7 RX0, Cond.instantiable RX0 16, Cond.initialized RX0, Cond.fieldLink RX1 10 "GustMill" "now" "LGustMill$State;", Cond.fieldLink RX1 16 "GustMill" "trial" "LGustMill$State;", Cond.methodLink RX1 9 yX0_init, Cond.instanceMethod yX0_init, Cond.code yX0_init cX0_init 2 none, Cond.methodLink RX0 3 objectInit, Cond.arrayClass .int, Cond.fieldLink RX0 9 "GustMill$State" "winds" "[I", Cond.fieldLink RX0 15 "GustMill$State" "sizes" "[I", Cond.fieldLink RX0 18 "GustMill$State" "sacksUpon" "[I", Cond.arrayClass .boolean, Cond.fieldLink RX0 21 "GustMill$State" "isFresh" "[Z", Cond.fieldLink RX0 25 "GustMill$State" "bakers" "[I", Cond.fieldLink RX0 28 "GustMill$State" "lefts" "[I", Cond.fieldLink RX0 31 "GustMill$State" "untils" "[I", Cond.fieldLink RX0 34 "GustMill$State" "stonesUnder" "[I", Cond.fieldLink RX0 37 "GustMill$State" "groundHours" "[I", Cond.fieldLink RX0 40 "GustMill$State" "hour" "I"]
def wsX1_init_r2 : List Cond := [Cond.fieldLink RX0 44 "GustMill$State" "stoneCount" "I", Cond.fieldLink RX0 47 "GustMill$State" "sackCount" "I", Cond.fieldLink RX0 50 "GustMill$State" "groundCount" "I", Cond.fieldLink RX0 53 "GustMill$State" "changeCount" "I", Cond.fieldLink RX0 56 "GustMill$State" "rule" "I", Cond.fieldLink RX0 59 "GustMill$State" "isTakingOff" "Z"]
def wsX1_init : List Cond := .code yX1_init cX1_init 1 none :: ((wsX1_init_r1 ++ wsX1_init_r2) ++ wsX00 ++ wsX10)
def wsX1_addStone : List Cond := .code yX1_addStone cX1_addStone 2 (some .int) :: ([.classLink RX1 19 "java/lang/IllegalArgumentException", .initialized "java/lang/IllegalArgumentException", .classLink RX1 30 "java/lang/IllegalStateException", .initialized "java/lang/IllegalStateException", .fieldLink RX1 10 "GustMill" "now" "LGustMill$State;", .methodLink RX1 35 yX0_placeStone, .instanceMethod yX0_placeStone, .selects RX0 yX0_placeStone yX0_placeStone, .initialized RX0, .code yX0_placeStone cX0_placeStone 3 (some .int), .fieldLink RX0 44 "GustMill$State" "stoneCount" "I", .fieldLink RX0 15 "GustMill$State" "sizes" "[I", .fieldLink RX0 18 "GustMill$State" "sacksUpon" "[I"] ++ wsX10 ++ wsX00 ++ (vx_atS RX1 23 "java/lang/IllegalArgumentException" ["java/lang/RuntimeException", "java/lang/Exception"]).filter goodWord ++ (vx_atS RX1 34 "java/lang/IllegalStateException" ["java/lang/RuntimeException", "java/lang/Exception"]).filter goodWord)
def wsX1_setWind : List Cond := .code yX1_setWind cX1_setWind 4 (some .int) :: ([.classLink RX1 39 "java/lang/IndexOutOfBoundsException", .initialized "java/lang/IndexOutOfBoundsException", .classLink RX1 19 "java/lang/IllegalArgumentException", .initialized "java/lang/IllegalArgumentException", .fieldLink RX1 10 "GustMill" "now" "LGustMill$State;"] ++ wsX10 ++ wsX00 ++ (vx_atS RX1 43 "java/lang/IndexOutOfBoundsException" ["java/lang/RuntimeException", "java/lang/Exception"]).filter goodWord ++ (vx_atS RX1 23 "java/lang/IllegalArgumentException" ["java/lang/RuntimeException", "java/lang/Exception"]).filter goodWord)
def wsX1_requireRule : List Cond := .code yX1_requireRule cX1_requireRule 1 none :: ([.classLink RX1 19 "java/lang/IllegalArgumentException", .initialized "java/lang/IllegalArgumentException"] ++ (vx_atS RX1 23 "java/lang/IllegalArgumentException" ["java/lang/RuntimeException", "java/lang/Exception"]).filter goodWord)
def wsX1_setRule : List Cond := .code yX1_setRule cX1_setRule 3 (some .int) :: ([.fieldLink RX1 10 "GustMill" "now" "LGustMill$State;", .methodLink RX1 50 yX1_requireRule, .static yX1_requireRule, .initialized RX1, .code yX1_requireRule cX1_requireRule 1 none, .classLink RX1 19 "java/lang/IllegalArgumentException", .initialized "java/lang/IllegalArgumentException"] ++ wsX10 ++ wsX00 ++ (vx_atS RX1 23 "java/lang/IllegalArgumentException" ["java/lang/RuntimeException", "java/lang/Exception"]).filter goodWord)
def wsX1_setTakingOff : List Cond := .code yX1_setTakingOff cX1_setTakingOff 3 (some .boolean) :: ([.fieldLink RX1 10 "GustMill" "now" "LGustMill$State;"] ++ wsX10 ++ wsX00)
def wsX1_requireBaker : List Cond := .code yX1_requireBaker cX1_requireBaker 1 none :: ([.classLink RX1 19 "java/lang/IllegalArgumentException", .initialized "java/lang/IllegalArgumentException"] ++ (vx_atS RX1 23 "java/lang/IllegalArgumentException" ["java/lang/RuntimeException", "java/lang/Exception"]).filter goodWord)
def wsX1_requireGrain : List Cond := .code yX1_requireGrain cX1_requireGrain 1 none :: ([.classLink RX1 19 "java/lang/IllegalArgumentException", .initialized "java/lang/IllegalArgumentException"] ++ (vx_atS RX1 23 "java/lang/IllegalArgumentException" ["java/lang/RuntimeException", "java/lang/Exception"]).filter goodWord)
def wsX1_requireUntil : List Cond := .code yX1_requireUntil cX1_requireUntil 1 none :: ([.classLink RX1 19 "java/lang/IllegalArgumentException", .initialized "java/lang/IllegalArgumentException"] ++ (vx_atS RX1 23 "java/lang/IllegalArgumentException" ["java/lang/RuntimeException", "java/lang/Exception"]).filter goodWord)
def wsX1_bring_r1 : List Cond := [Cond.classLink RX1 30 "java/lang/IllegalStateException", Cond.initialized "java/lang/IllegalStateException", Cond.fieldLink RX1 10 "GustMill" "now" "LGustMill$State;", Cond.methodLink RX1 61 yX1_requireBaker, Cond.static yX1_requireBaker, Cond.initialized RX1, Cond.code yX1_requireBaker cX1_requireBaker 1 none, Cond.classLink RX1 19 "java/lang/IllegalArgumentException", Cond.initialized "java/lang/IllegalArgumentException", Cond.methodLink RX1 64 yX1_requireGrain, Cond.static yX1_requireGrain, Cond.code yX1_requireGrain cX1_requireGrain 1 none, Cond.methodLink RX1 67 yX1_requireUntil, Cond.static yX1_requireUntil, Cond.code yX1_requireUntil cX1_requireUntil 1 none, Cond.methodLink RX1 75 yX0_storeSack, Cond.instanceMethod yX0_storeSack, Cond.selects RX0 yX0_storeSack yX0_storeSack, Cond.initialized RX0, Cond.code yX0_storeSack cX0_storeSack 5 (some .int), Cond.fieldLink RX0 47 "GustMill$State" "sackCount" "I", Cond.fieldLink RX0 25 "GustMill$State" "bakers" "[I", Cond.fieldLink RX0 28 "GustMill$State" "lefts" "[I", Cond.fieldLink RX0 31 "GustMill$State" "untils" "[I"]
def wsX1_bring_r2 : List Cond := [Cond.fieldLink RX0 34 "GustMill$State" "stonesUnder" "[I", Cond.fieldLink RX0 37 "GustMill$State" "groundHours" "[I"]
def wsX1_bring : List Cond := .code yX1_bring cX1_bring 4 (some .int) :: ((wsX1_bring_r1 ++ wsX1_bring_r2) ++ wsX10 ++ wsX00 ++ (vx_atS RX1 34 "java/lang/IllegalStateException" ["java/lang/RuntimeException", "java/lang/Exception"]).filter goodWord ++ (vx_atS RX1 23 "java/lang/IllegalArgumentException" ["java/lang/RuntimeException", "java/lang/Exception"]).filter goodWord)
def wsX1_requireSack : List Cond := .code yX1_requireSack cX1_requireSack 2 none :: ([.classLink RX1 39 "java/lang/IndexOutOfBoundsException", .initialized "java/lang/IndexOutOfBoundsException", .fieldLink RX1 10 "GustMill" "now" "LGustMill$State;"] ++ wsX10 ++ wsX00 ++ (vx_atS RX1 43 "java/lang/IndexOutOfBoundsException" ["java/lang/RuntimeException", "java/lang/Exception"]).filter goodWord)
def wsX1_lift : List Cond := .code yX1_lift cX1_lift 3 (some .int) :: ([.classLink RX1 30 "java/lang/IllegalStateException", .initialized "java/lang/IllegalStateException", .fieldLink RX1 10 "GustMill" "now" "LGustMill$State;", .methodLink RX1 79 yX1_requireSack, .instanceMethod yX1_requireSack, .selects RX1 yX1_requireSack yX1_requireSack, .initialized RX1, .code yX1_requireSack cX1_requireSack 2 none, .classLink RX1 39 "java/lang/IndexOutOfBoundsException", .initialized "java/lang/IndexOutOfBoundsException", .methodLink RX1 87 yX0_clearStone, .instanceMethod yX0_clearStone, .selects RX0 yX0_clearStone yX0_clearStone, .initialized RX0, .code yX0_clearStone cX0_clearStone 3 none, .fieldLink RX0 18 "GustMill$State" "sacksUpon" "[I", .fieldLink RX0 34 "GustMill$State" "stonesUnder" "[I"] ++ wsX10 ++ wsX00 ++ (vx_atS RX1 34 "java/lang/IllegalStateException" ["java/lang/RuntimeException", "java/lang/Exception"]).filter goodWord ++ (vx_atS RX1 43 "java/lang/IndexOutOfBoundsException" ["java/lang/RuntimeException", "java/lang/Exception"]).filter goodWord)
def wsX1_setUntil : List Cond := .code yX1_setUntil cX1_setUntil 4 (some .int) :: ([.fieldLink RX1 10 "GustMill" "now" "LGustMill$State;", .methodLink RX1 79 yX1_requireSack, .instanceMethod yX1_requireSack, .selects RX1 yX1_requireSack yX1_requireSack, .initialized RX1, .code yX1_requireSack cX1_requireSack 2 none, .classLink RX1 39 "java/lang/IndexOutOfBoundsException", .initialized "java/lang/IndexOutOfBoundsException", .methodLink RX1 67 yX1_requireUntil, .static yX1_requireUntil, .code yX1_requireUntil cX1_requireUntil 1 none, .classLink RX1 19 "java/lang/IllegalArgumentException", .initialized "java/lang/IllegalArgumentException"] ++ wsX10 ++ wsX00 ++ (vx_atS RX1 43 "java/lang/IndexOutOfBoundsException" ["java/lang/RuntimeException", "java/lang/Exception"]).filter goodWord ++ (vx_atS RX1 23 "java/lang/IllegalArgumentException" ["java/lang/RuntimeException", "java/lang/Exception"]).filter goodWord)
def wsX1_requireHours : List Cond := .code yX1_requireHours cX1_requireHours 1 none :: ([.classLink RX1 19 "java/lang/IllegalArgumentException", .initialized "java/lang/IllegalArgumentException"] ++ (vx_atS RX1 23 "java/lang/IllegalArgumentException" ["java/lang/RuntimeException", "java/lang/Exception"]).filter goodWord)
def wsX1_pass_r1 : List Cond := [Cond.fieldLink RX1 10 "GustMill" "now" "LGustMill$State;", Cond.methodLink RX1 93 yX1_requireHours, Cond.static yX1_requireHours, Cond.initialized RX1, Cond.code yX1_requireHours cX1_requireHours 1 none, Cond.classLink RX1 19 "java/lang/IllegalArgumentException", Cond.initialized "java/lang/IllegalArgumentException", Cond.methodLink RX1 96 yX0_run, Cond.instanceMethod yX0_run, Cond.selects RX0 yX0_run yX0_run, Cond.initialized RX0, Cond.code yX0_run cX0_run 5 (some .int), Cond.fieldLink RX0 40 "GustMill$State" "hour" "I", Cond.fieldLink RX0 50 "GustMill$State" "groundCount" "I", Cond.fieldLink RX0 47 "GustMill$State" "sackCount" "I", Cond.fieldLink RX0 59 "GustMill$State" "isTakingOff" "Z", Cond.methodLink RX0 67 yX0_takeOffUnwanted, Cond.instanceMethod yX0_takeOffUnwanted, Cond.selects RX0 yX0_takeOffUnwanted yX0_takeOffUnwanted, Cond.code yX0_takeOffUnwanted cX0_takeOffUnwanted 3 none, Cond.fieldLink RX0 44 "GustMill$State" "stoneCount" "I", Cond.fieldLink RX0 18 "GustMill$State" "sacksUpon" "[I", Cond.methodLink RX0 80 yX0_countAhead, Cond.instanceMethod yX0_countAhead]
def wsX1_pass_r2 : List Cond := [Cond.selects RX0 yX0_countAhead yX0_countAhead, Cond.code yX0_countAhead cX0_countAhead 4 (some .int), Cond.methodLink RX0 101 yX0_isGround, Cond.instanceMethod yX0_isGround, Cond.selects RX0 yX0_isGround yX0_isGround, Cond.code yX0_isGround cX0_isGround 2 (some .boolean), Cond.fieldLink RX0 28 "GustMill$State" "lefts" "[I", Cond.methodLink RX0 108 yX0_isAhead, Cond.instanceMethod yX0_isAhead, Cond.selects RX0 yX0_isAhead yX0_isAhead, Cond.code yX0_isAhead cX0_isAhead 4 (some .boolean), Cond.fieldLink RX0 56 "GustMill$State" "rule" "I", Cond.fieldLink RX0 31 "GustMill$State" "untils" "[I", Cond.methodLink RX0 84 yX0_clearStone, Cond.instanceMethod yX0_clearStone, Cond.selects RX0 yX0_clearStone yX0_clearStone, Cond.code yX0_clearStone cX0_clearStone 3 none, Cond.fieldLink RX0 34 "GustMill$State" "stonesUnder" "[I", Cond.methodLink RX0 70 yX0_fillStones, Cond.instanceMethod yX0_fillStones, Cond.selects RX0 yX0_fillStones yX0_fillStones, Cond.code yX0_fillStones cX0_fillStones 3 none, Cond.fieldLink RX0 21 "GustMill$State" "isFresh" "[Z", Cond.fieldLink RX0 53 "GustMill$State" "changeCount" "I"]
def wsX1_pass_r3 : List Cond := [Cond.methodLink RX0 88 yX0_firstByRule, Cond.instanceMethod yX0_firstByRule, Cond.selects RX0 yX0_firstByRule yX0_firstByRule, Cond.code yX0_firstByRule cX0_firstByRule 5 (some .int), Cond.methodLink RX0 73 yX0_grind, Cond.instanceMethod yX0_grind, Cond.selects RX0 yX0_grind yX0_grind, Cond.code yX0_grind cX0_grind 7 (some .int), Cond.fieldLink RX0 15 "GustMill$State" "sizes" "[I", Cond.methodLink RX0 95 Lib.Math.min.name, Cond.static Lib.Math.min.name, Cond.initialized "java/lang/Math", Cond.code Lib.Math.min.name Lib.Math.min.code 2 (some .int), Cond.methodLink RX0 92 yX0_windOfHour, Cond.instanceMethod yX0_windOfHour, Cond.selects RX0 yX0_windOfHour yX0_windOfHour, Cond.code yX0_windOfHour cX0_windOfHour 1 (some .int), Cond.fieldLink RX0 9 "GustMill$State" "winds" "[I", Cond.methodLink RX0 105 yJ9_floorMod_7cf53, Cond.static yJ9_floorMod_7cf53, Cond.initialized RJ9, Cond.code yJ9_floorMod_7cf53 cJ9_floorMod_7cf53 3 (some .int), Cond.methodLink RX0 77 yX0_finishSacks, Cond.instanceMethod yX0_finishSacks]
def wsX1_pass_r4 : List Cond := [Cond.selects RX0 yX0_finishSacks yX0_finishSacks, Cond.code yX0_finishSacks cX0_finishSacks 3 none, Cond.fieldLink RX0 37 "GustMill$State" "groundHours" "[I"]
def wsX1_pass : List Cond := .code yX1_pass cX1_pass 2 (some .int) :: ((wsX1_pass_r1 ++ (wsX1_pass_r2 ++ (wsX1_pass_r3 ++ wsX1_pass_r4))) ++ wsX10 ++ wsX00 ++ (vx_atS RX1 23 "java/lang/IllegalArgumentException" ["java/lang/RuntimeException", "java/lang/Exception"]).filter goodWord)
def wsX1_hour : List Cond := .code yX1_hour cX1_hour 1 (some .int) :: ([.fieldLink RX1 10 "GustMill" "now" "LGustMill$State;"] ++ wsX10 ++ wsX00)
def wsX1_stones : List Cond := .code yX1_stones cX1_stones 1 (some .int) :: ([.fieldLink RX1 10 "GustMill" "now" "LGustMill$State;"] ++ wsX10 ++ wsX00)
def wsX1_sacks : List Cond := .code yX1_sacks cX1_sacks 1 (some .int) :: ([.fieldLink RX1 10 "GustMill" "now" "LGustMill$State;"] ++ wsX10 ++ wsX00)
def wsX1_rule : List Cond := .code yX1_rule cX1_rule 1 (some .int) :: ([.fieldLink RX1 10 "GustMill" "now" "LGustMill$State;"] ++ wsX10 ++ wsX00)
def wsX1_wind : List Cond := .code yX1_wind cX1_wind 1 (some .int) :: ([.fieldLink RX1 10 "GustMill" "now" "LGustMill$State;", .methodLink RX1 102 yX0_windOfHour, .instanceMethod yX0_windOfHour, .selects RX0 yX0_windOfHour yX0_windOfHour, .initialized RX0, .code yX0_windOfHour cX0_windOfHour 1 (some .int), .fieldLink RX0 9 "GustMill$State" "winds" "[I", .fieldLink RX0 40 "GustMill$State" "hour" "I", .methodLink RX0 105 yJ9_floorMod_7cf53, .static yJ9_floorMod_7cf53, .initialized RJ9, .code yJ9_floorMod_7cf53 cJ9_floorMod_7cf53 3 (some .int)] ++ wsX10 ++ wsX00)
def wsX1_sackOn : List Cond := .code yX1_sackOn cX1_sackOn 2 (some .int) :: ([.classLink RX1 39 "java/lang/IndexOutOfBoundsException", .initialized "java/lang/IndexOutOfBoundsException", .fieldLink RX1 10 "GustMill" "now" "LGustMill$State;"] ++ wsX10 ++ wsX00 ++ (vx_atS RX1 43 "java/lang/IndexOutOfBoundsException" ["java/lang/RuntimeException", "java/lang/Exception"]).filter goodWord)
def wsX1_stoneOf : List Cond := .code yX1_stoneOf cX1_stoneOf 2 (some .int) :: ([.fieldLink RX1 10 "GustMill" "now" "LGustMill$State;", .methodLink RX1 79 yX1_requireSack, .instanceMethod yX1_requireSack, .selects RX1 yX1_requireSack yX1_requireSack, .initialized RX1, .code yX1_requireSack cX1_requireSack 2 none, .classLink RX1 39 "java/lang/IndexOutOfBoundsException", .initialized "java/lang/IndexOutOfBoundsException"] ++ wsX10 ++ wsX00 ++ (vx_atS RX1 43 "java/lang/IndexOutOfBoundsException" ["java/lang/RuntimeException", "java/lang/Exception"]).filter goodWord)
def wsX1_leftOf : List Cond := .code yX1_leftOf cX1_leftOf 2 (some .int) :: ([.fieldLink RX1 10 "GustMill" "now" "LGustMill$State;", .methodLink RX1 79 yX1_requireSack, .instanceMethod yX1_requireSack, .selects RX1 yX1_requireSack yX1_requireSack, .initialized RX1, .code yX1_requireSack cX1_requireSack 2 none, .classLink RX1 39 "java/lang/IndexOutOfBoundsException", .initialized "java/lang/IndexOutOfBoundsException"] ++ wsX10 ++ wsX00 ++ (vx_atS RX1 43 "java/lang/IndexOutOfBoundsException" ["java/lang/RuntimeException", "java/lang/Exception"]).filter goodWord)
def wsX1_untilOf : List Cond := .code yX1_untilOf cX1_untilOf 2 (some .int) :: ([.fieldLink RX1 10 "GustMill" "now" "LGustMill$State;", .methodLink RX1 79 yX1_requireSack, .instanceMethod yX1_requireSack, .selects RX1 yX1_requireSack yX1_requireSack, .initialized RX1, .code yX1_requireSack cX1_requireSack 2 none, .classLink RX1 39 "java/lang/IndexOutOfBoundsException", .initialized "java/lang/IndexOutOfBoundsException"] ++ wsX10 ++ wsX00 ++ (vx_atS RX1 43 "java/lang/IndexOutOfBoundsException" ["java/lang/RuntimeException", "java/lang/Exception"]).filter goodWord)
def wsX1_groundAt : List Cond := .code yX1_groundAt cX1_groundAt 2 (some .int) :: ([.fieldLink RX1 10 "GustMill" "now" "LGustMill$State;", .methodLink RX1 79 yX1_requireSack, .instanceMethod yX1_requireSack, .selects RX1 yX1_requireSack yX1_requireSack, .initialized RX1, .code yX1_requireSack cX1_requireSack 2 none, .classLink RX1 39 "java/lang/IndexOutOfBoundsException", .initialized "java/lang/IndexOutOfBoundsException"] ++ wsX10 ++ wsX00 ++ (vx_atS RX1 43 "java/lang/IndexOutOfBoundsException" ["java/lang/RuntimeException", "java/lang/Exception"]).filter goodWord)
def wsX1_ground : List Cond := .code yX1_ground cX1_ground 1 (some .int) :: ([.fieldLink RX1 10 "GustMill" "now" "LGustMill$State;"] ++ wsX10 ++ wsX00)
def wsX1_changes : List Cond := .code yX1_changes cX1_changes 1 (some .int) :: ([.fieldLink RX1 10 "GustMill" "now" "LGustMill$State;"] ++ wsX10 ++ wsX00)
def wsX1_first : List Cond := .code yX1_first cX1_first 1 (some .int) :: ([.fieldLink RX1 10 "GustMill" "now" "LGustMill$State;", .methodLink RX1 123 yX0_firstByRule, .instanceMethod yX0_firstByRule, .selects RX0 yX0_firstByRule yX0_firstByRule, .initialized RX0, .code yX0_firstByRule cX0_firstByRule 5 (some .int), .fieldLink RX0 47 "GustMill$State" "sackCount" "I", .fieldLink RX0 34 "GustMill$State" "stonesUnder" "[I", .methodLink RX0 101 yX0_isGround, .instanceMethod yX0_isGround, .selects RX0 yX0_isGround yX0_isGround, .code yX0_isGround cX0_isGround 2 (some .boolean), .fieldLink RX0 28 "GustMill$State" "lefts" "[I", .methodLink RX0 108 yX0_isAhead, .instanceMethod yX0_isAhead, .selects RX0 yX0_isAhead yX0_isAhead, .code yX0_isAhead cX0_isAhead 4 (some .boolean), .fieldLink RX0 56 "GustMill$State" "rule" "I", .fieldLink RX0 31 "GustMill$State" "untils" "[I"] ++ wsX10 ++ wsX00)
def wsX1_placeOf_r1 : List Cond := [Cond.fieldLink RX1 10 "GustMill" "now" "LGustMill$State;", Cond.methodLink RX1 79 yX1_requireSack, Cond.instanceMethod yX1_requireSack, Cond.selects RX1 yX1_requireSack yX1_requireSack, Cond.initialized RX1, Cond.code yX1_requireSack cX1_requireSack 2 none, Cond.classLink RX1 39 "java/lang/IndexOutOfBoundsException", Cond.initialized "java/lang/IndexOutOfBoundsException", Cond.methodLink RX1 127 yX0_isGround, Cond.instanceMethod yX0_isGround, Cond.selects RX0 yX0_isGround yX0_isGround, Cond.initialized RX0, Cond.code yX0_isGround cX0_isGround 2 (some .boolean), Cond.fieldLink RX0 28 "GustMill$State" "lefts" "[I", Cond.methodLink RX1 131 yX0_countAhead, Cond.instanceMethod yX0_countAhead, Cond.selects RX0 yX0_countAhead yX0_countAhead, Cond.code yX0_countAhead cX0_countAhead 4 (some .int), Cond.fieldLink RX0 47 "GustMill$State" "sackCount" "I", Cond.methodLink RX0 101 yX0_isGround, Cond.methodLink RX0 108 yX0_isAhead, Cond.instanceMethod yX0_isAhead, Cond.selects RX0 yX0_isAhead yX0_isAhead, Cond.code yX0_isAhead cX0_isAhead 4 (some .boolean)]
def wsX1_placeOf_r2 : List Cond := [Cond.fieldLink RX0 56 "GustMill$State" "rule" "I", Cond.fieldLink RX0 31 "GustMill$State" "untils" "[I"]
def wsX1_placeOf : List Cond := .code yX1_placeOf cX1_placeOf 2 (some .int) :: ((wsX1_placeOf_r1 ++ wsX1_placeOf_r2) ++ wsX10 ++ wsX00 ++ (vx_atS RX1 43 "java/lang/IndexOutOfBoundsException" ["java/lang/RuntimeException", "java/lang/Exception"]).filter goodWord)
def wsX1_leftFor : List Cond := .code yX1_leftFor cX1_leftFor 4 (some .int) :: ([.fieldLink RX1 10 "GustMill" "now" "LGustMill$State;", .methodLink RX1 61 yX1_requireBaker, .static yX1_requireBaker, .initialized RX1, .code yX1_requireBaker cX1_requireBaker 1 none, .classLink RX1 19 "java/lang/IllegalArgumentException", .initialized "java/lang/IllegalArgumentException"] ++ wsX10 ++ wsX00 ++ (vx_atS RX1 23 "java/lang/IllegalArgumentException" ["java/lang/RuntimeException", "java/lang/Exception"]).filter goodWord)
def wsX1_late : List Cond := .code yX1_late cX1_late 1 (some .int) :: ([.fieldLink RX1 10 "GustMill" "now" "LGustMill$State;", .methodLink RX1 137 yX0_hoursLate, .instanceMethod yX0_hoursLate, .selects RX0 yX0_hoursLate yX0_hoursLate, .initialized RX0, .code yX0_hoursLate cX0_hoursLate 3 (some .int), .fieldLink RX0 47 "GustMill$State" "sackCount" "I", .fieldLink RX0 37 "GustMill$State" "groundHours" "[I", .fieldLink RX0 31 "GustMill$State" "untils" "[I", .methodLink RX0 112 Lib.Math.max.name, .static Lib.Math.max.name, .initialized "java/lang/Math", .code Lib.Math.max.name Lib.Math.max.code 2 (some .int), .methodLink RX0 101 yX0_isGround, .instanceMethod yX0_isGround, .selects RX0 yX0_isGround yX0_isGround, .code yX0_isGround cX0_isGround 2 (some .boolean), .fieldLink RX0 28 "GustMill$State" "lefts" "[I"] ++ wsX10 ++ wsX00)
def wsX1_lookAhead_r1 : List Cond := [Cond.fieldLink RX1 16 "GustMill" "trial" "LGustMill$State;", Cond.fieldLink RX1 10 "GustMill" "now" "LGustMill$State;", Cond.methodLink RX1 143 yX0_become, Cond.instanceMethod yX0_become, Cond.selects RX0 yX0_become yX0_become, Cond.initialized RX0, Cond.code yX0_become cX0_become 2 none, Cond.fieldLink RX0 9 "GustMill$State" "winds" "[I", Cond.fieldLink RX0 15 "GustMill$State" "sizes" "[I", Cond.fieldLink RX0 18 "GustMill$State" "sacksUpon" "[I", Cond.fieldLink RX0 25 "GustMill$State" "bakers" "[I", Cond.fieldLink RX0 28 "GustMill$State" "lefts" "[I", Cond.fieldLink RX0 31 "GustMill$State" "untils" "[I", Cond.fieldLink RX0 34 "GustMill$State" "stonesUnder" "[I", Cond.fieldLink RX0 37 "GustMill$State" "groundHours" "[I", Cond.fieldLink RX0 40 "GustMill$State" "hour" "I", Cond.fieldLink RX0 44 "GustMill$State" "stoneCount" "I", Cond.fieldLink RX0 47 "GustMill$State" "sackCount" "I", Cond.fieldLink RX0 50 "GustMill$State" "groundCount" "I", Cond.fieldLink RX0 53 "GustMill$State" "changeCount" "I", Cond.fieldLink RX0 56 "GustMill$State" "rule" "I", Cond.fieldLink RX0 59 "GustMill$State" "isTakingOff" "Z", Cond.methodLink RX0 63 yX0_copyRow, Cond.static yX0_copyRow]
def wsX1_lookAhead_r2 : List Cond := [Cond.code yX0_copyRow cX0_copyRow 3 none, Cond.methodLink RX1 96 yX0_run, Cond.instanceMethod yX0_run, Cond.selects RX0 yX0_run yX0_run, Cond.code yX0_run cX0_run 5 (some .int), Cond.methodLink RX0 67 yX0_takeOffUnwanted, Cond.instanceMethod yX0_takeOffUnwanted, Cond.selects RX0 yX0_takeOffUnwanted yX0_takeOffUnwanted, Cond.code yX0_takeOffUnwanted cX0_takeOffUnwanted 3 none, Cond.methodLink RX0 80 yX0_countAhead, Cond.instanceMethod yX0_countAhead, Cond.selects RX0 yX0_countAhead yX0_countAhead, Cond.code yX0_countAhead cX0_countAhead 4 (some .int), Cond.methodLink RX0 101 yX0_isGround, Cond.instanceMethod yX0_isGround, Cond.selects RX0 yX0_isGround yX0_isGround, Cond.code yX0_isGround cX0_isGround 2 (some .boolean), Cond.methodLink RX0 108 yX0_isAhead, Cond.instanceMethod yX0_isAhead, Cond.selects RX0 yX0_isAhead yX0_isAhead, Cond.code yX0_isAhead cX0_isAhead 4 (some .boolean), Cond.methodLink RX0 84 yX0_clearStone, Cond.instanceMethod yX0_clearStone, Cond.selects RX0 yX0_clearStone yX0_clearStone]
def wsX1_lookAhead_r3 : List Cond := [Cond.code yX0_clearStone cX0_clearStone 3 none, Cond.methodLink RX0 70 yX0_fillStones, Cond.instanceMethod yX0_fillStones, Cond.selects RX0 yX0_fillStones yX0_fillStones, Cond.code yX0_fillStones cX0_fillStones 3 none, Cond.fieldLink RX0 21 "GustMill$State" "isFresh" "[Z", Cond.methodLink RX0 88 yX0_firstByRule, Cond.instanceMethod yX0_firstByRule, Cond.selects RX0 yX0_firstByRule yX0_firstByRule, Cond.code yX0_firstByRule cX0_firstByRule 5 (some .int), Cond.methodLink RX0 73 yX0_grind, Cond.instanceMethod yX0_grind, Cond.selects RX0 yX0_grind yX0_grind, Cond.code yX0_grind cX0_grind 7 (some .int), Cond.methodLink RX0 95 Lib.Math.min.name, Cond.static Lib.Math.min.name, Cond.initialized "java/lang/Math", Cond.code Lib.Math.min.name Lib.Math.min.code 2 (some .int), Cond.methodLink RX0 92 yX0_windOfHour, Cond.instanceMethod yX0_windOfHour, Cond.selects RX0 yX0_windOfHour yX0_windOfHour, Cond.code yX0_windOfHour cX0_windOfHour 1 (some .int), Cond.methodLink RX0 105 yJ9_floorMod_7cf53, Cond.static yJ9_floorMod_7cf53]
def wsX1_lookAhead_r4 : List Cond := [Cond.initialized RJ9, Cond.code yJ9_floorMod_7cf53 cJ9_floorMod_7cf53 3 (some .int), Cond.methodLink RX0 77 yX0_finishSacks, Cond.instanceMethod yX0_finishSacks, Cond.selects RX0 yX0_finishSacks yX0_finishSacks, Cond.code yX0_finishSacks cX0_finishSacks 3 none]
def wsX1_lookAhead : List Cond := .code yX1_lookAhead cX1_lookAhead 1 none :: ((wsX1_lookAhead_r1 ++ (wsX1_lookAhead_r2 ++ (wsX1_lookAhead_r3 ++ wsX1_lookAhead_r4))) ++ wsX10 ++ wsX00)
def wsX1_willBeGroundAt_r1 : List Cond := [Cond.fieldLink RX1 16 "GustMill" "trial" "LGustMill$State;", Cond.methodLink RX1 79 yX1_requireSack, Cond.instanceMethod yX1_requireSack, Cond.selects RX1 yX1_requireSack yX1_requireSack, Cond.initialized RX1, Cond.code yX1_requireSack cX1_requireSack 2 none, Cond.classLink RX1 39 "java/lang/IndexOutOfBoundsException", Cond.initialized "java/lang/IndexOutOfBoundsException", Cond.fieldLink RX1 10 "GustMill" "now" "LGustMill$State;", Cond.methodLink RX1 140 yX1_lookAhead, Cond.instanceMethod yX1_lookAhead, Cond.selects RX1 yX1_lookAhead yX1_lookAhead, Cond.code yX1_lookAhead cX1_lookAhead 1 none, Cond.methodLink RX1 143 yX0_become, Cond.instanceMethod yX0_become, Cond.selects RX0 yX0_become yX0_become, Cond.initialized RX0, Cond.code yX0_become cX0_become 2 none, Cond.fieldLink RX0 9 "GustMill$State" "winds" "[I", Cond.fieldLink RX0 15 "GustMill$State" "sizes" "[I", Cond.fieldLink RX0 18 "GustMill$State" "sacksUpon" "[I", Cond.fieldLink RX0 25 "GustMill$State" "bakers" "[I", Cond.fieldLink RX0 28 "GustMill$State" "lefts" "[I", Cond.fieldLink RX0 31 "GustMill$State" "untils" "[I"]
def wsX1_willBeGroundAt_r2 : List Cond := [Cond.fieldLink RX0 34 "GustMill$State" "stonesUnder" "[I", Cond.fieldLink RX0 37 "GustMill$State" "groundHours" "[I", Cond.fieldLink RX0 40 "GustMill$State" "hour" "I", Cond.fieldLink RX0 44 "GustMill$State" "stoneCount" "I", Cond.fieldLink RX0 47 "GustMill$State" "sackCount" "I", Cond.fieldLink RX0 50 "GustMill$State" "groundCount" "I", Cond.fieldLink RX0 53 "GustMill$State" "changeCount" "I", Cond.fieldLink RX0 56 "GustMill$State" "rule" "I", Cond.fieldLink RX0 59 "GustMill$State" "isTakingOff" "Z", Cond.methodLink RX0 63 yX0_copyRow, Cond.static yX0_copyRow, Cond.code yX0_copyRow cX0_copyRow 3 none, Cond.methodLink RX1 96 yX0_run, Cond.instanceMethod yX0_run, Cond.selects RX0 yX0_run yX0_run, Cond.code yX0_run cX0_run 5 (some .int), Cond.methodLink RX0 67 yX0_takeOffUnwanted, Cond.instanceMethod yX0_takeOffUnwanted, Cond.selects RX0 yX0_takeOffUnwanted yX0_takeOffUnwanted, Cond.code yX0_takeOffUnwanted cX0_takeOffUnwanted 3 none, Cond.methodLink RX0 80 yX0_countAhead, Cond.instanceMethod yX0_countAhead, Cond.selects RX0 yX0_countAhead yX0_countAhead, Cond.code yX0_countAhead cX0_countAhead 4 (some .int)]
def wsX1_willBeGroundAt_r3 : List Cond := [Cond.methodLink RX0 101 yX0_isGround, Cond.instanceMethod yX0_isGround, Cond.selects RX0 yX0_isGround yX0_isGround, Cond.code yX0_isGround cX0_isGround 2 (some .boolean), Cond.methodLink RX0 108 yX0_isAhead, Cond.instanceMethod yX0_isAhead, Cond.selects RX0 yX0_isAhead yX0_isAhead, Cond.code yX0_isAhead cX0_isAhead 4 (some .boolean), Cond.methodLink RX0 84 yX0_clearStone, Cond.instanceMethod yX0_clearStone, Cond.selects RX0 yX0_clearStone yX0_clearStone, Cond.code yX0_clearStone cX0_clearStone 3 none, Cond.methodLink RX0 70 yX0_fillStones, Cond.instanceMethod yX0_fillStones, Cond.selects RX0 yX0_fillStones yX0_fillStones, Cond.code yX0_fillStones cX0_fillStones 3 none, Cond.fieldLink RX0 21 "GustMill$State" "isFresh" "[Z", Cond.methodLink RX0 88 yX0_firstByRule, Cond.instanceMethod yX0_firstByRule, Cond.selects RX0 yX0_firstByRule yX0_firstByRule, Cond.code yX0_firstByRule cX0_firstByRule 5 (some .int), Cond.methodLink RX0 73 yX0_grind, Cond.instanceMethod yX0_grind, Cond.selects RX0 yX0_grind yX0_grind]
def wsX1_willBeGroundAt_r4 : List Cond := [Cond.code yX0_grind cX0_grind 7 (some .int), Cond.methodLink RX0 95 Lib.Math.min.name, Cond.static Lib.Math.min.name, Cond.initialized "java/lang/Math", Cond.code Lib.Math.min.name Lib.Math.min.code 2 (some .int), Cond.methodLink RX0 92 yX0_windOfHour, Cond.instanceMethod yX0_windOfHour, Cond.selects RX0 yX0_windOfHour yX0_windOfHour, Cond.code yX0_windOfHour cX0_windOfHour 1 (some .int), Cond.methodLink RX0 105 yJ9_floorMod_7cf53, Cond.static yJ9_floorMod_7cf53, Cond.initialized RJ9, Cond.code yJ9_floorMod_7cf53 cJ9_floorMod_7cf53 3 (some .int), Cond.methodLink RX0 77 yX0_finishSacks, Cond.instanceMethod yX0_finishSacks, Cond.selects RX0 yX0_finishSacks yX0_finishSacks, Cond.code yX0_finishSacks cX0_finishSacks 3 none]
def wsX1_willBeGroundAt : List Cond := .code yX1_willBeGroundAt cX1_willBeGroundAt 2 (some .int) :: ((wsX1_willBeGroundAt_r1 ++ (wsX1_willBeGroundAt_r2 ++ (wsX1_willBeGroundAt_r3 ++ wsX1_willBeGroundAt_r4))) ++ wsX10 ++ wsX00 ++ (vx_atS RX1 43 "java/lang/IndexOutOfBoundsException" ["java/lang/RuntimeException", "java/lang/Exception"]).filter goodWord)
def wsX1_spareOf_r1 : List Cond := [Cond.fieldLink RX1 16 "GustMill" "trial" "LGustMill$State;", Cond.methodLink RX1 79 yX1_requireSack, Cond.instanceMethod yX1_requireSack, Cond.selects RX1 yX1_requireSack yX1_requireSack, Cond.initialized RX1, Cond.code yX1_requireSack cX1_requireSack 2 none, Cond.classLink RX1 39 "java/lang/IndexOutOfBoundsException", Cond.initialized "java/lang/IndexOutOfBoundsException", Cond.fieldLink RX1 10 "GustMill" "now" "LGustMill$State;", Cond.methodLink RX1 140 yX1_lookAhead, Cond.instanceMethod yX1_lookAhead, Cond.selects RX1 yX1_lookAhead yX1_lookAhead, Cond.code yX1_lookAhead cX1_lookAhead 1 none, Cond.methodLink RX1 143 yX0_become, Cond.instanceMethod yX0_become, Cond.selects RX0 yX0_become yX0_become, Cond.initialized RX0, Cond.code yX0_become cX0_become 2 none, Cond.fieldLink RX0 9 "GustMill$State" "winds" "[I", Cond.fieldLink RX0 15 "GustMill$State" "sizes" "[I", Cond.fieldLink RX0 18 "GustMill$State" "sacksUpon" "[I", Cond.fieldLink RX0 25 "GustMill$State" "bakers" "[I", Cond.fieldLink RX0 28 "GustMill$State" "lefts" "[I", Cond.fieldLink RX0 31 "GustMill$State" "untils" "[I"]
def wsX1_spareOf_r2 : List Cond := [Cond.fieldLink RX0 34 "GustMill$State" "stonesUnder" "[I", Cond.fieldLink RX0 37 "GustMill$State" "groundHours" "[I", Cond.fieldLink RX0 40 "GustMill$State" "hour" "I", Cond.fieldLink RX0 44 "GustMill$State" "stoneCount" "I", Cond.fieldLink RX0 47 "GustMill$State" "sackCount" "I", Cond.fieldLink RX0 50 "GustMill$State" "groundCount" "I", Cond.fieldLink RX0 53 "GustMill$State" "changeCount" "I", Cond.fieldLink RX0 56 "GustMill$State" "rule" "I", Cond.fieldLink RX0 59 "GustMill$State" "isTakingOff" "Z", Cond.methodLink RX0 63 yX0_copyRow, Cond.static yX0_copyRow, Cond.code yX0_copyRow cX0_copyRow 3 none, Cond.methodLink RX1 96 yX0_run, Cond.instanceMethod yX0_run, Cond.selects RX0 yX0_run yX0_run, Cond.code yX0_run cX0_run 5 (some .int), Cond.methodLink RX0 67 yX0_takeOffUnwanted, Cond.instanceMethod yX0_takeOffUnwanted, Cond.selects RX0 yX0_takeOffUnwanted yX0_takeOffUnwanted, Cond.code yX0_takeOffUnwanted cX0_takeOffUnwanted 3 none, Cond.methodLink RX0 80 yX0_countAhead, Cond.instanceMethod yX0_countAhead, Cond.selects RX0 yX0_countAhead yX0_countAhead, Cond.code yX0_countAhead cX0_countAhead 4 (some .int)]
def wsX1_spareOf_r3 : List Cond := [Cond.methodLink RX0 101 yX0_isGround, Cond.instanceMethod yX0_isGround, Cond.selects RX0 yX0_isGround yX0_isGround, Cond.code yX0_isGround cX0_isGround 2 (some .boolean), Cond.methodLink RX0 108 yX0_isAhead, Cond.instanceMethod yX0_isAhead, Cond.selects RX0 yX0_isAhead yX0_isAhead, Cond.code yX0_isAhead cX0_isAhead 4 (some .boolean), Cond.methodLink RX0 84 yX0_clearStone, Cond.instanceMethod yX0_clearStone, Cond.selects RX0 yX0_clearStone yX0_clearStone, Cond.code yX0_clearStone cX0_clearStone 3 none, Cond.methodLink RX0 70 yX0_fillStones, Cond.instanceMethod yX0_fillStones, Cond.selects RX0 yX0_fillStones yX0_fillStones, Cond.code yX0_fillStones cX0_fillStones 3 none, Cond.fieldLink RX0 21 "GustMill$State" "isFresh" "[Z", Cond.methodLink RX0 88 yX0_firstByRule, Cond.instanceMethod yX0_firstByRule, Cond.selects RX0 yX0_firstByRule yX0_firstByRule, Cond.code yX0_firstByRule cX0_firstByRule 5 (some .int), Cond.methodLink RX0 73 yX0_grind, Cond.instanceMethod yX0_grind, Cond.selects RX0 yX0_grind yX0_grind]
def wsX1_spareOf_r4 : List Cond := [Cond.code yX0_grind cX0_grind 7 (some .int), Cond.methodLink RX0 95 Lib.Math.min.name, Cond.static Lib.Math.min.name, Cond.initialized "java/lang/Math", Cond.code Lib.Math.min.name Lib.Math.min.code 2 (some .int), Cond.methodLink RX0 92 yX0_windOfHour, Cond.instanceMethod yX0_windOfHour, Cond.selects RX0 yX0_windOfHour yX0_windOfHour, Cond.code yX0_windOfHour cX0_windOfHour 1 (some .int), Cond.methodLink RX0 105 yJ9_floorMod_7cf53, Cond.static yJ9_floorMod_7cf53, Cond.initialized RJ9, Cond.code yJ9_floorMod_7cf53 cJ9_floorMod_7cf53 3 (some .int), Cond.methodLink RX0 77 yX0_finishSacks, Cond.instanceMethod yX0_finishSacks, Cond.selects RX0 yX0_finishSacks yX0_finishSacks, Cond.code yX0_finishSacks cX0_finishSacks 3 none, Cond.methodLink RX1 127 yX0_isGround]
def wsX1_spareOf : List Cond := .code yX1_spareOf cX1_spareOf 2 (some .int) :: ((wsX1_spareOf_r1 ++ (wsX1_spareOf_r2 ++ (wsX1_spareOf_r3 ++ wsX1_spareOf_r4))) ++ wsX10 ++ wsX00 ++ (vx_atS RX1 43 "java/lang/IndexOutOfBoundsException" ["java/lang/RuntimeException", "java/lang/Exception"]).filter goodWord)
def wsX1_lateWith_r1 : List Cond := [Cond.fieldLink RX1 16 "GustMill" "trial" "LGustMill$State;", Cond.fieldLink RX1 10 "GustMill" "now" "LGustMill$State;", Cond.methodLink RX1 50 yX1_requireRule, Cond.static yX1_requireRule, Cond.initialized RX1, Cond.code yX1_requireRule cX1_requireRule 1 none, Cond.classLink RX1 19 "java/lang/IllegalArgumentException", Cond.initialized "java/lang/IllegalArgumentException", Cond.methodLink RX1 143 yX0_become, Cond.instanceMethod yX0_become, Cond.selects RX0 yX0_become yX0_become, Cond.initialized RX0, Cond.code yX0_become cX0_become 2 none, Cond.fieldLink RX0 9 "GustMill$State" "winds" "[I", Cond.fieldLink RX0 15 "GustMill$State" "sizes" "[I", Cond.fieldLink RX0 18 "GustMill$State" "sacksUpon" "[I", Cond.fieldLink RX0 25 "GustMill$State" "bakers" "[I", Cond.fieldLink RX0 28 "GustMill$State" "lefts" "[I", Cond.fieldLink RX0 31 "GustMill$State" "untils" "[I", Cond.fieldLink RX0 34 "GustMill$State" "stonesUnder" "[I", Cond.fieldLink RX0 37 "GustMill$State" "groundHours" "[I", Cond.fieldLink RX0 40 "GustMill$State" "hour" "I", Cond.fieldLink RX0 44 "GustMill$State" "stoneCount" "I", Cond.fieldLink RX0 47 "GustMill$State" "sackCount" "I"]
def wsX1_lateWith_r2 : List Cond := [Cond.fieldLink RX0 50 "GustMill$State" "groundCount" "I", Cond.fieldLink RX0 53 "GustMill$State" "changeCount" "I", Cond.fieldLink RX0 56 "GustMill$State" "rule" "I", Cond.fieldLink RX0 59 "GustMill$State" "isTakingOff" "Z", Cond.methodLink RX0 63 yX0_copyRow, Cond.static yX0_copyRow, Cond.code yX0_copyRow cX0_copyRow 3 none, Cond.methodLink RX1 96 yX0_run, Cond.instanceMethod yX0_run, Cond.selects RX0 yX0_run yX0_run, Cond.code yX0_run cX0_run 5 (some .int), Cond.methodLink RX0 67 yX0_takeOffUnwanted, Cond.instanceMethod yX0_takeOffUnwanted, Cond.selects RX0 yX0_takeOffUnwanted yX0_takeOffUnwanted, Cond.code yX0_takeOffUnwanted cX0_takeOffUnwanted 3 none, Cond.methodLink RX0 80 yX0_countAhead, Cond.instanceMethod yX0_countAhead, Cond.selects RX0 yX0_countAhead yX0_countAhead, Cond.code yX0_countAhead cX0_countAhead 4 (some .int), Cond.methodLink RX0 101 yX0_isGround, Cond.instanceMethod yX0_isGround, Cond.selects RX0 yX0_isGround yX0_isGround, Cond.code yX0_isGround cX0_isGround 2 (some .boolean), Cond.methodLink RX0 108 yX0_isAhead]
def wsX1_lateWith_r3 : List Cond := [Cond.instanceMethod yX0_isAhead, Cond.selects RX0 yX0_isAhead yX0_isAhead, Cond.code yX0_isAhead cX0_isAhead 4 (some .boolean), Cond.methodLink RX0 84 yX0_clearStone, Cond.instanceMethod yX0_clearStone, Cond.selects RX0 yX0_clearStone yX0_clearStone, Cond.code yX0_clearStone cX0_clearStone 3 none, Cond.methodLink RX0 70 yX0_fillStones, Cond.instanceMethod yX0_fillStones, Cond.selects RX0 yX0_fillStones yX0_fillStones, Cond.code yX0_fillStones cX0_fillStones 3 none, Cond.fieldLink RX0 21 "GustMill$State" "isFresh" "[Z", Cond.methodLink RX0 88 yX0_firstByRule, Cond.instanceMethod yX0_firstByRule, Cond.selects RX0 yX0_firstByRule yX0_firstByRule, Cond.code yX0_firstByRule cX0_firstByRule 5 (some .int), Cond.methodLink RX0 73 yX0_grind, Cond.instanceMethod yX0_grind, Cond.selects RX0 yX0_grind yX0_grind, Cond.code yX0_grind cX0_grind 7 (some .int), Cond.methodLink RX0 95 Lib.Math.min.name, Cond.static Lib.Math.min.name, Cond.initialized "java/lang/Math", Cond.code Lib.Math.min.name Lib.Math.min.code 2 (some .int)]
def wsX1_lateWith_r4 : List Cond := [Cond.methodLink RX0 92 yX0_windOfHour, Cond.instanceMethod yX0_windOfHour, Cond.selects RX0 yX0_windOfHour yX0_windOfHour, Cond.code yX0_windOfHour cX0_windOfHour 1 (some .int), Cond.methodLink RX0 105 yJ9_floorMod_7cf53, Cond.static yJ9_floorMod_7cf53, Cond.initialized RJ9, Cond.code yJ9_floorMod_7cf53 cJ9_floorMod_7cf53 3 (some .int), Cond.methodLink RX0 77 yX0_finishSacks, Cond.instanceMethod yX0_finishSacks, Cond.selects RX0 yX0_finishSacks yX0_finishSacks, Cond.code yX0_finishSacks cX0_finishSacks 3 none, Cond.methodLink RX1 137 yX0_hoursLate, Cond.instanceMethod yX0_hoursLate, Cond.selects RX0 yX0_hoursLate yX0_hoursLate, Cond.code yX0_hoursLate cX0_hoursLate 3 (some .int), Cond.methodLink RX0 112 Lib.Math.max.name, Cond.static Lib.Math.max.name, Cond.code Lib.Math.max.name Lib.Math.max.code 2 (some .int)]
def wsX1_lateWith : List Cond := .code yX1_lateWith cX1_lateWith 3 (some .int) :: ((wsX1_lateWith_r1 ++ (wsX1_lateWith_r2 ++ (wsX1_lateWith_r3 ++ wsX1_lateWith_r4))) ++ wsX10 ++ wsX00 ++ (vx_atS RX1 23 "java/lang/IllegalArgumentException" ["java/lang/RuntimeException", "java/lang/Exception"]).filter goodWord)
def wsX1_bestRule_r1 : List Cond := [Cond.fieldLink RX1 10 "GustMill" "now" "LGustMill$State;", Cond.methodLink RX1 147 yX1_lateWith, Cond.instanceMethod yX1_lateWith, Cond.selects RX1 yX1_lateWith yX1_lateWith, Cond.initialized RX1, Cond.code yX1_lateWith cX1_lateWith 3 (some .int), Cond.fieldLink RX1 16 "GustMill" "trial" "LGustMill$State;", Cond.methodLink RX1 50 yX1_requireRule, Cond.static yX1_requireRule, Cond.code yX1_requireRule cX1_requireRule 1 none, Cond.classLink RX1 19 "java/lang/IllegalArgumentException", Cond.initialized "java/lang/IllegalArgumentException", Cond.methodLink RX1 143 yX0_become, Cond.instanceMethod yX0_become, Cond.selects RX0 yX0_become yX0_become, Cond.initialized RX0, Cond.code yX0_become cX0_become 2 none, Cond.fieldLink RX0 9 "GustMill$State" "winds" "[I", Cond.fieldLink RX0 15 "GustMill$State" "sizes" "[I", Cond.fieldLink RX0 18 "GustMill$State" "sacksUpon" "[I", Cond.fieldLink RX0 25 "GustMill$State" "bakers" "[I", Cond.fieldLink RX0 28 "GustMill$State" "lefts" "[I", Cond.fieldLink RX0 31 "GustMill$State" "untils" "[I", Cond.fieldLink RX0 34 "GustMill$State" "stonesUnder" "[I"]
def wsX1_bestRule_r2 : List Cond := [Cond.fieldLink RX0 37 "GustMill$State" "groundHours" "[I", Cond.fieldLink RX0 40 "GustMill$State" "hour" "I", Cond.fieldLink RX0 44 "GustMill$State" "stoneCount" "I", Cond.fieldLink RX0 47 "GustMill$State" "sackCount" "I", Cond.fieldLink RX0 50 "GustMill$State" "groundCount" "I", Cond.fieldLink RX0 53 "GustMill$State" "changeCount" "I", Cond.fieldLink RX0 56 "GustMill$State" "rule" "I", Cond.fieldLink RX0 59 "GustMill$State" "isTakingOff" "Z", Cond.methodLink RX0 63 yX0_copyRow, Cond.static yX0_copyRow, Cond.code yX0_copyRow cX0_copyRow 3 none, Cond.methodLink RX1 96 yX0_run, Cond.instanceMethod yX0_run, Cond.selects RX0 yX0_run yX0_run, Cond.code yX0_run cX0_run 5 (some .int), Cond.methodLink RX0 67 yX0_takeOffUnwanted, Cond.instanceMethod yX0_takeOffUnwanted, Cond.selects RX0 yX0_takeOffUnwanted yX0_takeOffUnwanted, Cond.code yX0_takeOffUnwanted cX0_takeOffUnwanted 3 none, Cond.methodLink RX0 80 yX0_countAhead, Cond.instanceMethod yX0_countAhead, Cond.selects RX0 yX0_countAhead yX0_countAhead, Cond.code yX0_countAhead cX0_countAhead 4 (some .int), Cond.methodLink RX0 101 yX0_isGround]
def wsX1_bestRule_r3 : List Cond := [Cond.instanceMethod yX0_isGround, Cond.selects RX0 yX0_isGround yX0_isGround, Cond.code yX0_isGround cX0_isGround 2 (some .boolean), Cond.methodLink RX0 108 yX0_isAhead, Cond.instanceMethod yX0_isAhead, Cond.selects RX0 yX0_isAhead yX0_isAhead, Cond.code yX0_isAhead cX0_isAhead 4 (some .boolean), Cond.methodLink RX0 84 yX0_clearStone, Cond.instanceMethod yX0_clearStone, Cond.selects RX0 yX0_clearStone yX0_clearStone, Cond.code yX0_clearStone cX0_clearStone 3 none, Cond.methodLink RX0 70 yX0_fillStones, Cond.instanceMethod yX0_fillStones, Cond.selects RX0 yX0_fillStones yX0_fillStones, Cond.code yX0_fillStones cX0_fillStones 3 none, Cond.fieldLink RX0 21 "GustMill$State" "isFresh" "[Z", Cond.methodLink RX0 88 yX0_firstByRule, Cond.instanceMethod yX0_firstByRule, Cond.selects RX0 yX0_firstByRule yX0_firstByRule, Cond.code yX0_firstByRule cX0_firstByRule 5 (some .int), Cond.methodLink RX0 73 yX0_grind, Cond.instanceMethod yX0_grind, Cond.selects RX0 yX0_grind yX0_grind, Cond.code yX0_grind cX0_grind 7 (some .int)]
def wsX1_bestRule_r4 : List Cond := [Cond.methodLink RX0 95 Lib.Math.min.name, Cond.static Lib.Math.min.name, Cond.initialized "java/lang/Math", Cond.code Lib.Math.min.name Lib.Math.min.code 2 (some .int), Cond.methodLink RX0 92 yX0_windOfHour, Cond.instanceMethod yX0_windOfHour, Cond.selects RX0 yX0_windOfHour yX0_windOfHour, Cond.code yX0_windOfHour cX0_windOfHour 1 (some .int), Cond.methodLink RX0 105 yJ9_floorMod_7cf53, Cond.static yJ9_floorMod_7cf53, Cond.initialized RJ9, Cond.code yJ9_floorMod_7cf53 cJ9_floorMod_7cf53 3 (some .int), Cond.methodLink RX0 77 yX0_finishSacks, Cond.instanceMethod yX0_finishSacks, Cond.selects RX0 yX0_finishSacks yX0_finishSacks, Cond.code yX0_finishSacks cX0_finishSacks 3 none, Cond.methodLink RX1 137 yX0_hoursLate, Cond.instanceMethod yX0_hoursLate, Cond.selects RX0 yX0_hoursLate yX0_hoursLate, Cond.code yX0_hoursLate cX0_hoursLate 3 (some .int), Cond.methodLink RX0 112 Lib.Math.max.name, Cond.static Lib.Math.max.name, Cond.code Lib.Math.max.name Lib.Math.max.code 2 (some .int)]
def wsX1_bestRule : List Cond := .code yX1_bestRule cX1_bestRule 5 (some .int) :: ((wsX1_bestRule_r1 ++ (wsX1_bestRule_r2 ++ (wsX1_bestRule_r3 ++ wsX1_bestRule_r4))) ++ wsX10 ++ wsX00 ++ (vx_atS RX1 23 "java/lang/IllegalArgumentException" ["java/lang/RuntimeException", "java/lang/Exception"]).filter goodWord)
def wsX1_wouldBeInTime_r1 : List Cond := [Cond.fieldLink RX1 10 "GustMill" "now" "LGustMill$State;", Cond.fieldLink RX1 16 "GustMill" "trial" "LGustMill$State;", Cond.methodLink RX1 64 yX1_requireGrain, Cond.static yX1_requireGrain, Cond.initialized RX1, Cond.code yX1_requireGrain cX1_requireGrain 1 none, Cond.classLink RX1 19 "java/lang/IllegalArgumentException", Cond.initialized "java/lang/IllegalArgumentException", Cond.methodLink RX1 67 yX1_requireUntil, Cond.static yX1_requireUntil, Cond.code yX1_requireUntil cX1_requireUntil 1 none, Cond.methodLink RX1 143 yX0_become, Cond.instanceMethod yX0_become, Cond.selects RX0 yX0_become yX0_become, Cond.initialized RX0, Cond.code yX0_become cX0_become 2 none, Cond.fieldLink RX0 9 "GustMill$State" "winds" "[I", Cond.fieldLink RX0 15 "GustMill$State" "sizes" "[I", Cond.fieldLink RX0 18 "GustMill$State" "sacksUpon" "[I", Cond.fieldLink RX0 25 "GustMill$State" "bakers" "[I", Cond.fieldLink RX0 28 "GustMill$State" "lefts" "[I", Cond.fieldLink RX0 31 "GustMill$State" "untils" "[I", Cond.fieldLink RX0 34 "GustMill$State" "stonesUnder" "[I", Cond.fieldLink RX0 37 "GustMill$State" "groundHours" "[I"]
def wsX1_wouldBeInTime_r2 : List Cond := [Cond.fieldLink RX0 40 "GustMill$State" "hour" "I", Cond.fieldLink RX0 44 "GustMill$State" "stoneCount" "I", Cond.fieldLink RX0 47 "GustMill$State" "sackCount" "I", Cond.fieldLink RX0 50 "GustMill$State" "groundCount" "I", Cond.fieldLink RX0 53 "GustMill$State" "changeCount" "I", Cond.fieldLink RX0 56 "GustMill$State" "rule" "I", Cond.fieldLink RX0 59 "GustMill$State" "isTakingOff" "Z", Cond.methodLink RX0 63 yX0_copyRow, Cond.static yX0_copyRow, Cond.code yX0_copyRow cX0_copyRow 3 none, Cond.methodLink RX1 75 yX0_storeSack, Cond.instanceMethod yX0_storeSack, Cond.selects RX0 yX0_storeSack yX0_storeSack, Cond.code yX0_storeSack cX0_storeSack 5 (some .int), Cond.methodLink RX1 96 yX0_run, Cond.instanceMethod yX0_run, Cond.selects RX0 yX0_run yX0_run, Cond.code yX0_run cX0_run 5 (some .int), Cond.methodLink RX0 67 yX0_takeOffUnwanted, Cond.instanceMethod yX0_takeOffUnwanted, Cond.selects RX0 yX0_takeOffUnwanted yX0_takeOffUnwanted, Cond.code yX0_takeOffUnwanted cX0_takeOffUnwanted 3 none, Cond.methodLink RX0 80 yX0_countAhead, Cond.instanceMethod yX0_countAhead]
def wsX1_wouldBeInTime_r3 : List Cond := [Cond.selects RX0 yX0_countAhead yX0_countAhead, Cond.code yX0_countAhead cX0_countAhead 4 (some .int), Cond.methodLink RX0 101 yX0_isGround, Cond.instanceMethod yX0_isGround, Cond.selects RX0 yX0_isGround yX0_isGround, Cond.code yX0_isGround cX0_isGround 2 (some .boolean), Cond.methodLink RX0 108 yX0_isAhead, Cond.instanceMethod yX0_isAhead, Cond.selects RX0 yX0_isAhead yX0_isAhead, Cond.code yX0_isAhead cX0_isAhead 4 (some .boolean), Cond.methodLink RX0 84 yX0_clearStone, Cond.instanceMethod yX0_clearStone, Cond.selects RX0 yX0_clearStone yX0_clearStone, Cond.code yX0_clearStone cX0_clearStone 3 none, Cond.methodLink RX0 70 yX0_fillStones, Cond.instanceMethod yX0_fillStones, Cond.selects RX0 yX0_fillStones yX0_fillStones, Cond.code yX0_fillStones cX0_fillStones 3 none, Cond.fieldLink RX0 21 "GustMill$State" "isFresh" "[Z", Cond.methodLink RX0 88 yX0_firstByRule, Cond.instanceMethod yX0_firstByRule, Cond.selects RX0 yX0_firstByRule yX0_firstByRule, Cond.code yX0_firstByRule cX0_firstByRule 5 (some .int), Cond.methodLink RX0 73 yX0_grind]
def wsX1_wouldBeInTime_r4 : List Cond := [Cond.instanceMethod yX0_grind, Cond.selects RX0 yX0_grind yX0_grind, Cond.code yX0_grind cX0_grind 7 (some .int), Cond.methodLink RX0 95 Lib.Math.min.name, Cond.static Lib.Math.min.name, Cond.initialized "java/lang/Math", Cond.code Lib.Math.min.name Lib.Math.min.code 2 (some .int), Cond.methodLink RX0 92 yX0_windOfHour, Cond.instanceMethod yX0_windOfHour, Cond.selects RX0 yX0_windOfHour yX0_windOfHour, Cond.code yX0_windOfHour cX0_windOfHour 1 (some .int), Cond.methodLink RX0 105 yJ9_floorMod_7cf53, Cond.static yJ9_floorMod_7cf53, Cond.initialized RJ9, Cond.code yJ9_floorMod_7cf53 cJ9_floorMod_7cf53 3 (some .int), Cond.methodLink RX0 77 yX0_finishSacks, Cond.instanceMethod yX0_finishSacks, Cond.selects RX0 yX0_finishSacks yX0_finishSacks, Cond.code yX0_finishSacks cX0_finishSacks 3 none, Cond.methodLink RX1 127 yX0_isGround]
def wsX1_wouldBeInTime : List Cond := .code yX1_wouldBeInTime cX1_wouldBeInTime 4 (some .boolean) :: ((wsX1_wouldBeInTime_r1 ++ (wsX1_wouldBeInTime_r2 ++ (wsX1_wouldBeInTime_r3 ++ wsX1_wouldBeInTime_r4))) ++ wsX10 ++ wsX00 ++ (vx_atS RX1 23 "java/lang/IllegalArgumentException" ["java/lang/RuntimeException", "java/lang/Exception"]).filter goodWord)
def wsX1_groundIn_r1 : List Cond := [Cond.fieldLink RX1 16 "GustMill" "trial" "LGustMill$State;", Cond.fieldLink RX1 10 "GustMill" "now" "LGustMill$State;", Cond.methodLink RX1 93 yX1_requireHours, Cond.static yX1_requireHours, Cond.initialized RX1, Cond.code yX1_requireHours cX1_requireHours 1 none, Cond.classLink RX1 19 "java/lang/IllegalArgumentException", Cond.initialized "java/lang/IllegalArgumentException", Cond.methodLink RX1 143 yX0_become, Cond.instanceMethod yX0_become, Cond.selects RX0 yX0_become yX0_become, Cond.initialized RX0, Cond.code yX0_become cX0_become 2 none, Cond.fieldLink RX0 9 "GustMill$State" "winds" "[I", Cond.fieldLink RX0 15 "GustMill$State" "sizes" "[I", Cond.fieldLink RX0 18 "GustMill$State" "sacksUpon" "[I", Cond.fieldLink RX0 25 "GustMill$State" "bakers" "[I", Cond.fieldLink RX0 28 "GustMill$State" "lefts" "[I", Cond.fieldLink RX0 31 "GustMill$State" "untils" "[I", Cond.fieldLink RX0 34 "GustMill$State" "stonesUnder" "[I", Cond.fieldLink RX0 37 "GustMill$State" "groundHours" "[I", Cond.fieldLink RX0 40 "GustMill$State" "hour" "I", Cond.fieldLink RX0 44 "GustMill$State" "stoneCount" "I", Cond.fieldLink RX0 47 "GustMill$State" "sackCount" "I"]
def wsX1_groundIn_r2 : List Cond := [Cond.fieldLink RX0 50 "GustMill$State" "groundCount" "I", Cond.fieldLink RX0 53 "GustMill$State" "changeCount" "I", Cond.fieldLink RX0 56 "GustMill$State" "rule" "I", Cond.fieldLink RX0 59 "GustMill$State" "isTakingOff" "Z", Cond.methodLink RX0 63 yX0_copyRow, Cond.static yX0_copyRow, Cond.code yX0_copyRow cX0_copyRow 3 none, Cond.methodLink RX1 96 yX0_run, Cond.instanceMethod yX0_run, Cond.selects RX0 yX0_run yX0_run, Cond.code yX0_run cX0_run 5 (some .int), Cond.methodLink RX0 67 yX0_takeOffUnwanted, Cond.instanceMethod yX0_takeOffUnwanted, Cond.selects RX0 yX0_takeOffUnwanted yX0_takeOffUnwanted, Cond.code yX0_takeOffUnwanted cX0_takeOffUnwanted 3 none, Cond.methodLink RX0 80 yX0_countAhead, Cond.instanceMethod yX0_countAhead, Cond.selects RX0 yX0_countAhead yX0_countAhead, Cond.code yX0_countAhead cX0_countAhead 4 (some .int), Cond.methodLink RX0 101 yX0_isGround, Cond.instanceMethod yX0_isGround, Cond.selects RX0 yX0_isGround yX0_isGround, Cond.code yX0_isGround cX0_isGround 2 (some .boolean), Cond.methodLink RX0 108 yX0_isAhead]
def wsX1_groundIn_r3 : List Cond := [Cond.instanceMethod yX0_isAhead, Cond.selects RX0 yX0_isAhead yX0_isAhead, Cond.code yX0_isAhead cX0_isAhead 4 (some .boolean), Cond.methodLink RX0 84 yX0_clearStone, Cond.instanceMethod yX0_clearStone, Cond.selects RX0 yX0_clearStone yX0_clearStone, Cond.code yX0_clearStone cX0_clearStone 3 none, Cond.methodLink RX0 70 yX0_fillStones, Cond.instanceMethod yX0_fillStones, Cond.selects RX0 yX0_fillStones yX0_fillStones, Cond.code yX0_fillStones cX0_fillStones 3 none, Cond.fieldLink RX0 21 "GustMill$State" "isFresh" "[Z", Cond.methodLink RX0 88 yX0_firstByRule, Cond.instanceMethod yX0_firstByRule, Cond.selects RX0 yX0_firstByRule yX0_firstByRule, Cond.code yX0_firstByRule cX0_firstByRule 5 (some .int), Cond.methodLink RX0 73 yX0_grind, Cond.instanceMethod yX0_grind, Cond.selects RX0 yX0_grind yX0_grind, Cond.code yX0_grind cX0_grind 7 (some .int), Cond.methodLink RX0 95 Lib.Math.min.name, Cond.static Lib.Math.min.name, Cond.initialized "java/lang/Math", Cond.code Lib.Math.min.name Lib.Math.min.code 2 (some .int)]
def wsX1_groundIn_r4 : List Cond := [Cond.methodLink RX0 92 yX0_windOfHour, Cond.instanceMethod yX0_windOfHour, Cond.selects RX0 yX0_windOfHour yX0_windOfHour, Cond.code yX0_windOfHour cX0_windOfHour 1 (some .int), Cond.methodLink RX0 105 yJ9_floorMod_7cf53, Cond.static yJ9_floorMod_7cf53, Cond.initialized RJ9, Cond.code yJ9_floorMod_7cf53 cJ9_floorMod_7cf53 3 (some .int), Cond.methodLink RX0 77 yX0_finishSacks, Cond.instanceMethod yX0_finishSacks, Cond.selects RX0 yX0_finishSacks yX0_finishSacks, Cond.code yX0_finishSacks cX0_finishSacks 3 none]
def wsX1_groundIn : List Cond := .code yX1_groundIn cX1_groundIn 2 (some .int) :: ((wsX1_groundIn_r1 ++ (wsX1_groundIn_r2 ++ (wsX1_groundIn_r3 ++ wsX1_groundIn_r4))) ++ wsX10 ++ wsX00 ++ (vx_atS RX1 23 "java/lang/IllegalArgumentException" ["java/lang/RuntimeException", "java/lang/Exception"]).filter goodWord)
def wsX1_meanLeft : List Cond := .code yX1_meanLeft cX1_meanLeft 4 (some .double) :: ([.fieldLink RX1 10 "GustMill" "now" "LGustMill$State;"] ++ wsX10 ++ wsX00)
def wsX1_mix : List Cond := .code yX1_mix cX1_mix 3 (some .long) :: ([.constantLong RX1 213 (31)])
def wsX1_mixSacks_r1 : List Cond := [Cond.fieldLink RX1 10 "GustMill" "now" "LGustMill$State;", Cond.fieldLink RX1 16 "GustMill" "trial" "LGustMill$State;", Cond.methodLink RX1 140 yX1_lookAhead, Cond.instanceMethod yX1_lookAhead, Cond.selects RX1 yX1_lookAhead yX1_lookAhead, Cond.initialized RX1, Cond.code yX1_lookAhead cX1_lookAhead 1 none, Cond.methodLink RX1 143 yX0_become, Cond.instanceMethod yX0_become, Cond.selects RX0 yX0_become yX0_become, Cond.initialized RX0, Cond.code yX0_become cX0_become 2 none, Cond.fieldLink RX0 9 "GustMill$State" "winds" "[I", Cond.fieldLink RX0 15 "GustMill$State" "sizes" "[I", Cond.fieldLink RX0 18 "GustMill$State" "sacksUpon" "[I", Cond.fieldLink RX0 25 "GustMill$State" "bakers" "[I", Cond.fieldLink RX0 28 "GustMill$State" "lefts" "[I", Cond.fieldLink RX0 31 "GustMill$State" "untils" "[I", Cond.fieldLink RX0 34 "GustMill$State" "stonesUnder" "[I", Cond.fieldLink RX0 37 "GustMill$State" "groundHours" "[I", Cond.fieldLink RX0 40 "GustMill$State" "hour" "I", Cond.fieldLink RX0 44 "GustMill$State" "stoneCount" "I", Cond.fieldLink RX0 47 "GustMill$State" "sackCount" "I", Cond.fieldLink RX0 50 "GustMill$State" "groundCount" "I"]
def wsX1_mixSacks_r2 : List Cond := [Cond.fieldLink RX0 53 "GustMill$State" "changeCount" "I", Cond.fieldLink RX0 56 "GustMill$State" "rule" "I", Cond.fieldLink RX0 59 "GustMill$State" "isTakingOff" "Z", Cond.methodLink RX0 63 yX0_copyRow, Cond.static yX0_copyRow, Cond.code yX0_copyRow cX0_copyRow 3 none, Cond.methodLink RX1 96 yX0_run, Cond.instanceMethod yX0_run, Cond.selects RX0 yX0_run yX0_run, Cond.code yX0_run cX0_run 5 (some .int), Cond.methodLink RX0 67 yX0_takeOffUnwanted, Cond.instanceMethod yX0_takeOffUnwanted, Cond.selects RX0 yX0_takeOffUnwanted yX0_takeOffUnwanted, Cond.code yX0_takeOffUnwanted cX0_takeOffUnwanted 3 none, Cond.methodLink RX0 80 yX0_countAhead, Cond.instanceMethod yX0_countAhead, Cond.selects RX0 yX0_countAhead yX0_countAhead, Cond.code yX0_countAhead cX0_countAhead 4 (some .int), Cond.methodLink RX0 101 yX0_isGround, Cond.instanceMethod yX0_isGround, Cond.selects RX0 yX0_isGround yX0_isGround, Cond.code yX0_isGround cX0_isGround 2 (some .boolean), Cond.methodLink RX0 108 yX0_isAhead, Cond.instanceMethod yX0_isAhead]
def wsX1_mixSacks_r3 : List Cond := [Cond.selects RX0 yX0_isAhead yX0_isAhead, Cond.code yX0_isAhead cX0_isAhead 4 (some .boolean), Cond.methodLink RX0 84 yX0_clearStone, Cond.instanceMethod yX0_clearStone, Cond.selects RX0 yX0_clearStone yX0_clearStone, Cond.code yX0_clearStone cX0_clearStone 3 none, Cond.methodLink RX0 70 yX0_fillStones, Cond.instanceMethod yX0_fillStones, Cond.selects RX0 yX0_fillStones yX0_fillStones, Cond.code yX0_fillStones cX0_fillStones 3 none, Cond.fieldLink RX0 21 "GustMill$State" "isFresh" "[Z", Cond.methodLink RX0 88 yX0_firstByRule, Cond.instanceMethod yX0_firstByRule, Cond.selects RX0 yX0_firstByRule yX0_firstByRule, Cond.code yX0_firstByRule cX0_firstByRule 5 (some .int), Cond.methodLink RX0 73 yX0_grind, Cond.instanceMethod yX0_grind, Cond.selects RX0 yX0_grind yX0_grind, Cond.code yX0_grind cX0_grind 7 (some .int), Cond.methodLink RX0 95 Lib.Math.min.name, Cond.static Lib.Math.min.name, Cond.initialized "java/lang/Math", Cond.code Lib.Math.min.name Lib.Math.min.code 2 (some .int), Cond.methodLink RX0 92 yX0_windOfHour]
def wsX1_mixSacks_r4 : List Cond := [Cond.instanceMethod yX0_windOfHour, Cond.selects RX0 yX0_windOfHour yX0_windOfHour, Cond.code yX0_windOfHour cX0_windOfHour 1 (some .int), Cond.methodLink RX0 105 yJ9_floorMod_7cf53, Cond.static yJ9_floorMod_7cf53, Cond.initialized RJ9, Cond.code yJ9_floorMod_7cf53 cJ9_floorMod_7cf53 3 (some .int), Cond.methodLink RX0 77 yX0_finishSacks, Cond.instanceMethod yX0_finishSacks, Cond.selects RX0 yX0_finishSacks yX0_finishSacks, Cond.code yX0_finishSacks cX0_finishSacks 3 none, Cond.methodLink RX1 198 yX1_stoneOf, Cond.instanceMethod yX1_stoneOf, Cond.selects RX1 yX1_stoneOf yX1_stoneOf, Cond.code yX1_stoneOf cX1_stoneOf 2 (some .int), Cond.methodLink RX1 79 yX1_requireSack, Cond.instanceMethod yX1_requireSack, Cond.selects RX1 yX1_requireSack yX1_requireSack, Cond.code yX1_requireSack cX1_requireSack 2 none, Cond.classLink RX1 39 "java/lang/IndexOutOfBoundsException", Cond.initialized "java/lang/IndexOutOfBoundsException", Cond.methodLink RX1 155 yX1_mix, Cond.static yX1_mix, Cond.code yX1_mix cX1_mix 3 (some .long)]
def wsX1_mixSacks_r5 : List Cond := [Cond.constantLong RX1 213 (31), Cond.methodLink RX1 201 yX1_leftOf, Cond.instanceMethod yX1_leftOf, Cond.selects RX1 yX1_leftOf yX1_leftOf, Cond.code yX1_leftOf cX1_leftOf 2 (some .int), Cond.methodLink RX1 204 yX1_untilOf, Cond.instanceMethod yX1_untilOf, Cond.selects RX1 yX1_untilOf yX1_untilOf, Cond.code yX1_untilOf cX1_untilOf 2 (some .int), Cond.methodLink RX1 207 yX1_groundAt, Cond.instanceMethod yX1_groundAt, Cond.selects RX1 yX1_groundAt yX1_groundAt, Cond.code yX1_groundAt cX1_groundAt 2 (some .int), Cond.methodLink RX1 210 yX1_placeOf, Cond.instanceMethod yX1_placeOf, Cond.selects RX1 yX1_placeOf yX1_placeOf, Cond.code yX1_placeOf cX1_placeOf 2 (some .int), Cond.methodLink RX1 127 yX0_isGround, Cond.methodLink RX1 131 yX0_countAhead]
def wsX1_mixSacks : List Cond := .code yX1_mixSacks cX1_mixSacks 6 (some .long) :: ((wsX1_mixSacks_r1 ++ (wsX1_mixSacks_r2 ++ (wsX1_mixSacks_r3 ++ (wsX1_mixSacks_r4 ++ wsX1_mixSacks_r5)))) ++ wsX10 ++ wsX00 ++ (vx_atS RX1 43 "java/lang/IndexOutOfBoundsException" ["java/lang/RuntimeException", "java/lang/Exception"]).filter goodWord)
def wsX1_digest_r1 : List Cond := [Cond.constantLong RX1 151 (2281), Cond.fieldLink RX1 10 "GustMill" "now" "LGustMill$State;", Cond.methodLink RX1 153 yX1_hour, Cond.instanceMethod yX1_hour, Cond.selects RX1 yX1_hour yX1_hour, Cond.initialized RX1, Cond.code yX1_hour cX1_hour 1 (some .int), Cond.methodLink RX1 155 yX1_mix, Cond.static yX1_mix, Cond.code yX1_mix cX1_mix 3 (some .long), Cond.constantLong RX1 213 (31), Cond.methodLink RX1 159 yX1_stones, Cond.instanceMethod yX1_stones, Cond.selects RX1 yX1_stones yX1_stones, Cond.code yX1_stones cX1_stones 1 (some .int), Cond.methodLink RX1 162 yX1_sacks, Cond.instanceMethod yX1_sacks, Cond.selects RX1 yX1_sacks yX1_sacks, Cond.code yX1_sacks cX1_sacks 1 (some .int), Cond.methodLink RX1 165 yX1_rule, Cond.instanceMethod yX1_rule, Cond.selects RX1 yX1_rule yX1_rule, Cond.code yX1_rule cX1_rule 1 (some .int), Cond.methodLink RX1 167 yX1_wind]
def wsX1_digest_r2 : List Cond := [Cond.instanceMethod yX1_wind, Cond.selects RX1 yX1_wind yX1_wind, Cond.code yX1_wind cX1_wind 1 (some .int), Cond.methodLink RX1 102 yX0_windOfHour, Cond.instanceMethod yX0_windOfHour, Cond.selects RX0 yX0_windOfHour yX0_windOfHour, Cond.initialized RX0, Cond.code yX0_windOfHour cX0_windOfHour 1 (some .int), Cond.fieldLink RX0 9 "GustMill$State" "winds" "[I", Cond.fieldLink RX0 40 "GustMill$State" "hour" "I", Cond.methodLink RX0 105 yJ9_floorMod_7cf53, Cond.static yJ9_floorMod_7cf53, Cond.initialized RJ9, Cond.code yJ9_floorMod_7cf53 cJ9_floorMod_7cf53 3 (some .int), Cond.methodLink RX1 170 yX1_ground, Cond.instanceMethod yX1_ground, Cond.selects RX1 yX1_ground yX1_ground, Cond.code yX1_ground cX1_ground 1 (some .int), Cond.methodLink RX1 173 yX1_changes, Cond.instanceMethod yX1_changes, Cond.selects RX1 yX1_changes yX1_changes, Cond.code yX1_changes cX1_changes 1 (some .int), Cond.methodLink RX1 176 yX1_first, Cond.instanceMethod yX1_first]
def wsX1_digest_r3 : List Cond := [Cond.selects RX1 yX1_first yX1_first, Cond.code yX1_first cX1_first 1 (some .int), Cond.methodLink RX1 123 yX0_firstByRule, Cond.instanceMethod yX0_firstByRule, Cond.selects RX0 yX0_firstByRule yX0_firstByRule, Cond.code yX0_firstByRule cX0_firstByRule 5 (some .int), Cond.fieldLink RX0 47 "GustMill$State" "sackCount" "I", Cond.fieldLink RX0 34 "GustMill$State" "stonesUnder" "[I", Cond.methodLink RX0 101 yX0_isGround, Cond.instanceMethod yX0_isGround, Cond.selects RX0 yX0_isGround yX0_isGround, Cond.code yX0_isGround cX0_isGround 2 (some .boolean), Cond.fieldLink RX0 28 "GustMill$State" "lefts" "[I", Cond.methodLink RX0 108 yX0_isAhead, Cond.instanceMethod yX0_isAhead, Cond.selects RX0 yX0_isAhead yX0_isAhead, Cond.code yX0_isAhead cX0_isAhead 4 (some .boolean), Cond.fieldLink RX0 56 "GustMill$State" "rule" "I", Cond.fieldLink RX0 31 "GustMill$State" "untils" "[I", Cond.methodLink RX1 179 yX1_late, Cond.instanceMethod yX1_late, Cond.selects RX1 yX1_late yX1_late, Cond.code yX1_late cX1_late 1 (some .int), Cond.methodLink RX1 137 yX0_hoursLate]
def wsX1_digest_r4 : List Cond := [Cond.instanceMethod yX0_hoursLate, Cond.selects RX0 yX0_hoursLate yX0_hoursLate, Cond.code yX0_hoursLate cX0_hoursLate 3 (some .int), Cond.fieldLink RX0 37 "GustMill$State" "groundHours" "[I", Cond.methodLink RX0 112 Lib.Math.max.name, Cond.static Lib.Math.max.name, Cond.initialized "java/lang/Math", Cond.code Lib.Math.max.name Lib.Math.max.code 2 (some .int), Cond.methodLink RX1 182 yX1_bestRule, Cond.instanceMethod yX1_bestRule, Cond.selects RX1 yX1_bestRule yX1_bestRule, Cond.code yX1_bestRule cX1_bestRule 5 (some .int), Cond.methodLink RX1 147 yX1_lateWith, Cond.instanceMethod yX1_lateWith, Cond.selects RX1 yX1_lateWith yX1_lateWith, Cond.code yX1_lateWith cX1_lateWith 3 (some .int), Cond.fieldLink RX1 16 "GustMill" "trial" "LGustMill$State;", Cond.methodLink RX1 50 yX1_requireRule, Cond.static yX1_requireRule, Cond.code yX1_requireRule cX1_requireRule 1 none, Cond.classLink RX1 19 "java/lang/IllegalArgumentException", Cond.initialized "java/lang/IllegalArgumentException", Cond.methodLink RX1 143 yX0_become, Cond.instanceMethod yX0_become]
def wsX1_digest_r5 : List Cond := [Cond.selects RX0 yX0_become yX0_become, Cond.code yX0_become cX0_become 2 none, Cond.fieldLink RX0 15 "GustMill$State" "sizes" "[I", Cond.fieldLink RX0 18 "GustMill$State" "sacksUpon" "[I", Cond.fieldLink RX0 25 "GustMill$State" "bakers" "[I", Cond.fieldLink RX0 44 "GustMill$State" "stoneCount" "I", Cond.fieldLink RX0 50 "GustMill$State" "groundCount" "I", Cond.fieldLink RX0 53 "GustMill$State" "changeCount" "I", Cond.fieldLink RX0 59 "GustMill$State" "isTakingOff" "Z", Cond.methodLink RX0 63 yX0_copyRow, Cond.static yX0_copyRow, Cond.code yX0_copyRow cX0_copyRow 3 none, Cond.methodLink RX1 96 yX0_run, Cond.instanceMethod yX0_run, Cond.selects RX0 yX0_run yX0_run, Cond.code yX0_run cX0_run 5 (some .int), Cond.methodLink RX0 67 yX0_takeOffUnwanted, Cond.instanceMethod yX0_takeOffUnwanted, Cond.selects RX0 yX0_takeOffUnwanted yX0_takeOffUnwanted, Cond.code yX0_takeOffUnwanted cX0_takeOffUnwanted 3 none, Cond.methodLink RX0 80 yX0_countAhead, Cond.instanceMethod yX0_countAhead, Cond.selects RX0 yX0_countAhead yX0_countAhead, Cond.code yX0_countAhead cX0_countAhead 4 (some .int)]
def wsX1_digest_r6 : List Cond := [Cond.methodLink RX0 84 yX0_clearStone, Cond.instanceMethod yX0_clearStone, Cond.selects RX0 yX0_clearStone yX0_clearStone, Cond.code yX0_clearStone cX0_clearStone 3 none, Cond.methodLink RX0 70 yX0_fillStones, Cond.instanceMethod yX0_fillStones, Cond.selects RX0 yX0_fillStones yX0_fillStones, Cond.code yX0_fillStones cX0_fillStones 3 none, Cond.fieldLink RX0 21 "GustMill$State" "isFresh" "[Z", Cond.methodLink RX0 88 yX0_firstByRule, Cond.methodLink RX0 73 yX0_grind, Cond.instanceMethod yX0_grind, Cond.selects RX0 yX0_grind yX0_grind, Cond.code yX0_grind cX0_grind 7 (some .int), Cond.methodLink RX0 95 Lib.Math.min.name, Cond.static Lib.Math.min.name, Cond.code Lib.Math.min.name Lib.Math.min.code 2 (some .int), Cond.methodLink RX0 92 yX0_windOfHour, Cond.methodLink RX0 77 yX0_finishSacks, Cond.instanceMethod yX0_finishSacks, Cond.selects RX0 yX0_finishSacks yX0_finishSacks, Cond.code yX0_finishSacks cX0_finishSacks 3 none, Cond.methodLink RX1 185 yX1_groundIn, Cond.instanceMethod yX1_groundIn]
def wsX1_digest_r7 : List Cond := [Cond.selects RX1 yX1_groundIn yX1_groundIn, Cond.code yX1_groundIn cX1_groundIn 2 (some .int), Cond.methodLink RX1 93 yX1_requireHours, Cond.static yX1_requireHours, Cond.code yX1_requireHours cX1_requireHours 1 none, Cond.methodLink RX1 188 yX1_sackOn, Cond.instanceMethod yX1_sackOn, Cond.selects RX1 yX1_sackOn yX1_sackOn, Cond.code yX1_sackOn cX1_sackOn 2 (some .int), Cond.classLink RX1 39 "java/lang/IndexOutOfBoundsException", Cond.initialized "java/lang/IndexOutOfBoundsException", Cond.methodLink RX1 191 yX1_mixSacks, Cond.instanceMethod yX1_mixSacks, Cond.selects RX1 yX1_mixSacks yX1_mixSacks, Cond.code yX1_mixSacks cX1_mixSacks 6 (some .long), Cond.methodLink RX1 140 yX1_lookAhead, Cond.instanceMethod yX1_lookAhead, Cond.selects RX1 yX1_lookAhead yX1_lookAhead, Cond.code yX1_lookAhead cX1_lookAhead 1 none, Cond.methodLink RX1 198 yX1_stoneOf, Cond.instanceMethod yX1_stoneOf, Cond.selects RX1 yX1_stoneOf yX1_stoneOf, Cond.code yX1_stoneOf cX1_stoneOf 2 (some .int), Cond.methodLink RX1 79 yX1_requireSack]
def wsX1_digest_r8 : List Cond := [Cond.instanceMethod yX1_requireSack, Cond.selects RX1 yX1_requireSack yX1_requireSack, Cond.code yX1_requireSack cX1_requireSack 2 none, Cond.methodLink RX1 201 yX1_leftOf, Cond.instanceMethod yX1_leftOf, Cond.selects RX1 yX1_leftOf yX1_leftOf, Cond.code yX1_leftOf cX1_leftOf 2 (some .int), Cond.methodLink RX1 204 yX1_untilOf, Cond.instanceMethod yX1_untilOf, Cond.selects RX1 yX1_untilOf yX1_untilOf, Cond.code yX1_untilOf cX1_untilOf 2 (some .int), Cond.methodLink RX1 207 yX1_groundAt, Cond.instanceMethod yX1_groundAt, Cond.selects RX1 yX1_groundAt yX1_groundAt, Cond.code yX1_groundAt cX1_groundAt 2 (some .int), Cond.methodLink RX1 210 yX1_placeOf, Cond.instanceMethod yX1_placeOf, Cond.selects RX1 yX1_placeOf yX1_placeOf, Cond.code yX1_placeOf cX1_placeOf 2 (some .int), Cond.methodLink RX1 127 yX0_isGround, Cond.methodLink RX1 131 yX0_countAhead, Cond.methodLink RX1 195 yX1_leftFor, Cond.instanceMethod yX1_leftFor, Cond.selects RX1 yX1_leftFor yX1_leftFor]
def wsX1_digest_r9 : List Cond := [Cond.code yX1_leftFor cX1_leftFor 4 (some .int), Cond.methodLink RX1 61 yX1_requireBaker, Cond.static yX1_requireBaker, Cond.code yX1_requireBaker cX1_requireBaker 1 none]
def wsX1_digest : List Cond := .code yX1_digest cX1_digest 4 (some .long) :: ((wsX1_digest_r1 ++ (wsX1_digest_r2 ++ (wsX1_digest_r3 ++ (wsX1_digest_r4 ++ (wsX1_digest_r5 ++ (wsX1_digest_r6 ++ (wsX1_digest_r7 ++ (wsX1_digest_r8 ++ wsX1_digest_r9)))))))) ++ wsX10 ++ wsX00 ++ (vx_atS RX1 23 "java/lang/IllegalArgumentException" ["java/lang/RuntimeException", "java/lang/Exception"]).filter goodWord ++ (vx_atS RX1 43 "java/lang/IndexOutOfBoundsException" ["java/lang/RuntimeException", "java/lang/Exception"]).filter goodWord)
def wsX2_init : List Cond := .code yX2_init cX2_init 2 none :: ([.methodLink RX2 1 objectInit, .instanceMethod objectInit, .code objectInit ⟨#[0xb1]⟩ 1 none, .arrayClass .int, .fieldLink RX2 9 "GustMillModel" "size" "[I", .fieldLink RX2 13 "GustMillModel" "wind" "[I", .fieldLink RX2 16 "GustMillModel" "baker" "[I", .fieldLink RX2 19 "GustMillModel" "until" "[I", .fieldLink RX2 22 "GustMillModel" "now" "[I", .fieldLink RX2 25 "GustMillModel" "kept" "[I", .fieldLink RX2 28 "GustMillModel" "fresh" "[I"] ++ wsX20)
def wsX2_thrown : List Cond := .code yX2_thrown cX2_thrown 1 (some .int) :: ([.fieldLink RX2 31 "GustMillModel" "thrown" "I"] ++ wsX20)
def wsX2_fail : List Cond := .code yX2_fail cX2_fail 2 (some .int) :: ([.fieldLink RX2 31 "GustMillModel" "thrown" "I"] ++ wsX20)
def wsX2_told : List Cond := .code yX2_told cX2_told 2 (some .int) :: ([.fieldLink RX2 31 "GustMillModel" "thrown" "I"] ++ wsX20)
def wsX2_isIn : List Cond := .code yX2_isIn cX2_isIn 3 (some .boolean) :: ([])
def wsX2_isStone : List Cond := .code yX2_isStone cX2_isStone 2 (some .boolean) :: ([.fieldLink RX2 35 "GustMillModel" "stones" "I", .methodLink RX2 38 yX2_isIn, .static yX2_isIn, .initialized RX2, .code yX2_isIn cX2_isIn 3 (some .boolean)] ++ wsX20)
def wsX2_isSack : List Cond := .code yX2_isSack cX2_isSack 2 (some .boolean) :: ([.fieldLink RX2 42 "GustMillModel" "sacks" "I", .methodLink RX2 38 yX2_isIn, .static yX2_isIn, .initialized RX2, .code yX2_isIn cX2_isIn 3 (some .boolean)] ++ wsX20)
def wsX2_keep : List Cond := .code yX2_keep cX2_keep 1 none :: ([.fieldLink RX2 22 "GustMillModel" "now" "[I", .fieldLink RX2 25 "GustMillModel" "kept" "[I", .methodLink RX2 45 arraycopyName, .native arraycopyName, .static arraycopyName, .initialized "java/lang/System"] ++ wsX20)
def wsX2_bringBack : List Cond := .code yX2_bringBack cX2_bringBack 1 none :: ([.fieldLink RX2 25 "GustMillModel" "kept" "[I", .fieldLink RX2 22 "GustMillModel" "now" "[I", .methodLink RX2 45 arraycopyName, .native arraycopyName, .static arraycopyName, .initialized "java/lang/System"] ++ wsX20)
def wsX2_isDone : List Cond := .code yX2_isDone cX2_isDone 2 (some .boolean) :: ([.fieldLink RX2 22 "GustMillModel" "now" "[I"] ++ wsX20)
def wsX2_turn : List Cond := .code yX2_turn cX2_turn 2 (some .int) :: ([.fieldLink RX2 51 "GustMillModel" "rule" "I", .fieldLink RX2 19 "GustMillModel" "until" "[I", .fieldLink RX2 22 "GustMillModel" "now" "[I"] ++ wsX20)
def wsX2_ahead : List Cond := .code yX2_ahead cX2_ahead 4 (some .int) :: ([.fieldLink RX2 42 "GustMillModel" "sacks" "I", .methodLink RX2 54 yX2_isDone, .instanceMethod yX2_isDone, .selects RX2 yX2_isDone yX2_isDone, .initialized RX2, .code yX2_isDone cX2_isDone 2 (some .boolean), .fieldLink RX2 22 "GustMillModel" "now" "[I", .methodLink RX2 58 yX2_turn, .instanceMethod yX2_turn, .selects RX2 yX2_turn yX2_turn, .code yX2_turn cX2_turn 2 (some .int), .fieldLink RX2 51 "GustMillModel" "rule" "I", .fieldLink RX2 19 "GustMillModel" "until" "[I"] ++ wsX20)
def wsX2_next : List Cond := .code yX2_next cX2_next 4 (some .int) :: ([.fieldLink RX2 42 "GustMillModel" "sacks" "I", .fieldLink RX2 22 "GustMillModel" "now" "[I", .methodLink RX2 54 yX2_isDone, .instanceMethod yX2_isDone, .selects RX2 yX2_isDone yX2_isDone, .initialized RX2, .code yX2_isDone cX2_isDone 2 (some .boolean), .methodLink RX2 58 yX2_turn, .instanceMethod yX2_turn, .selects RX2 yX2_turn yX2_turn, .code yX2_turn cX2_turn 2 (some .int), .fieldLink RX2 51 "GustMillModel" "rule" "I", .fieldLink RX2 19 "GustMillModel" "until" "[I"] ++ wsX20)
def wsX2_on : List Cond := .code yX2_on cX2_on 3 (some .int) :: ([.fieldLink RX2 42 "GustMillModel" "sacks" "I", .fieldLink RX2 22 "GustMillModel" "now" "[I"] ++ wsX20)
def wsX2_hourOn_r1 : List Cond := [Cond.fieldLink RX2 42 "GustMillModel" "sacks" "I", Cond.fieldLink RX2 62 "GustMillModel" "isAllowed" "Z", Cond.fieldLink RX2 22 "GustMillModel" "now" "[I", Cond.fieldLink RX2 35 "GustMillModel" "stones" "I", Cond.fieldLink RX2 28 "GustMillModel" "fresh" "[I", Cond.fieldLink RX2 13 "GustMillModel" "wind" "[I", Cond.fieldLink RX2 9 "GustMillModel" "size" "[I", Cond.methodLink RX2 76 Lib.Math.min.name, Cond.static Lib.Math.min.name, Cond.initialized "java/lang/Math", Cond.code Lib.Math.min.name Lib.Math.min.code 2 (some .int), Cond.methodLink RX2 66 yX2_ahead, Cond.instanceMethod yX2_ahead, Cond.selects RX2 yX2_ahead yX2_ahead, Cond.initialized RX2, Cond.code yX2_ahead cX2_ahead 4 (some .int), Cond.methodLink RX2 54 yX2_isDone, Cond.instanceMethod yX2_isDone, Cond.selects RX2 yX2_isDone yX2_isDone, Cond.code yX2_isDone cX2_isDone 2 (some .boolean), Cond.methodLink RX2 58 yX2_turn, Cond.instanceMethod yX2_turn, Cond.selects RX2 yX2_turn yX2_turn, Cond.code yX2_turn cX2_turn 2 (some .int)]
def wsX2_hourOn_r2 : List Cond := [Cond.fieldLink RX2 51 "GustMillModel" "rule" "I", Cond.fieldLink RX2 19 "GustMillModel" "until" "[I", Cond.methodLink RX2 69 yX2_on, Cond.instanceMethod yX2_on, Cond.selects RX2 yX2_on yX2_on, Cond.code yX2_on cX2_on 3 (some .int), Cond.methodLink RX2 72 yX2_next, Cond.instanceMethod yX2_next, Cond.selects RX2 yX2_next yX2_next, Cond.code yX2_next cX2_next 4 (some .int)]
def wsX2_hourOn : List Cond := .code yX2_hourOn cX2_hourOn 5 none :: ((wsX2_hourOn_r1 ++ wsX2_hourOn_r2) ++ wsX20)
def wsX2_hoursOn_r1 : List Cond := [Cond.methodLink RX2 82 yX2_hourOn, Cond.instanceMethod yX2_hourOn, Cond.selects RX2 yX2_hourOn yX2_hourOn, Cond.initialized RX2, Cond.code yX2_hourOn cX2_hourOn 5 none, Cond.fieldLink RX2 42 "GustMillModel" "sacks" "I", Cond.fieldLink RX2 62 "GustMillModel" "isAllowed" "Z", Cond.fieldLink RX2 22 "GustMillModel" "now" "[I", Cond.fieldLink RX2 35 "GustMillModel" "stones" "I", Cond.fieldLink RX2 28 "GustMillModel" "fresh" "[I", Cond.fieldLink RX2 13 "GustMillModel" "wind" "[I", Cond.fieldLink RX2 9 "GustMillModel" "size" "[I", Cond.methodLink RX2 76 Lib.Math.min.name, Cond.static Lib.Math.min.name, Cond.initialized "java/lang/Math", Cond.code Lib.Math.min.name Lib.Math.min.code 2 (some .int), Cond.methodLink RX2 66 yX2_ahead, Cond.instanceMethod yX2_ahead, Cond.selects RX2 yX2_ahead yX2_ahead, Cond.code yX2_ahead cX2_ahead 4 (some .int), Cond.methodLink RX2 54 yX2_isDone, Cond.instanceMethod yX2_isDone, Cond.selects RX2 yX2_isDone yX2_isDone, Cond.code yX2_isDone cX2_isDone 2 (some .boolean)]
def wsX2_hoursOn_r2 : List Cond := [Cond.methodLink RX2 58 yX2_turn, Cond.instanceMethod yX2_turn, Cond.selects RX2 yX2_turn yX2_turn, Cond.code yX2_turn cX2_turn 2 (some .int), Cond.fieldLink RX2 51 "GustMillModel" "rule" "I", Cond.fieldLink RX2 19 "GustMillModel" "until" "[I", Cond.methodLink RX2 69 yX2_on, Cond.instanceMethod yX2_on, Cond.selects RX2 yX2_on yX2_on, Cond.code yX2_on cX2_on 3 (some .int), Cond.methodLink RX2 72 yX2_next, Cond.instanceMethod yX2_next, Cond.selects RX2 yX2_next yX2_next, Cond.code yX2_next cX2_next 4 (some .int)]
def wsX2_hoursOn : List Cond := .code yX2_hoursOn cX2_hoursOn 3 none :: ((wsX2_hoursOn_r1 ++ wsX2_hoursOn_r2) ++ wsX20)
def wsX2_addStone : List Cond := .code yX2_addStone cX2_addStone 2 (some .int) :: ([.fieldLink RX2 31 "GustMillModel" "thrown" "I", .fieldLink RX2 35 "GustMillModel" "stones" "I", .fieldLink RX2 9 "GustMillModel" "size" "[I", .methodLink RX2 38 yX2_isIn, .static yX2_isIn, .initialized RX2, .code yX2_isIn cX2_isIn 3 (some .boolean), .methodLink RX2 85 yX2_fail, .instanceMethod yX2_fail, .selects RX2 yX2_fail yX2_fail, .code yX2_fail cX2_fail 2 (some .int)] ++ wsX20)
def wsX2_setWind : List Cond := .code yX2_setWind cX2_setWind 4 (some .int) :: ([.fieldLink RX2 31 "GustMillModel" "thrown" "I", .fieldLink RX2 13 "GustMillModel" "wind" "[I", .methodLink RX2 38 yX2_isIn, .static yX2_isIn, .initialized RX2, .code yX2_isIn cX2_isIn 3 (some .boolean), .methodLink RX2 85 yX2_fail, .instanceMethod yX2_fail, .selects RX2 yX2_fail yX2_fail, .code yX2_fail cX2_fail 2 (some .int)] ++ wsX20)
def wsX2_setRule : List Cond := .code yX2_setRule cX2_setRule 3 (some .int) :: ([.fieldLink RX2 31 "GustMillModel" "thrown" "I", .fieldLink RX2 51 "GustMillModel" "rule" "I", .methodLink RX2 38 yX2_isIn, .static yX2_isIn, .initialized RX2, .code yX2_isIn cX2_isIn 3 (some .boolean), .methodLink RX2 85 yX2_fail, .instanceMethod yX2_fail, .selects RX2 yX2_fail yX2_fail, .code yX2_fail cX2_fail 2 (some .int)] ++ wsX20)
def wsX2_setTakingOff : List Cond := .code yX2_setTakingOff cX2_setTakingOff 3 (some .boolean) :: ([.fieldLink RX2 31 "GustMillModel" "thrown" "I", .fieldLink RX2 62 "GustMillModel" "isAllowed" "Z"] ++ wsX20)
def wsX2_put : List Cond := .code yX2_put cX2_put 4 none :: ([.fieldLink RX2 16 "GustMillModel" "baker" "[I", .fieldLink RX2 42 "GustMillModel" "sacks" "I", .fieldLink RX2 19 "GustMillModel" "until" "[I", .fieldLink RX2 22 "GustMillModel" "now" "[I"] ++ wsX20)
def wsX2_bring : List Cond := .code yX2_bring cX2_bring 4 (some .int) :: ([.fieldLink RX2 31 "GustMillModel" "thrown" "I", .fieldLink RX2 42 "GustMillModel" "sacks" "I", .methodLink RX2 38 yX2_isIn, .static yX2_isIn, .initialized RX2, .code yX2_isIn cX2_isIn 3 (some .boolean), .methodLink RX2 85 yX2_fail, .instanceMethod yX2_fail, .selects RX2 yX2_fail yX2_fail, .code yX2_fail cX2_fail 2 (some .int), .methodLink RX2 88 yX2_put, .instanceMethod yX2_put, .selects RX2 yX2_put yX2_put, .code yX2_put cX2_put 4 none, .fieldLink RX2 16 "GustMillModel" "baker" "[I", .fieldLink RX2 19 "GustMillModel" "until" "[I", .fieldLink RX2 22 "GustMillModel" "now" "[I"] ++ wsX20)
def wsX2_lift : List Cond := .code yX2_lift cX2_lift 3 (some .int) :: ([.fieldLink RX2 31 "GustMillModel" "thrown" "I", .fieldLink RX2 22 "GustMillModel" "now" "[I", .methodLink RX2 92 yX2_isSack, .instanceMethod yX2_isSack, .selects RX2 yX2_isSack yX2_isSack, .initialized RX2, .code yX2_isSack cX2_isSack 2 (some .boolean), .fieldLink RX2 42 "GustMillModel" "sacks" "I", .methodLink RX2 38 yX2_isIn, .static yX2_isIn, .code yX2_isIn cX2_isIn 3 (some .boolean), .methodLink RX2 85 yX2_fail, .instanceMethod yX2_fail, .selects RX2 yX2_fail yX2_fail, .code yX2_fail cX2_fail 2 (some .int)] ++ wsX20)
def wsX2_setUntil : List Cond := .code yX2_setUntil cX2_setUntil 4 (some .int) :: ([.fieldLink RX2 31 "GustMillModel" "thrown" "I", .fieldLink RX2 19 "GustMillModel" "until" "[I", .methodLink RX2 92 yX2_isSack, .instanceMethod yX2_isSack, .selects RX2 yX2_isSack yX2_isSack, .initialized RX2, .code yX2_isSack cX2_isSack 2 (some .boolean), .fieldLink RX2 42 "GustMillModel" "sacks" "I", .methodLink RX2 38 yX2_isIn, .static yX2_isIn, .code yX2_isIn cX2_isIn 3 (some .boolean), .methodLink RX2 85 yX2_fail, .instanceMethod yX2_fail, .selects RX2 yX2_fail yX2_fail, .code yX2_fail cX2_fail 2 (some .int)] ++ wsX20)
def wsX2_pass_r1 : List Cond := [Cond.fieldLink RX2 31 "GustMillModel" "thrown" "I", Cond.fieldLink RX2 22 "GustMillModel" "now" "[I", Cond.methodLink RX2 38 yX2_isIn, Cond.static yX2_isIn, Cond.initialized RX2, Cond.code yX2_isIn cX2_isIn 3 (some .boolean), Cond.methodLink RX2 85 yX2_fail, Cond.instanceMethod yX2_fail, Cond.selects RX2 yX2_fail yX2_fail, Cond.code yX2_fail cX2_fail 2 (some .int), Cond.methodLink RX2 95 yX2_hoursOn, Cond.instanceMethod yX2_hoursOn, Cond.selects RX2 yX2_hoursOn yX2_hoursOn, Cond.code yX2_hoursOn cX2_hoursOn 3 none, Cond.methodLink RX2 82 yX2_hourOn, Cond.instanceMethod yX2_hourOn, Cond.selects RX2 yX2_hourOn yX2_hourOn, Cond.code yX2_hourOn cX2_hourOn 5 none, Cond.fieldLink RX2 42 "GustMillModel" "sacks" "I", Cond.fieldLink RX2 62 "GustMillModel" "isAllowed" "Z", Cond.fieldLink RX2 35 "GustMillModel" "stones" "I", Cond.fieldLink RX2 28 "GustMillModel" "fresh" "[I", Cond.fieldLink RX2 13 "GustMillModel" "wind" "[I", Cond.fieldLink RX2 9 "GustMillModel" "size" "[I"]
def wsX2_pass_r2 : List Cond := [Cond.methodLink RX2 76 Lib.Math.min.name, Cond.static Lib.Math.min.name, Cond.initialized "java/lang/Math", Cond.code Lib.Math.min.name Lib.Math.min.code 2 (some .int), Cond.methodLink RX2 66 yX2_ahead, Cond.instanceMethod yX2_ahead, Cond.selects RX2 yX2_ahead yX2_ahead, Cond.code yX2_ahead cX2_ahead 4 (some .int), Cond.methodLink RX2 54 yX2_isDone, Cond.instanceMethod yX2_isDone, Cond.selects RX2 yX2_isDone yX2_isDone, Cond.code yX2_isDone cX2_isDone 2 (some .boolean), Cond.methodLink RX2 58 yX2_turn, Cond.instanceMethod yX2_turn, Cond.selects RX2 yX2_turn yX2_turn, Cond.code yX2_turn cX2_turn 2 (some .int), Cond.fieldLink RX2 51 "GustMillModel" "rule" "I", Cond.fieldLink RX2 19 "GustMillModel" "until" "[I", Cond.methodLink RX2 69 yX2_on, Cond.instanceMethod yX2_on, Cond.selects RX2 yX2_on yX2_on, Cond.code yX2_on cX2_on 3 (some .int), Cond.methodLink RX2 72 yX2_next, Cond.instanceMethod yX2_next]
def wsX2_pass_r3 : List Cond := [Cond.selects RX2 yX2_next yX2_next, Cond.code yX2_next cX2_next 4 (some .int)]
def wsX2_pass : List Cond := .code yX2_pass cX2_pass 3 (some .int) :: ((wsX2_pass_r1 ++ (wsX2_pass_r2 ++ wsX2_pass_r3)) ++ wsX20)
def wsX2_hour : List Cond := .code yX2_hour cX2_hour 1 (some .int) :: ([.fieldLink RX2 22 "GustMillModel" "now" "[I", .methodLink RX2 99 yX2_told, .instanceMethod yX2_told, .selects RX2 yX2_told yX2_told, .initialized RX2, .code yX2_told cX2_told 2 (some .int), .fieldLink RX2 31 "GustMillModel" "thrown" "I"] ++ wsX20)
def wsX2_stones : List Cond := .code yX2_stones cX2_stones 1 (some .int) :: ([.fieldLink RX2 35 "GustMillModel" "stones" "I", .methodLink RX2 99 yX2_told, .instanceMethod yX2_told, .selects RX2 yX2_told yX2_told, .initialized RX2, .code yX2_told cX2_told 2 (some .int), .fieldLink RX2 31 "GustMillModel" "thrown" "I"] ++ wsX20)
def wsX2_sacks : List Cond := .code yX2_sacks cX2_sacks 1 (some .int) :: ([.fieldLink RX2 42 "GustMillModel" "sacks" "I", .methodLink RX2 99 yX2_told, .instanceMethod yX2_told, .selects RX2 yX2_told yX2_told, .initialized RX2, .code yX2_told cX2_told 2 (some .int), .fieldLink RX2 31 "GustMillModel" "thrown" "I"] ++ wsX20)
def wsX2_rule : List Cond := .code yX2_rule cX2_rule 1 (some .int) :: ([.fieldLink RX2 51 "GustMillModel" "rule" "I", .methodLink RX2 99 yX2_told, .instanceMethod yX2_told, .selects RX2 yX2_told yX2_told, .initialized RX2, .code yX2_told cX2_told 2 (some .int), .fieldLink RX2 31 "GustMillModel" "thrown" "I"] ++ wsX20)
def wsX2_wind : List Cond := .code yX2_wind cX2_wind 1 (some .int) :: ([.fieldLink RX2 13 "GustMillModel" "wind" "[I", .fieldLink RX2 22 "GustMillModel" "now" "[I", .methodLink RX2 99 yX2_told, .instanceMethod yX2_told, .selects RX2 yX2_told yX2_told, .initialized RX2, .code yX2_told cX2_told 2 (some .int), .fieldLink RX2 31 "GustMillModel" "thrown" "I"] ++ wsX20)
def wsX2_sackOn : List Cond := .code yX2_sackOn cX2_sackOn 2 (some .int) :: ([.fieldLink RX2 31 "GustMillModel" "thrown" "I", .methodLink RX2 102 yX2_isStone, .instanceMethod yX2_isStone, .selects RX2 yX2_isStone yX2_isStone, .initialized RX2, .code yX2_isStone cX2_isStone 2 (some .boolean), .fieldLink RX2 35 "GustMillModel" "stones" "I", .methodLink RX2 38 yX2_isIn, .static yX2_isIn, .code yX2_isIn cX2_isIn 3 (some .boolean), .methodLink RX2 69 yX2_on, .instanceMethod yX2_on, .selects RX2 yX2_on yX2_on, .code yX2_on cX2_on 3 (some .int), .fieldLink RX2 42 "GustMillModel" "sacks" "I", .fieldLink RX2 22 "GustMillModel" "now" "[I", .methodLink RX2 85 yX2_fail, .instanceMethod yX2_fail, .selects RX2 yX2_fail yX2_fail, .code yX2_fail cX2_fail 2 (some .int)] ++ wsX20)
def wsX2_of : List Cond := .code yX2_of cX2_of 3 (some .int) :: ([.fieldLink RX2 31 "GustMillModel" "thrown" "I", .fieldLink RX2 22 "GustMillModel" "now" "[I", .methodLink RX2 92 yX2_isSack, .instanceMethod yX2_isSack, .selects RX2 yX2_isSack yX2_isSack, .initialized RX2, .code yX2_isSack cX2_isSack 2 (some .boolean), .fieldLink RX2 42 "GustMillModel" "sacks" "I", .methodLink RX2 38 yX2_isIn, .static yX2_isIn, .code yX2_isIn cX2_isIn 3 (some .boolean), .methodLink RX2 85 yX2_fail, .instanceMethod yX2_fail, .selects RX2 yX2_fail yX2_fail, .code yX2_fail cX2_fail 2 (some .int)] ++ wsX20)
def wsX2_stoneOf : List Cond := .code yX2_stoneOf cX2_stoneOf 2 (some .int) :: ([.methodLink RX2 105 yX2_of, .instanceMethod yX2_of, .selects RX2 yX2_of yX2_of, .initialized RX2, .code yX2_of cX2_of 3 (some .int), .fieldLink RX2 31 "GustMillModel" "thrown" "I", .fieldLink RX2 22 "GustMillModel" "now" "[I", .methodLink RX2 92 yX2_isSack, .instanceMethod yX2_isSack, .selects RX2 yX2_isSack yX2_isSack, .code yX2_isSack cX2_isSack 2 (some .boolean), .fieldLink RX2 42 "GustMillModel" "sacks" "I", .methodLink RX2 38 yX2_isIn, .static yX2_isIn, .code yX2_isIn cX2_isIn 3 (some .boolean), .methodLink RX2 85 yX2_fail, .instanceMethod yX2_fail, .selects RX2 yX2_fail yX2_fail, .code yX2_fail cX2_fail 2 (some .int)] ++ wsX20)
def wsX2_leftOf : List Cond := .code yX2_leftOf cX2_leftOf 2 (some .int) :: ([.methodLink RX2 105 yX2_of, .instanceMethod yX2_of, .selects RX2 yX2_of yX2_of, .initialized RX2, .code yX2_of cX2_of 3 (some .int), .fieldLink RX2 31 "GustMillModel" "thrown" "I", .fieldLink RX2 22 "GustMillModel" "now" "[I", .methodLink RX2 92 yX2_isSack, .instanceMethod yX2_isSack, .selects RX2 yX2_isSack yX2_isSack, .code yX2_isSack cX2_isSack 2 (some .boolean), .fieldLink RX2 42 "GustMillModel" "sacks" "I", .methodLink RX2 38 yX2_isIn, .static yX2_isIn, .code yX2_isIn cX2_isIn 3 (some .boolean), .methodLink RX2 85 yX2_fail, .instanceMethod yX2_fail, .selects RX2 yX2_fail yX2_fail, .code yX2_fail cX2_fail 2 (some .int)] ++ wsX20)
def wsX2_untilOf : List Cond := .code yX2_untilOf cX2_untilOf 2 (some .int) :: ([.fieldLink RX2 31 "GustMillModel" "thrown" "I", .fieldLink RX2 19 "GustMillModel" "until" "[I", .methodLink RX2 92 yX2_isSack, .instanceMethod yX2_isSack, .selects RX2 yX2_isSack yX2_isSack, .initialized RX2, .code yX2_isSack cX2_isSack 2 (some .boolean), .fieldLink RX2 42 "GustMillModel" "sacks" "I", .methodLink RX2 38 yX2_isIn, .static yX2_isIn, .code yX2_isIn cX2_isIn 3 (some .boolean), .methodLink RX2 85 yX2_fail, .instanceMethod yX2_fail, .selects RX2 yX2_fail yX2_fail, .code yX2_fail cX2_fail 2 (some .int)] ++ wsX20)
def wsX2_groundAt : List Cond := .code yX2_groundAt cX2_groundAt 2 (some .int) :: ([.methodLink RX2 105 yX2_of, .instanceMethod yX2_of, .selects RX2 yX2_of yX2_of, .initialized RX2, .code yX2_of cX2_of 3 (some .int), .fieldLink RX2 31 "GustMillModel" "thrown" "I", .fieldLink RX2 22 "GustMillModel" "now" "[I", .methodLink RX2 92 yX2_isSack, .instanceMethod yX2_isSack, .selects RX2 yX2_isSack yX2_isSack, .code yX2_isSack cX2_isSack 2 (some .boolean), .fieldLink RX2 42 "GustMillModel" "sacks" "I", .methodLink RX2 38 yX2_isIn, .static yX2_isIn, .code yX2_isIn cX2_isIn 3 (some .boolean), .methodLink RX2 85 yX2_fail, .instanceMethod yX2_fail, .selects RX2 yX2_fail yX2_fail, .code yX2_fail cX2_fail 2 (some .int)] ++ wsX20)
def wsX2_done : List Cond := .code yX2_done cX2_done 3 (some .int) :: ([.fieldLink RX2 42 "GustMillModel" "sacks" "I", .methodLink RX2 54 yX2_isDone, .instanceMethod yX2_isDone, .selects RX2 yX2_isDone yX2_isDone, .initialized RX2, .code yX2_isDone cX2_isDone 2 (some .boolean), .fieldLink RX2 22 "GustMillModel" "now" "[I"] ++ wsX20)
def wsX2_ground : List Cond := .code yX2_ground cX2_ground 1 (some .int) :: ([.methodLink RX2 108 yX2_done, .instanceMethod yX2_done, .selects RX2 yX2_done yX2_done, .initialized RX2, .code yX2_done cX2_done 3 (some .int), .fieldLink RX2 42 "GustMillModel" "sacks" "I", .methodLink RX2 54 yX2_isDone, .instanceMethod yX2_isDone, .selects RX2 yX2_isDone yX2_isDone, .code yX2_isDone cX2_isDone 2 (some .boolean), .fieldLink RX2 22 "GustMillModel" "now" "[I", .methodLink RX2 99 yX2_told, .instanceMethod yX2_told, .selects RX2 yX2_told yX2_told, .code yX2_told cX2_told 2 (some .int), .fieldLink RX2 31 "GustMillModel" "thrown" "I"] ++ wsX20)
def wsX2_changes : List Cond := .code yX2_changes cX2_changes 1 (some .int) :: ([.fieldLink RX2 22 "GustMillModel" "now" "[I", .methodLink RX2 99 yX2_told, .instanceMethod yX2_told, .selects RX2 yX2_told yX2_told, .initialized RX2, .code yX2_told cX2_told 2 (some .int), .fieldLink RX2 31 "GustMillModel" "thrown" "I"] ++ wsX20)
def wsX2_first : List Cond := .code yX2_first cX2_first 1 (some .int) :: ([.methodLink RX2 72 yX2_next, .instanceMethod yX2_next, .selects RX2 yX2_next yX2_next, .initialized RX2, .code yX2_next cX2_next 4 (some .int), .fieldLink RX2 42 "GustMillModel" "sacks" "I", .fieldLink RX2 22 "GustMillModel" "now" "[I", .methodLink RX2 54 yX2_isDone, .instanceMethod yX2_isDone, .selects RX2 yX2_isDone yX2_isDone, .code yX2_isDone cX2_isDone 2 (some .boolean), .methodLink RX2 58 yX2_turn, .instanceMethod yX2_turn, .selects RX2 yX2_turn yX2_turn, .code yX2_turn cX2_turn 2 (some .int), .fieldLink RX2 51 "GustMillModel" "rule" "I", .fieldLink RX2 19 "GustMillModel" "until" "[I", .methodLink RX2 99 yX2_told, .instanceMethod yX2_told, .selects RX2 yX2_told yX2_told, .code yX2_told cX2_told 2 (some .int), .fieldLink RX2 31 "GustMillModel" "thrown" "I"] ++ wsX20)
def wsX2_place : List Cond := .code yX2_place cX2_place 2 (some .int) :: ([.methodLink RX2 54 yX2_isDone, .instanceMethod yX2_isDone, .selects RX2 yX2_isDone yX2_isDone, .initialized RX2, .code yX2_isDone cX2_isDone 2 (some .boolean), .fieldLink RX2 22 "GustMillModel" "now" "[I", .methodLink RX2 66 yX2_ahead, .instanceMethod yX2_ahead, .selects RX2 yX2_ahead yX2_ahead, .code yX2_ahead cX2_ahead 4 (some .int), .fieldLink RX2 42 "GustMillModel" "sacks" "I", .methodLink RX2 58 yX2_turn, .instanceMethod yX2_turn, .selects RX2 yX2_turn yX2_turn, .code yX2_turn cX2_turn 2 (some .int), .fieldLink RX2 51 "GustMillModel" "rule" "I", .fieldLink RX2 19 "GustMillModel" "until" "[I"] ++ wsX20)
def wsX2_placeOf_r1 : List Cond := [Cond.fieldLink RX2 31 "GustMillModel" "thrown" "I", Cond.methodLink RX2 92 yX2_isSack, Cond.instanceMethod yX2_isSack, Cond.selects RX2 yX2_isSack yX2_isSack, Cond.initialized RX2, Cond.code yX2_isSack cX2_isSack 2 (some .boolean), Cond.fieldLink RX2 42 "GustMillModel" "sacks" "I", Cond.methodLink RX2 38 yX2_isIn, Cond.static yX2_isIn, Cond.code yX2_isIn cX2_isIn 3 (some .boolean), Cond.methodLink RX2 112 yX2_place, Cond.instanceMethod yX2_place, Cond.selects RX2 yX2_place yX2_place, Cond.code yX2_place cX2_place 2 (some .int), Cond.methodLink RX2 54 yX2_isDone, Cond.instanceMethod yX2_isDone, Cond.selects RX2 yX2_isDone yX2_isDone, Cond.code yX2_isDone cX2_isDone 2 (some .boolean), Cond.fieldLink RX2 22 "GustMillModel" "now" "[I", Cond.methodLink RX2 66 yX2_ahead, Cond.instanceMethod yX2_ahead, Cond.selects RX2 yX2_ahead yX2_ahead, Cond.code yX2_ahead cX2_ahead 4 (some .int), Cond.methodLink RX2 58 yX2_turn]
def wsX2_placeOf_r2 : List Cond := [Cond.instanceMethod yX2_turn, Cond.selects RX2 yX2_turn yX2_turn, Cond.code yX2_turn cX2_turn 2 (some .int), Cond.fieldLink RX2 51 "GustMillModel" "rule" "I", Cond.fieldLink RX2 19 "GustMillModel" "until" "[I", Cond.methodLink RX2 85 yX2_fail, Cond.instanceMethod yX2_fail, Cond.selects RX2 yX2_fail yX2_fail, Cond.code yX2_fail cX2_fail 2 (some .int)]
def wsX2_placeOf : List Cond := .code yX2_placeOf cX2_placeOf 2 (some .int) :: ((wsX2_placeOf_r1 ++ wsX2_placeOf_r2) ++ wsX20)
def wsX2_rest : List Cond := .code yX2_rest cX2_rest 4 (some .int) :: ([.fieldLink RX2 42 "GustMillModel" "sacks" "I", .fieldLink RX2 16 "GustMillModel" "baker" "[I", .fieldLink RX2 22 "GustMillModel" "now" "[I"] ++ wsX20)
def wsX2_leftFor : List Cond := .code yX2_leftFor cX2_leftFor 2 (some .int) :: ([.fieldLink RX2 31 "GustMillModel" "thrown" "I", .methodLink RX2 38 yX2_isIn, .static yX2_isIn, .initialized RX2, .code yX2_isIn cX2_isIn 3 (some .boolean), .methodLink RX2 115 yX2_rest, .instanceMethod yX2_rest, .selects RX2 yX2_rest yX2_rest, .code yX2_rest cX2_rest 4 (some .int), .fieldLink RX2 42 "GustMillModel" "sacks" "I", .fieldLink RX2 16 "GustMillModel" "baker" "[I", .fieldLink RX2 22 "GustMillModel" "now" "[I", .methodLink RX2 85 yX2_fail, .instanceMethod yX2_fail, .selects RX2 yX2_fail yX2_fail, .code yX2_fail cX2_fail 2 (some .int)] ++ wsX20)
def wsX2_lost : List Cond := .code yX2_lost cX2_lost 4 (some .int) :: ([.fieldLink RX2 42 "GustMillModel" "sacks" "I", .fieldLink RX2 22 "GustMillModel" "now" "[I", .fieldLink RX2 19 "GustMillModel" "until" "[I", .methodLink RX2 118 Lib.Math.max.name, .static Lib.Math.max.name, .initialized "java/lang/Math", .code Lib.Math.max.name Lib.Math.max.code 2 (some .int), .methodLink RX2 54 yX2_isDone, .instanceMethod yX2_isDone, .selects RX2 yX2_isDone yX2_isDone, .initialized RX2, .code yX2_isDone cX2_isDone 2 (some .boolean)] ++ wsX20)
def wsX2_late : List Cond := .code yX2_late cX2_late 1 (some .int) :: ([.methodLink RX2 121 yX2_lost, .instanceMethod yX2_lost, .selects RX2 yX2_lost yX2_lost, .initialized RX2, .code yX2_lost cX2_lost 4 (some .int), .fieldLink RX2 42 "GustMillModel" "sacks" "I", .fieldLink RX2 22 "GustMillModel" "now" "[I", .fieldLink RX2 19 "GustMillModel" "until" "[I", .methodLink RX2 118 Lib.Math.max.name, .static Lib.Math.max.name, .initialized "java/lang/Math", .code Lib.Math.max.name Lib.Math.max.code 2 (some .int), .methodLink RX2 54 yX2_isDone, .instanceMethod yX2_isDone, .selects RX2 yX2_isDone yX2_isDone, .code yX2_isDone cX2_isDone 2 (some .boolean), .methodLink RX2 99 yX2_told, .instanceMethod yX2_told, .selects RX2 yX2_told yX2_told, .code yX2_told cX2_told 2 (some .int), .fieldLink RX2 31 "GustMillModel" "thrown" "I"] ++ wsX20)
def wsX2_groundThen_r1 : List Cond := [Cond.fieldLink RX2 22 "GustMillModel" "now" "[I", Cond.methodLink RX2 124 yX2_keep, Cond.instanceMethod yX2_keep, Cond.selects RX2 yX2_keep yX2_keep, Cond.initialized RX2, Cond.code yX2_keep cX2_keep 1 none, Cond.fieldLink RX2 25 "GustMillModel" "kept" "[I", Cond.methodLink RX2 45 arraycopyName, Cond.native arraycopyName, Cond.static arraycopyName, Cond.initialized "java/lang/System", Cond.methodLink RX2 95 yX2_hoursOn, Cond.instanceMethod yX2_hoursOn, Cond.selects RX2 yX2_hoursOn yX2_hoursOn, Cond.code yX2_hoursOn cX2_hoursOn 3 none, Cond.methodLink RX2 82 yX2_hourOn, Cond.instanceMethod yX2_hourOn, Cond.selects RX2 yX2_hourOn yX2_hourOn, Cond.code yX2_hourOn cX2_hourOn 5 none, Cond.fieldLink RX2 42 "GustMillModel" "sacks" "I", Cond.fieldLink RX2 62 "GustMillModel" "isAllowed" "Z", Cond.fieldLink RX2 35 "GustMillModel" "stones" "I", Cond.fieldLink RX2 28 "GustMillModel" "fresh" "[I", Cond.fieldLink RX2 13 "GustMillModel" "wind" "[I"]
def wsX2_groundThen_r2 : List Cond := [Cond.fieldLink RX2 9 "GustMillModel" "size" "[I", Cond.methodLink RX2 76 Lib.Math.min.name, Cond.static Lib.Math.min.name, Cond.initialized "java/lang/Math", Cond.code Lib.Math.min.name Lib.Math.min.code 2 (some .int), Cond.methodLink RX2 66 yX2_ahead, Cond.instanceMethod yX2_ahead, Cond.selects RX2 yX2_ahead yX2_ahead, Cond.code yX2_ahead cX2_ahead 4 (some .int), Cond.methodLink RX2 54 yX2_isDone, Cond.instanceMethod yX2_isDone, Cond.selects RX2 yX2_isDone yX2_isDone, Cond.code yX2_isDone cX2_isDone 2 (some .boolean), Cond.methodLink RX2 58 yX2_turn, Cond.instanceMethod yX2_turn, Cond.selects RX2 yX2_turn yX2_turn, Cond.code yX2_turn cX2_turn 2 (some .int), Cond.fieldLink RX2 51 "GustMillModel" "rule" "I", Cond.fieldLink RX2 19 "GustMillModel" "until" "[I", Cond.methodLink RX2 69 yX2_on, Cond.instanceMethod yX2_on, Cond.selects RX2 yX2_on yX2_on, Cond.code yX2_on cX2_on 3 (some .int), Cond.methodLink RX2 72 yX2_next]
def wsX2_groundThen_r3 : List Cond := [Cond.instanceMethod yX2_next, Cond.selects RX2 yX2_next yX2_next, Cond.code yX2_next cX2_next 4 (some .int), Cond.methodLink RX2 127 yX2_bringBack, Cond.instanceMethod yX2_bringBack, Cond.selects RX2 yX2_bringBack yX2_bringBack, Cond.code yX2_bringBack cX2_bringBack 1 none]
def wsX2_groundThen : List Cond := .code yX2_groundThen cX2_groundThen 3 (some .int) :: ((wsX2_groundThen_r1 ++ (wsX2_groundThen_r2 ++ wsX2_groundThen_r3)) ++ wsX20)
def wsX2_willBeGroundAt_r1 : List Cond := [Cond.fieldLink RX2 31 "GustMillModel" "thrown" "I", Cond.methodLink RX2 92 yX2_isSack, Cond.instanceMethod yX2_isSack, Cond.selects RX2 yX2_isSack yX2_isSack, Cond.initialized RX2, Cond.code yX2_isSack cX2_isSack 2 (some .boolean), Cond.fieldLink RX2 42 "GustMillModel" "sacks" "I", Cond.methodLink RX2 38 yX2_isIn, Cond.static yX2_isIn, Cond.code yX2_isIn cX2_isIn 3 (some .boolean), Cond.methodLink RX2 130 yX2_groundThen, Cond.instanceMethod yX2_groundThen, Cond.selects RX2 yX2_groundThen yX2_groundThen, Cond.code yX2_groundThen cX2_groundThen 3 (some .int), Cond.fieldLink RX2 22 "GustMillModel" "now" "[I", Cond.methodLink RX2 124 yX2_keep, Cond.instanceMethod yX2_keep, Cond.selects RX2 yX2_keep yX2_keep, Cond.code yX2_keep cX2_keep 1 none, Cond.fieldLink RX2 25 "GustMillModel" "kept" "[I", Cond.methodLink RX2 45 arraycopyName, Cond.native arraycopyName, Cond.static arraycopyName, Cond.initialized "java/lang/System"]
def wsX2_willBeGroundAt_r2 : List Cond := [Cond.methodLink RX2 95 yX2_hoursOn, Cond.instanceMethod yX2_hoursOn, Cond.selects RX2 yX2_hoursOn yX2_hoursOn, Cond.code yX2_hoursOn cX2_hoursOn 3 none, Cond.methodLink RX2 82 yX2_hourOn, Cond.instanceMethod yX2_hourOn, Cond.selects RX2 yX2_hourOn yX2_hourOn, Cond.code yX2_hourOn cX2_hourOn 5 none, Cond.fieldLink RX2 62 "GustMillModel" "isAllowed" "Z", Cond.fieldLink RX2 35 "GustMillModel" "stones" "I", Cond.fieldLink RX2 28 "GustMillModel" "fresh" "[I", Cond.fieldLink RX2 13 "GustMillModel" "wind" "[I", Cond.fieldLink RX2 9 "GustMillModel" "size" "[I", Cond.methodLink RX2 76 Lib.Math.min.name, Cond.static Lib.Math.min.name, Cond.initialized "java/lang/Math", Cond.code Lib.Math.min.name Lib.Math.min.code 2 (some .int), Cond.methodLink RX2 66 yX2_ahead, Cond.instanceMethod yX2_ahead, Cond.selects RX2 yX2_ahead yX2_ahead, Cond.code yX2_ahead cX2_ahead 4 (some .int), Cond.methodLink RX2 54 yX2_isDone, Cond.instanceMethod yX2_isDone, Cond.selects RX2 yX2_isDone yX2_isDone]
def wsX2_willBeGroundAt_r3 : List Cond := [Cond.code yX2_isDone cX2_isDone 2 (some .boolean), Cond.methodLink RX2 58 yX2_turn, Cond.instanceMethod yX2_turn, Cond.selects RX2 yX2_turn yX2_turn, Cond.code yX2_turn cX2_turn 2 (some .int), Cond.fieldLink RX2 51 "GustMillModel" "rule" "I", Cond.fieldLink RX2 19 "GustMillModel" "until" "[I", Cond.methodLink RX2 69 yX2_on, Cond.instanceMethod yX2_on, Cond.selects RX2 yX2_on yX2_on, Cond.code yX2_on cX2_on 3 (some .int), Cond.methodLink RX2 72 yX2_next, Cond.instanceMethod yX2_next, Cond.selects RX2 yX2_next yX2_next, Cond.code yX2_next cX2_next 4 (some .int), Cond.methodLink RX2 127 yX2_bringBack, Cond.instanceMethod yX2_bringBack, Cond.selects RX2 yX2_bringBack yX2_bringBack, Cond.code yX2_bringBack cX2_bringBack 1 none, Cond.methodLink RX2 85 yX2_fail, Cond.instanceMethod yX2_fail, Cond.selects RX2 yX2_fail yX2_fail, Cond.code yX2_fail cX2_fail 2 (some .int)]
def wsX2_willBeGroundAt : List Cond := .code yX2_willBeGroundAt cX2_willBeGroundAt 2 (some .int) :: ((wsX2_willBeGroundAt_r1 ++ (wsX2_willBeGroundAt_r2 ++ wsX2_willBeGroundAt_r3)) ++ wsX20)
def wsX2_spareOf_r1 : List Cond := [Cond.fieldLink RX2 31 "GustMillModel" "thrown" "I", Cond.fieldLink RX2 19 "GustMillModel" "until" "[I", Cond.methodLink RX2 92 yX2_isSack, Cond.instanceMethod yX2_isSack, Cond.selects RX2 yX2_isSack yX2_isSack, Cond.initialized RX2, Cond.code yX2_isSack cX2_isSack 2 (some .boolean), Cond.fieldLink RX2 42 "GustMillModel" "sacks" "I", Cond.methodLink RX2 38 yX2_isIn, Cond.static yX2_isIn, Cond.code yX2_isIn cX2_isIn 3 (some .boolean), Cond.methodLink RX2 85 yX2_fail, Cond.instanceMethod yX2_fail, Cond.selects RX2 yX2_fail yX2_fail, Cond.code yX2_fail cX2_fail 2 (some .int), Cond.methodLink RX2 130 yX2_groundThen, Cond.instanceMethod yX2_groundThen, Cond.selects RX2 yX2_groundThen yX2_groundThen, Cond.code yX2_groundThen cX2_groundThen 3 (some .int), Cond.fieldLink RX2 22 "GustMillModel" "now" "[I", Cond.methodLink RX2 124 yX2_keep, Cond.instanceMethod yX2_keep, Cond.selects RX2 yX2_keep yX2_keep, Cond.code yX2_keep cX2_keep 1 none]
def wsX2_spareOf_r2 : List Cond := [Cond.fieldLink RX2 25 "GustMillModel" "kept" "[I", Cond.methodLink RX2 45 arraycopyName, Cond.native arraycopyName, Cond.static arraycopyName, Cond.initialized "java/lang/System", Cond.methodLink RX2 95 yX2_hoursOn, Cond.instanceMethod yX2_hoursOn, Cond.selects RX2 yX2_hoursOn yX2_hoursOn, Cond.code yX2_hoursOn cX2_hoursOn 3 none, Cond.methodLink RX2 82 yX2_hourOn, Cond.instanceMethod yX2_hourOn, Cond.selects RX2 yX2_hourOn yX2_hourOn, Cond.code yX2_hourOn cX2_hourOn 5 none, Cond.fieldLink RX2 62 "GustMillModel" "isAllowed" "Z", Cond.fieldLink RX2 35 "GustMillModel" "stones" "I", Cond.fieldLink RX2 28 "GustMillModel" "fresh" "[I", Cond.fieldLink RX2 13 "GustMillModel" "wind" "[I", Cond.fieldLink RX2 9 "GustMillModel" "size" "[I", Cond.methodLink RX2 76 Lib.Math.min.name, Cond.static Lib.Math.min.name, Cond.initialized "java/lang/Math", Cond.code Lib.Math.min.name Lib.Math.min.code 2 (some .int), Cond.methodLink RX2 66 yX2_ahead, Cond.instanceMethod yX2_ahead]
def wsX2_spareOf_r3 : List Cond := [Cond.selects RX2 yX2_ahead yX2_ahead, Cond.code yX2_ahead cX2_ahead 4 (some .int), Cond.methodLink RX2 54 yX2_isDone, Cond.instanceMethod yX2_isDone, Cond.selects RX2 yX2_isDone yX2_isDone, Cond.code yX2_isDone cX2_isDone 2 (some .boolean), Cond.methodLink RX2 58 yX2_turn, Cond.instanceMethod yX2_turn, Cond.selects RX2 yX2_turn yX2_turn, Cond.code yX2_turn cX2_turn 2 (some .int), Cond.fieldLink RX2 51 "GustMillModel" "rule" "I", Cond.methodLink RX2 69 yX2_on, Cond.instanceMethod yX2_on, Cond.selects RX2 yX2_on yX2_on, Cond.code yX2_on cX2_on 3 (some .int), Cond.methodLink RX2 72 yX2_next, Cond.instanceMethod yX2_next, Cond.selects RX2 yX2_next yX2_next, Cond.code yX2_next cX2_next 4 (some .int), Cond.methodLink RX2 127 yX2_bringBack, Cond.instanceMethod yX2_bringBack, Cond.selects RX2 yX2_bringBack yX2_bringBack, Cond.code yX2_bringBack cX2_bringBack 1 none]
def wsX2_spareOf : List Cond := .code yX2_spareOf cX2_spareOf 3 (some .int) :: ((wsX2_spareOf_r1 ++ (wsX2_spareOf_r2 ++ wsX2_spareOf_r3)) ++ wsX20)
def wsX2_lostBy_r1 : List Cond := [Cond.fieldLink RX2 51 "GustMillModel" "rule" "I", Cond.fieldLink RX2 62 "GustMillModel" "isAllowed" "Z", Cond.methodLink RX2 124 yX2_keep, Cond.instanceMethod yX2_keep, Cond.selects RX2 yX2_keep yX2_keep, Cond.initialized RX2, Cond.code yX2_keep cX2_keep 1 none, Cond.fieldLink RX2 22 "GustMillModel" "now" "[I", Cond.fieldLink RX2 25 "GustMillModel" "kept" "[I", Cond.methodLink RX2 45 arraycopyName, Cond.native arraycopyName, Cond.static arraycopyName, Cond.initialized "java/lang/System", Cond.methodLink RX2 95 yX2_hoursOn, Cond.instanceMethod yX2_hoursOn, Cond.selects RX2 yX2_hoursOn yX2_hoursOn, Cond.code yX2_hoursOn cX2_hoursOn 3 none, Cond.methodLink RX2 82 yX2_hourOn, Cond.instanceMethod yX2_hourOn, Cond.selects RX2 yX2_hourOn yX2_hourOn, Cond.code yX2_hourOn cX2_hourOn 5 none, Cond.fieldLink RX2 42 "GustMillModel" "sacks" "I", Cond.fieldLink RX2 35 "GustMillModel" "stones" "I", Cond.fieldLink RX2 28 "GustMillModel" "fresh" "[I"]
def wsX2_lostBy_r2 : List Cond := [Cond.fieldLink RX2 13 "GustMillModel" "wind" "[I", Cond.fieldLink RX2 9 "GustMillModel" "size" "[I", Cond.methodLink RX2 76 Lib.Math.min.name, Cond.static Lib.Math.min.name, Cond.initialized "java/lang/Math", Cond.code Lib.Math.min.name Lib.Math.min.code 2 (some .int), Cond.methodLink RX2 66 yX2_ahead, Cond.instanceMethod yX2_ahead, Cond.selects RX2 yX2_ahead yX2_ahead, Cond.code yX2_ahead cX2_ahead 4 (some .int), Cond.methodLink RX2 54 yX2_isDone, Cond.instanceMethod yX2_isDone, Cond.selects RX2 yX2_isDone yX2_isDone, Cond.code yX2_isDone cX2_isDone 2 (some .boolean), Cond.methodLink RX2 58 yX2_turn, Cond.instanceMethod yX2_turn, Cond.selects RX2 yX2_turn yX2_turn, Cond.code yX2_turn cX2_turn 2 (some .int), Cond.fieldLink RX2 19 "GustMillModel" "until" "[I", Cond.methodLink RX2 69 yX2_on, Cond.instanceMethod yX2_on, Cond.selects RX2 yX2_on yX2_on, Cond.code yX2_on cX2_on 3 (some .int), Cond.methodLink RX2 72 yX2_next]
def wsX2_lostBy_r3 : List Cond := [Cond.instanceMethod yX2_next, Cond.selects RX2 yX2_next yX2_next, Cond.code yX2_next cX2_next 4 (some .int), Cond.methodLink RX2 121 yX2_lost, Cond.instanceMethod yX2_lost, Cond.selects RX2 yX2_lost yX2_lost, Cond.code yX2_lost cX2_lost 4 (some .int), Cond.methodLink RX2 118 Lib.Math.max.name, Cond.static Lib.Math.max.name, Cond.code Lib.Math.max.name Lib.Math.max.code 2 (some .int), Cond.methodLink RX2 127 yX2_bringBack, Cond.instanceMethod yX2_bringBack, Cond.selects RX2 yX2_bringBack yX2_bringBack, Cond.code yX2_bringBack cX2_bringBack 1 none]
def wsX2_lostBy : List Cond := .code yX2_lostBy cX2_lostBy 6 (some .int) :: ((wsX2_lostBy_r1 ++ (wsX2_lostBy_r2 ++ wsX2_lostBy_r3)) ++ wsX20)
def wsX2_lateWith_r1 : List Cond := [Cond.fieldLink RX2 31 "GustMillModel" "thrown" "I", Cond.methodLink RX2 38 yX2_isIn, Cond.static yX2_isIn, Cond.initialized RX2, Cond.code yX2_isIn cX2_isIn 3 (some .boolean), Cond.methodLink RX2 133 yX2_lostBy, Cond.instanceMethod yX2_lostBy, Cond.selects RX2 yX2_lostBy yX2_lostBy, Cond.code yX2_lostBy cX2_lostBy 6 (some .int), Cond.fieldLink RX2 51 "GustMillModel" "rule" "I", Cond.fieldLink RX2 62 "GustMillModel" "isAllowed" "Z", Cond.methodLink RX2 124 yX2_keep, Cond.instanceMethod yX2_keep, Cond.selects RX2 yX2_keep yX2_keep, Cond.code yX2_keep cX2_keep 1 none, Cond.fieldLink RX2 22 "GustMillModel" "now" "[I", Cond.fieldLink RX2 25 "GustMillModel" "kept" "[I", Cond.methodLink RX2 45 arraycopyName, Cond.native arraycopyName, Cond.static arraycopyName, Cond.initialized "java/lang/System", Cond.methodLink RX2 95 yX2_hoursOn, Cond.instanceMethod yX2_hoursOn, Cond.selects RX2 yX2_hoursOn yX2_hoursOn]
def wsX2_lateWith_r2 : List Cond := [Cond.code yX2_hoursOn cX2_hoursOn 3 none, Cond.methodLink RX2 82 yX2_hourOn, Cond.instanceMethod yX2_hourOn, Cond.selects RX2 yX2_hourOn yX2_hourOn, Cond.code yX2_hourOn cX2_hourOn 5 none, Cond.fieldLink RX2 42 "GustMillModel" "sacks" "I", Cond.fieldLink RX2 35 "GustMillModel" "stones" "I", Cond.fieldLink RX2 28 "GustMillModel" "fresh" "[I", Cond.fieldLink RX2 13 "GustMillModel" "wind" "[I", Cond.fieldLink RX2 9 "GustMillModel" "size" "[I", Cond.methodLink RX2 76 Lib.Math.min.name, Cond.static Lib.Math.min.name, Cond.initialized "java/lang/Math", Cond.code Lib.Math.min.name Lib.Math.min.code 2 (some .int), Cond.methodLink RX2 66 yX2_ahead, Cond.instanceMethod yX2_ahead, Cond.selects RX2 yX2_ahead yX2_ahead, Cond.code yX2_ahead cX2_ahead 4 (some .int), Cond.methodLink RX2 54 yX2_isDone, Cond.instanceMethod yX2_isDone, Cond.selects RX2 yX2_isDone yX2_isDone, Cond.code yX2_isDone cX2_isDone 2 (some .boolean), Cond.methodLink RX2 58 yX2_turn, Cond.instanceMethod yX2_turn]
def wsX2_lateWith_r3 : List Cond := [Cond.selects RX2 yX2_turn yX2_turn, Cond.code yX2_turn cX2_turn 2 (some .int), Cond.fieldLink RX2 19 "GustMillModel" "until" "[I", Cond.methodLink RX2 69 yX2_on, Cond.instanceMethod yX2_on, Cond.selects RX2 yX2_on yX2_on, Cond.code yX2_on cX2_on 3 (some .int), Cond.methodLink RX2 72 yX2_next, Cond.instanceMethod yX2_next, Cond.selects RX2 yX2_next yX2_next, Cond.code yX2_next cX2_next 4 (some .int), Cond.methodLink RX2 121 yX2_lost, Cond.instanceMethod yX2_lost, Cond.selects RX2 yX2_lost yX2_lost, Cond.code yX2_lost cX2_lost 4 (some .int), Cond.methodLink RX2 118 Lib.Math.max.name, Cond.static Lib.Math.max.name, Cond.code Lib.Math.max.name Lib.Math.max.code 2 (some .int), Cond.methodLink RX2 127 yX2_bringBack, Cond.instanceMethod yX2_bringBack, Cond.selects RX2 yX2_bringBack yX2_bringBack, Cond.code yX2_bringBack cX2_bringBack 1 none, Cond.methodLink RX2 85 yX2_fail, Cond.instanceMethod yX2_fail]
def wsX2_lateWith_r4 : List Cond := [Cond.selects RX2 yX2_fail yX2_fail, Cond.code yX2_fail cX2_fail 2 (some .int)]
def wsX2_lateWith : List Cond := .code yX2_lateWith cX2_lateWith 3 (some .int) :: ((wsX2_lateWith_r1 ++ (wsX2_lateWith_r2 ++ (wsX2_lateWith_r3 ++ wsX2_lateWith_r4))) ++ wsX20)
def wsX2_best_r1 : List Cond := [Cond.fieldLink RX2 62 "GustMillModel" "isAllowed" "Z", Cond.methodLink RX2 133 yX2_lostBy, Cond.instanceMethod yX2_lostBy, Cond.selects RX2 yX2_lostBy yX2_lostBy, Cond.initialized RX2, Cond.code yX2_lostBy cX2_lostBy 6 (some .int), Cond.fieldLink RX2 51 "GustMillModel" "rule" "I", Cond.methodLink RX2 124 yX2_keep, Cond.instanceMethod yX2_keep, Cond.selects RX2 yX2_keep yX2_keep, Cond.code yX2_keep cX2_keep 1 none, Cond.fieldLink RX2 22 "GustMillModel" "now" "[I", Cond.fieldLink RX2 25 "GustMillModel" "kept" "[I", Cond.methodLink RX2 45 arraycopyName, Cond.native arraycopyName, Cond.static arraycopyName, Cond.initialized "java/lang/System", Cond.methodLink RX2 95 yX2_hoursOn, Cond.instanceMethod yX2_hoursOn, Cond.selects RX2 yX2_hoursOn yX2_hoursOn, Cond.code yX2_hoursOn cX2_hoursOn 3 none, Cond.methodLink RX2 82 yX2_hourOn, Cond.instanceMethod yX2_hourOn, Cond.selects RX2 yX2_hourOn yX2_hourOn]
def wsX2_best_r2 : List Cond := [Cond.code yX2_hourOn cX2_hourOn 5 none, Cond.fieldLink RX2 42 "GustMillModel" "sacks" "I", Cond.fieldLink RX2 35 "GustMillModel" "stones" "I", Cond.fieldLink RX2 28 "GustMillModel" "fresh" "[I", Cond.fieldLink RX2 13 "GustMillModel" "wind" "[I", Cond.fieldLink RX2 9 "GustMillModel" "size" "[I", Cond.methodLink RX2 76 Lib.Math.min.name, Cond.static Lib.Math.min.name, Cond.initialized "java/lang/Math", Cond.code Lib.Math.min.name Lib.Math.min.code 2 (some .int), Cond.methodLink RX2 66 yX2_ahead, Cond.instanceMethod yX2_ahead, Cond.selects RX2 yX2_ahead yX2_ahead, Cond.code yX2_ahead cX2_ahead 4 (some .int), Cond.methodLink RX2 54 yX2_isDone, Cond.instanceMethod yX2_isDone, Cond.selects RX2 yX2_isDone yX2_isDone, Cond.code yX2_isDone cX2_isDone 2 (some .boolean), Cond.methodLink RX2 58 yX2_turn, Cond.instanceMethod yX2_turn, Cond.selects RX2 yX2_turn yX2_turn, Cond.code yX2_turn cX2_turn 2 (some .int), Cond.fieldLink RX2 19 "GustMillModel" "until" "[I", Cond.methodLink RX2 69 yX2_on]
def wsX2_best_r3 : List Cond := [Cond.instanceMethod yX2_on, Cond.selects RX2 yX2_on yX2_on, Cond.code yX2_on cX2_on 3 (some .int), Cond.methodLink RX2 72 yX2_next, Cond.instanceMethod yX2_next, Cond.selects RX2 yX2_next yX2_next, Cond.code yX2_next cX2_next 4 (some .int), Cond.methodLink RX2 121 yX2_lost, Cond.instanceMethod yX2_lost, Cond.selects RX2 yX2_lost yX2_lost, Cond.code yX2_lost cX2_lost 4 (some .int), Cond.methodLink RX2 118 Lib.Math.max.name, Cond.static Lib.Math.max.name, Cond.code Lib.Math.max.name Lib.Math.max.code 2 (some .int), Cond.methodLink RX2 127 yX2_bringBack, Cond.instanceMethod yX2_bringBack, Cond.selects RX2 yX2_bringBack yX2_bringBack, Cond.code yX2_bringBack cX2_bringBack 1 none]
def wsX2_best : List Cond := .code yX2_best cX2_best 5 (some .int) :: ((wsX2_best_r1 ++ (wsX2_best_r2 ++ wsX2_best_r3)) ++ wsX20)
def wsX2_bestRule_r1 : List Cond := [Cond.methodLink RX2 137 yX2_best, Cond.instanceMethod yX2_best, Cond.selects RX2 yX2_best yX2_best, Cond.initialized RX2, Cond.code yX2_best cX2_best 5 (some .int), Cond.fieldLink RX2 62 "GustMillModel" "isAllowed" "Z", Cond.methodLink RX2 133 yX2_lostBy, Cond.instanceMethod yX2_lostBy, Cond.selects RX2 yX2_lostBy yX2_lostBy, Cond.code yX2_lostBy cX2_lostBy 6 (some .int), Cond.fieldLink RX2 51 "GustMillModel" "rule" "I", Cond.methodLink RX2 124 yX2_keep, Cond.instanceMethod yX2_keep, Cond.selects RX2 yX2_keep yX2_keep, Cond.code yX2_keep cX2_keep 1 none, Cond.fieldLink RX2 22 "GustMillModel" "now" "[I", Cond.fieldLink RX2 25 "GustMillModel" "kept" "[I", Cond.methodLink RX2 45 arraycopyName, Cond.native arraycopyName, Cond.static arraycopyName, Cond.initialized "java/lang/System", Cond.methodLink RX2 95 yX2_hoursOn, Cond.instanceMethod yX2_hoursOn, Cond.selects RX2 yX2_hoursOn yX2_hoursOn]
def wsX2_bestRule_r2 : List Cond := [Cond.code yX2_hoursOn cX2_hoursOn 3 none, Cond.methodLink RX2 82 yX2_hourOn, Cond.instanceMethod yX2_hourOn, Cond.selects RX2 yX2_hourOn yX2_hourOn, Cond.code yX2_hourOn cX2_hourOn 5 none, Cond.fieldLink RX2 42 "GustMillModel" "sacks" "I", Cond.fieldLink RX2 35 "GustMillModel" "stones" "I", Cond.fieldLink RX2 28 "GustMillModel" "fresh" "[I", Cond.fieldLink RX2 13 "GustMillModel" "wind" "[I", Cond.fieldLink RX2 9 "GustMillModel" "size" "[I", Cond.methodLink RX2 76 Lib.Math.min.name, Cond.static Lib.Math.min.name, Cond.initialized "java/lang/Math", Cond.code Lib.Math.min.name Lib.Math.min.code 2 (some .int), Cond.methodLink RX2 66 yX2_ahead, Cond.instanceMethod yX2_ahead, Cond.selects RX2 yX2_ahead yX2_ahead, Cond.code yX2_ahead cX2_ahead 4 (some .int), Cond.methodLink RX2 54 yX2_isDone, Cond.instanceMethod yX2_isDone, Cond.selects RX2 yX2_isDone yX2_isDone, Cond.code yX2_isDone cX2_isDone 2 (some .boolean), Cond.methodLink RX2 58 yX2_turn, Cond.instanceMethod yX2_turn]
def wsX2_bestRule_r3 : List Cond := [Cond.selects RX2 yX2_turn yX2_turn, Cond.code yX2_turn cX2_turn 2 (some .int), Cond.fieldLink RX2 19 "GustMillModel" "until" "[I", Cond.methodLink RX2 69 yX2_on, Cond.instanceMethod yX2_on, Cond.selects RX2 yX2_on yX2_on, Cond.code yX2_on cX2_on 3 (some .int), Cond.methodLink RX2 72 yX2_next, Cond.instanceMethod yX2_next, Cond.selects RX2 yX2_next yX2_next, Cond.code yX2_next cX2_next 4 (some .int), Cond.methodLink RX2 121 yX2_lost, Cond.instanceMethod yX2_lost, Cond.selects RX2 yX2_lost yX2_lost, Cond.code yX2_lost cX2_lost 4 (some .int), Cond.methodLink RX2 118 Lib.Math.max.name, Cond.static Lib.Math.max.name, Cond.code Lib.Math.max.name Lib.Math.max.code 2 (some .int), Cond.methodLink RX2 127 yX2_bringBack, Cond.instanceMethod yX2_bringBack, Cond.selects RX2 yX2_bringBack yX2_bringBack, Cond.code yX2_bringBack cX2_bringBack 1 none, Cond.methodLink RX2 99 yX2_told, Cond.instanceMethod yX2_told]
def wsX2_bestRule_r4 : List Cond := [Cond.selects RX2 yX2_told yX2_told, Cond.code yX2_told cX2_told 2 (some .int), Cond.fieldLink RX2 31 "GustMillModel" "thrown" "I"]
def wsX2_bestRule : List Cond := .code yX2_bestRule cX2_bestRule 1 (some .int) :: ((wsX2_bestRule_r1 ++ (wsX2_bestRule_r2 ++ (wsX2_bestRule_r3 ++ wsX2_bestRule_r4))) ++ wsX20)
def wsX2_wouldBeInTime_r1 : List Cond := [Cond.fieldLink RX2 31 "GustMillModel" "thrown" "I", Cond.fieldLink RX2 42 "GustMillModel" "sacks" "I", Cond.fieldLink RX2 22 "GustMillModel" "now" "[I", Cond.methodLink RX2 38 yX2_isIn, Cond.static yX2_isIn, Cond.initialized RX2, Cond.code yX2_isIn cX2_isIn 3 (some .boolean), Cond.methodLink RX2 124 yX2_keep, Cond.instanceMethod yX2_keep, Cond.selects RX2 yX2_keep yX2_keep, Cond.code yX2_keep cX2_keep 1 none, Cond.fieldLink RX2 25 "GustMillModel" "kept" "[I", Cond.methodLink RX2 45 arraycopyName, Cond.native arraycopyName, Cond.static arraycopyName, Cond.initialized "java/lang/System", Cond.methodLink RX2 88 yX2_put, Cond.instanceMethod yX2_put, Cond.selects RX2 yX2_put yX2_put, Cond.code yX2_put cX2_put 4 none, Cond.fieldLink RX2 16 "GustMillModel" "baker" "[I", Cond.fieldLink RX2 19 "GustMillModel" "until" "[I", Cond.methodLink RX2 95 yX2_hoursOn, Cond.instanceMethod yX2_hoursOn]
def wsX2_wouldBeInTime_r2 : List Cond := [Cond.selects RX2 yX2_hoursOn yX2_hoursOn, Cond.code yX2_hoursOn cX2_hoursOn 3 none, Cond.methodLink RX2 82 yX2_hourOn, Cond.instanceMethod yX2_hourOn, Cond.selects RX2 yX2_hourOn yX2_hourOn, Cond.code yX2_hourOn cX2_hourOn 5 none, Cond.fieldLink RX2 62 "GustMillModel" "isAllowed" "Z", Cond.fieldLink RX2 35 "GustMillModel" "stones" "I", Cond.fieldLink RX2 28 "GustMillModel" "fresh" "[I", Cond.fieldLink RX2 13 "GustMillModel" "wind" "[I", Cond.fieldLink RX2 9 "GustMillModel" "size" "[I", Cond.methodLink RX2 76 Lib.Math.min.name, Cond.static Lib.Math.min.name, Cond.initialized "java/lang/Math", Cond.code Lib.Math.min.name Lib.Math.min.code 2 (some .int), Cond.methodLink RX2 66 yX2_ahead, Cond.instanceMethod yX2_ahead, Cond.selects RX2 yX2_ahead yX2_ahead, Cond.code yX2_ahead cX2_ahead 4 (some .int), Cond.methodLink RX2 54 yX2_isDone, Cond.instanceMethod yX2_isDone, Cond.selects RX2 yX2_isDone yX2_isDone, Cond.code yX2_isDone cX2_isDone 2 (some .boolean), Cond.methodLink RX2 58 yX2_turn]
def wsX2_wouldBeInTime_r3 : List Cond := [Cond.instanceMethod yX2_turn, Cond.selects RX2 yX2_turn yX2_turn, Cond.code yX2_turn cX2_turn 2 (some .int), Cond.fieldLink RX2 51 "GustMillModel" "rule" "I", Cond.methodLink RX2 69 yX2_on, Cond.instanceMethod yX2_on, Cond.selects RX2 yX2_on yX2_on, Cond.code yX2_on cX2_on 3 (some .int), Cond.methodLink RX2 72 yX2_next, Cond.instanceMethod yX2_next, Cond.selects RX2 yX2_next yX2_next, Cond.code yX2_next cX2_next 4 (some .int), Cond.methodLink RX2 127 yX2_bringBack, Cond.instanceMethod yX2_bringBack, Cond.selects RX2 yX2_bringBack yX2_bringBack, Cond.code yX2_bringBack cX2_bringBack 1 none]
def wsX2_wouldBeInTime : List Cond := .code yX2_wouldBeInTime cX2_wouldBeInTime 4 (some .boolean) :: ((wsX2_wouldBeInTime_r1 ++ (wsX2_wouldBeInTime_r2 ++ wsX2_wouldBeInTime_r3)) ++ wsX20)
def wsX2_milledIn_r1 : List Cond := [Cond.fieldLink RX2 22 "GustMillModel" "now" "[I", Cond.methodLink RX2 124 yX2_keep, Cond.instanceMethod yX2_keep, Cond.selects RX2 yX2_keep yX2_keep, Cond.initialized RX2, Cond.code yX2_keep cX2_keep 1 none, Cond.fieldLink RX2 25 "GustMillModel" "kept" "[I", Cond.methodLink RX2 45 arraycopyName, Cond.native arraycopyName, Cond.static arraycopyName, Cond.initialized "java/lang/System", Cond.methodLink RX2 95 yX2_hoursOn, Cond.instanceMethod yX2_hoursOn, Cond.selects RX2 yX2_hoursOn yX2_hoursOn, Cond.code yX2_hoursOn cX2_hoursOn 3 none, Cond.methodLink RX2 82 yX2_hourOn, Cond.instanceMethod yX2_hourOn, Cond.selects RX2 yX2_hourOn yX2_hourOn, Cond.code yX2_hourOn cX2_hourOn 5 none, Cond.fieldLink RX2 42 "GustMillModel" "sacks" "I", Cond.fieldLink RX2 62 "GustMillModel" "isAllowed" "Z", Cond.fieldLink RX2 35 "GustMillModel" "stones" "I", Cond.fieldLink RX2 28 "GustMillModel" "fresh" "[I", Cond.fieldLink RX2 13 "GustMillModel" "wind" "[I"]
def wsX2_milledIn_r2 : List Cond := [Cond.fieldLink RX2 9 "GustMillModel" "size" "[I", Cond.methodLink RX2 76 Lib.Math.min.name, Cond.static Lib.Math.min.name, Cond.initialized "java/lang/Math", Cond.code Lib.Math.min.name Lib.Math.min.code 2 (some .int), Cond.methodLink RX2 66 yX2_ahead, Cond.instanceMethod yX2_ahead, Cond.selects RX2 yX2_ahead yX2_ahead, Cond.code yX2_ahead cX2_ahead 4 (some .int), Cond.methodLink RX2 54 yX2_isDone, Cond.instanceMethod yX2_isDone, Cond.selects RX2 yX2_isDone yX2_isDone, Cond.code yX2_isDone cX2_isDone 2 (some .boolean), Cond.methodLink RX2 58 yX2_turn, Cond.instanceMethod yX2_turn, Cond.selects RX2 yX2_turn yX2_turn, Cond.code yX2_turn cX2_turn 2 (some .int), Cond.fieldLink RX2 51 "GustMillModel" "rule" "I", Cond.fieldLink RX2 19 "GustMillModel" "until" "[I", Cond.methodLink RX2 69 yX2_on, Cond.instanceMethod yX2_on, Cond.selects RX2 yX2_on yX2_on, Cond.code yX2_on cX2_on 3 (some .int), Cond.methodLink RX2 72 yX2_next]
def wsX2_milledIn_r3 : List Cond := [Cond.instanceMethod yX2_next, Cond.selects RX2 yX2_next yX2_next, Cond.code yX2_next cX2_next 4 (some .int), Cond.methodLink RX2 127 yX2_bringBack, Cond.instanceMethod yX2_bringBack, Cond.selects RX2 yX2_bringBack yX2_bringBack, Cond.code yX2_bringBack cX2_bringBack 1 none]
def wsX2_milledIn : List Cond := .code yX2_milledIn cX2_milledIn 4 (some .int) :: ((wsX2_milledIn_r1 ++ (wsX2_milledIn_r2 ++ wsX2_milledIn_r3)) ++ wsX20)
def wsX2_groundIn_r1 : List Cond := [Cond.fieldLink RX2 31 "GustMillModel" "thrown" "I", Cond.methodLink RX2 38 yX2_isIn, Cond.static yX2_isIn, Cond.initialized RX2, Cond.code yX2_isIn cX2_isIn 3 (some .boolean), Cond.methodLink RX2 140 yX2_milledIn, Cond.instanceMethod yX2_milledIn, Cond.selects RX2 yX2_milledIn yX2_milledIn, Cond.code yX2_milledIn cX2_milledIn 4 (some .int), Cond.fieldLink RX2 22 "GustMillModel" "now" "[I", Cond.methodLink RX2 124 yX2_keep, Cond.instanceMethod yX2_keep, Cond.selects RX2 yX2_keep yX2_keep, Cond.code yX2_keep cX2_keep 1 none, Cond.fieldLink RX2 25 "GustMillModel" "kept" "[I", Cond.methodLink RX2 45 arraycopyName, Cond.native arraycopyName, Cond.static arraycopyName, Cond.initialized "java/lang/System", Cond.methodLink RX2 95 yX2_hoursOn, Cond.instanceMethod yX2_hoursOn, Cond.selects RX2 yX2_hoursOn yX2_hoursOn, Cond.code yX2_hoursOn cX2_hoursOn 3 none, Cond.methodLink RX2 82 yX2_hourOn]
def wsX2_groundIn_r2 : List Cond := [Cond.instanceMethod yX2_hourOn, Cond.selects RX2 yX2_hourOn yX2_hourOn, Cond.code yX2_hourOn cX2_hourOn 5 none, Cond.fieldLink RX2 42 "GustMillModel" "sacks" "I", Cond.fieldLink RX2 62 "GustMillModel" "isAllowed" "Z", Cond.fieldLink RX2 35 "GustMillModel" "stones" "I", Cond.fieldLink RX2 28 "GustMillModel" "fresh" "[I", Cond.fieldLink RX2 13 "GustMillModel" "wind" "[I", Cond.fieldLink RX2 9 "GustMillModel" "size" "[I", Cond.methodLink RX2 76 Lib.Math.min.name, Cond.static Lib.Math.min.name, Cond.initialized "java/lang/Math", Cond.code Lib.Math.min.name Lib.Math.min.code 2 (some .int), Cond.methodLink RX2 66 yX2_ahead, Cond.instanceMethod yX2_ahead, Cond.selects RX2 yX2_ahead yX2_ahead, Cond.code yX2_ahead cX2_ahead 4 (some .int), Cond.methodLink RX2 54 yX2_isDone, Cond.instanceMethod yX2_isDone, Cond.selects RX2 yX2_isDone yX2_isDone, Cond.code yX2_isDone cX2_isDone 2 (some .boolean), Cond.methodLink RX2 58 yX2_turn, Cond.instanceMethod yX2_turn, Cond.selects RX2 yX2_turn yX2_turn]
def wsX2_groundIn_r3 : List Cond := [Cond.code yX2_turn cX2_turn 2 (some .int), Cond.fieldLink RX2 51 "GustMillModel" "rule" "I", Cond.fieldLink RX2 19 "GustMillModel" "until" "[I", Cond.methodLink RX2 69 yX2_on, Cond.instanceMethod yX2_on, Cond.selects RX2 yX2_on yX2_on, Cond.code yX2_on cX2_on 3 (some .int), Cond.methodLink RX2 72 yX2_next, Cond.instanceMethod yX2_next, Cond.selects RX2 yX2_next yX2_next, Cond.code yX2_next cX2_next 4 (some .int), Cond.methodLink RX2 127 yX2_bringBack, Cond.instanceMethod yX2_bringBack, Cond.selects RX2 yX2_bringBack yX2_bringBack, Cond.code yX2_bringBack cX2_bringBack 1 none, Cond.methodLink RX2 85 yX2_fail, Cond.instanceMethod yX2_fail, Cond.selects RX2 yX2_fail yX2_fail, Cond.code yX2_fail cX2_fail 2 (some .int)]
def wsX2_groundIn : List Cond := .code yX2_groundIn cX2_groundIn 2 (some .int) :: ((wsX2_groundIn_r1 ++ (wsX2_groundIn_r2 ++ wsX2_groundIn_r3)) ++ wsX20)
def wsX2_meanLeft : List Cond := .code yX2_meanLeft cX2_meanLeft 3 (some .double) :: ([.fieldLink RX2 31 "GustMillModel" "thrown" "I", .fieldLink RX2 42 "GustMillModel" "sacks" "I", .fieldLink RX2 22 "GustMillModel" "now" "[I", .methodLink RX2 108 yX2_done, .instanceMethod yX2_done, .selects RX2 yX2_done yX2_done, .initialized RX2, .code yX2_done cX2_done 3 (some .int), .methodLink RX2 54 yX2_isDone, .instanceMethod yX2_isDone, .selects RX2 yX2_isDone yX2_isDone, .code yX2_isDone cX2_isDone 2 (some .boolean)] ++ wsX20)
def wsX2_digest_r1 : List Cond := [Cond.fieldLink RX2 31 "GustMillModel" "thrown" "I", Cond.arrayClass .int, Cond.fieldLink RX2 22 "GustMillModel" "now" "[I", Cond.fieldLink RX2 35 "GustMillModel" "stones" "I", Cond.fieldLink RX2 42 "GustMillModel" "sacks" "I", Cond.fieldLink RX2 51 "GustMillModel" "rule" "I", Cond.fieldLink RX2 13 "GustMillModel" "wind" "[I", Cond.constantLong RX2 143 (2281), Cond.constantLong RX2 145 (31), Cond.fieldLink RX2 19 "GustMillModel" "until" "[I", Cond.methodLink RX2 108 yX2_done, Cond.instanceMethod yX2_done, Cond.selects RX2 yX2_done yX2_done, Cond.initialized RX2, Cond.code yX2_done cX2_done 3 (some .int), Cond.methodLink RX2 54 yX2_isDone, Cond.instanceMethod yX2_isDone, Cond.selects RX2 yX2_isDone yX2_isDone, Cond.code yX2_isDone cX2_isDone 2 (some .boolean), Cond.methodLink RX2 72 yX2_next, Cond.instanceMethod yX2_next, Cond.selects RX2 yX2_next yX2_next, Cond.code yX2_next cX2_next 4 (some .int), Cond.methodLink RX2 58 yX2_turn]
def wsX2_digest_r2 : List Cond := [Cond.instanceMethod yX2_turn, Cond.selects RX2 yX2_turn yX2_turn, Cond.code yX2_turn cX2_turn 2 (some .int), Cond.methodLink RX2 121 yX2_lost, Cond.instanceMethod yX2_lost, Cond.selects RX2 yX2_lost yX2_lost, Cond.code yX2_lost cX2_lost 4 (some .int), Cond.methodLink RX2 118 Lib.Math.max.name, Cond.static Lib.Math.max.name, Cond.initialized "java/lang/Math", Cond.code Lib.Math.max.name Lib.Math.max.code 2 (some .int), Cond.methodLink RX2 137 yX2_best, Cond.instanceMethod yX2_best, Cond.selects RX2 yX2_best yX2_best, Cond.code yX2_best cX2_best 5 (some .int), Cond.fieldLink RX2 62 "GustMillModel" "isAllowed" "Z", Cond.methodLink RX2 133 yX2_lostBy, Cond.instanceMethod yX2_lostBy, Cond.selects RX2 yX2_lostBy yX2_lostBy, Cond.code yX2_lostBy cX2_lostBy 6 (some .int), Cond.methodLink RX2 124 yX2_keep, Cond.instanceMethod yX2_keep, Cond.selects RX2 yX2_keep yX2_keep, Cond.code yX2_keep cX2_keep 1 none]
def wsX2_digest_r3 : List Cond := [Cond.fieldLink RX2 25 "GustMillModel" "kept" "[I", Cond.methodLink RX2 45 arraycopyName, Cond.native arraycopyName, Cond.static arraycopyName, Cond.initialized "java/lang/System", Cond.methodLink RX2 95 yX2_hoursOn, Cond.instanceMethod yX2_hoursOn, Cond.selects RX2 yX2_hoursOn yX2_hoursOn, Cond.code yX2_hoursOn cX2_hoursOn 3 none, Cond.methodLink RX2 82 yX2_hourOn, Cond.instanceMethod yX2_hourOn, Cond.selects RX2 yX2_hourOn yX2_hourOn, Cond.code yX2_hourOn cX2_hourOn 5 none, Cond.fieldLink RX2 28 "GustMillModel" "fresh" "[I", Cond.fieldLink RX2 9 "GustMillModel" "size" "[I", Cond.methodLink RX2 76 Lib.Math.min.name, Cond.static Lib.Math.min.name, Cond.code Lib.Math.min.name Lib.Math.min.code 2 (some .int), Cond.methodLink RX2 66 yX2_ahead, Cond.instanceMethod yX2_ahead, Cond.selects RX2 yX2_ahead yX2_ahead, Cond.code yX2_ahead cX2_ahead 4 (some .int), Cond.methodLink RX2 69 yX2_on, Cond.instanceMethod yX2_on]
def wsX2_digest_r4 : List Cond := [Cond.selects RX2 yX2_on yX2_on, Cond.code yX2_on cX2_on 3 (some .int), Cond.methodLink RX2 127 yX2_bringBack, Cond.instanceMethod yX2_bringBack, Cond.selects RX2 yX2_bringBack yX2_bringBack, Cond.code yX2_bringBack cX2_bringBack 1 none, Cond.methodLink RX2 140 yX2_milledIn, Cond.instanceMethod yX2_milledIn, Cond.selects RX2 yX2_milledIn yX2_milledIn, Cond.code yX2_milledIn cX2_milledIn 4 (some .int), Cond.methodLink RX2 112 yX2_place, Cond.instanceMethod yX2_place, Cond.selects RX2 yX2_place yX2_place, Cond.code yX2_place cX2_place 2 (some .int), Cond.methodLink RX2 115 yX2_rest, Cond.instanceMethod yX2_rest, Cond.selects RX2 yX2_rest yX2_rest, Cond.code yX2_rest cX2_rest 4 (some .int), Cond.fieldLink RX2 16 "GustMillModel" "baker" "[I"]
def wsX2_digest : List Cond := .code yX2_digest cX2_digest 11 (some .long) :: ((wsX2_digest_r1 ++ (wsX2_digest_r2 ++ (wsX2_digest_r3 ++ wsX2_digest_r4))) ++ wsX20)
def wsJ9_max_7cf53 : List Cond := .code yJ9_max_7cf53 cJ9_max_7cf53 2 (some .int) :: ([])
def wsJ9_min_7cf53 : List Cond := .code yJ9_min_7cf53 cJ9_min_7cf53 2 (some .int) :: ([])
def wsL_addStone : List Cond := .codeWith yL_addStone cL_addStone 4 (some .int) [(0, 9, 12, 13), (0, 9, 15, 15)] :: ([.classLink RL 13 "java/lang/IllegalArgumentException", .classLink RL 15 "java/lang/IllegalStateException", .methodLink RL 7 yX1_addStone, .instanceMethod yX1_addStone, .selects RX1 yX1_addStone yX1_addStone, .initialized RX1, .code yX1_addStone cX1_addStone 2 (some .int), .classLink RX1 19 "java/lang/IllegalArgumentException", .initialized "java/lang/IllegalArgumentException", .classLink RX1 30 "java/lang/IllegalStateException", .initialized "java/lang/IllegalStateException", .fieldLink RX1 10 "GustMill" "now" "LGustMill$State;", .methodLink RX1 35 yX0_placeStone, .instanceMethod yX0_placeStone, .selects RX0 yX0_placeStone yX0_placeStone, .initialized RX0, .code yX0_placeStone cX0_placeStone 3 (some .int), .fieldLink RX0 44 "GustMill$State" "stoneCount" "I", .fieldLink RX0 15 "GustMill$State" "sizes" "[I", .fieldLink RX0 18 "GustMill$State" "sacksUpon" "[I"] ++ wsX10 ++ wsX00 ++ (vx_atS RX1 23 "java/lang/IllegalArgumentException" ["java/lang/RuntimeException", "java/lang/Exception"]).filter goodWord ++ (vx_atS RX1 34 "java/lang/IllegalStateException" ["java/lang/RuntimeException", "java/lang/Exception"]).filter goodWord)
def wsL_setWind : List Cond := .codeWith yL_setWind cL_setWind 5 (some .int) [(0, 10, 13, 21), (0, 10, 17, 13)] :: ([.classLink RL 21 "java/lang/IndexOutOfBoundsException", .classLink RL 13 "java/lang/IllegalArgumentException", .methodLink RL 17 yX1_setWind, .instanceMethod yX1_setWind, .selects RX1 yX1_setWind yX1_setWind, .initialized RX1, .code yX1_setWind cX1_setWind 4 (some .int), .classLink RX1 39 "java/lang/IndexOutOfBoundsException", .initialized "java/lang/IndexOutOfBoundsException", .classLink RX1 19 "java/lang/IllegalArgumentException", .initialized "java/lang/IllegalArgumentException", .fieldLink RX1 10 "GustMill" "now" "LGustMill$State;"] ++ wsX10 ++ wsX00 ++ (vx_atS RX1 43 "java/lang/IndexOutOfBoundsException" ["java/lang/RuntimeException", "java/lang/Exception"]).filter goodWord ++ (vx_atS RX1 23 "java/lang/IllegalArgumentException" ["java/lang/RuntimeException", "java/lang/Exception"]).filter goodWord)
def wsL_setRule : List Cond := .codeWith yL_setRule cL_setRule 4 (some .int) [(0, 9, 12, 13)] :: ([.classLink RL 13 "java/lang/IllegalArgumentException", .methodLink RL 23 yX1_setRule, .instanceMethod yX1_setRule, .selects RX1 yX1_setRule yX1_setRule, .initialized RX1, .code yX1_setRule cX1_setRule 3 (some .int), .fieldLink RX1 10 "GustMill" "now" "LGustMill$State;", .methodLink RX1 50 yX1_requireRule, .static yX1_requireRule, .code yX1_requireRule cX1_requireRule 1 none, .classLink RX1 19 "java/lang/IllegalArgumentException", .initialized "java/lang/IllegalArgumentException"] ++ wsX10 ++ wsX00 ++ (vx_atS RX1 23 "java/lang/IllegalArgumentException" ["java/lang/RuntimeException", "java/lang/Exception"]).filter goodWord)
def wsL_bring_r1 : List Cond := [Cond.classLink RL 13 "java/lang/IllegalArgumentException", Cond.classLink RL 15 "java/lang/IllegalStateException", Cond.methodLink RL 26 yX1_bring, Cond.instanceMethod yX1_bring, Cond.selects RX1 yX1_bring yX1_bring, Cond.initialized RX1, Cond.code yX1_bring cX1_bring 4 (some .int), Cond.classLink RX1 30 "java/lang/IllegalStateException", Cond.initialized "java/lang/IllegalStateException", Cond.fieldLink RX1 10 "GustMill" "now" "LGustMill$State;", Cond.methodLink RX1 61 yX1_requireBaker, Cond.static yX1_requireBaker, Cond.code yX1_requireBaker cX1_requireBaker 1 none, Cond.classLink RX1 19 "java/lang/IllegalArgumentException", Cond.initialized "java/lang/IllegalArgumentException", Cond.methodLink RX1 64 yX1_requireGrain, Cond.static yX1_requireGrain, Cond.code yX1_requireGrain cX1_requireGrain 1 none, Cond.methodLink RX1 67 yX1_requireUntil, Cond.static yX1_requireUntil, Cond.code yX1_requireUntil cX1_requireUntil 1 none, Cond.methodLink RX1 75 yX0_storeSack, Cond.instanceMethod yX0_storeSack, Cond.selects RX0 yX0_storeSack yX0_storeSack]
def wsL_bring_r2 : List Cond := [Cond.initialized RX0, Cond.code yX0_storeSack cX0_storeSack 5 (some .int), Cond.fieldLink RX0 47 "GustMill$State" "sackCount" "I", Cond.fieldLink RX0 25 "GustMill$State" "bakers" "[I", Cond.fieldLink RX0 28 "GustMill$State" "lefts" "[I", Cond.fieldLink RX0 31 "GustMill$State" "untils" "[I", Cond.fieldLink RX0 34 "GustMill$State" "stonesUnder" "[I", Cond.fieldLink RX0 37 "GustMill$State" "groundHours" "[I"]
def wsL_bring : List Cond := .codeWith yL_bring cL_bring 6 (some .int) [(0, 12, 15, 13), (0, 12, 19, 15)] :: ((wsL_bring_r1 ++ wsL_bring_r2) ++ wsX10 ++ wsX00 ++ (vx_atS RX1 34 "java/lang/IllegalStateException" ["java/lang/RuntimeException", "java/lang/Exception"]).filter goodWord ++ (vx_atS RX1 23 "java/lang/IllegalArgumentException" ["java/lang/RuntimeException", "java/lang/Exception"]).filter goodWord)
def wsL_lift : List Cond := .codeWith yL_lift cL_lift 4 (some .int) [(0, 9, 12, 21), (0, 9, 15, 15)] :: ([.classLink RL 21 "java/lang/IndexOutOfBoundsException", .classLink RL 15 "java/lang/IllegalStateException", .methodLink RL 30 yX1_lift, .instanceMethod yX1_lift, .selects RX1 yX1_lift yX1_lift, .initialized RX1, .code yX1_lift cX1_lift 3 (some .int), .classLink RX1 30 "java/lang/IllegalStateException", .initialized "java/lang/IllegalStateException", .fieldLink RX1 10 "GustMill" "now" "LGustMill$State;", .methodLink RX1 79 yX1_requireSack, .instanceMethod yX1_requireSack, .selects RX1 yX1_requireSack yX1_requireSack, .code yX1_requireSack cX1_requireSack 2 none, .classLink RX1 39 "java/lang/IndexOutOfBoundsException", .initialized "java/lang/IndexOutOfBoundsException", .methodLink RX1 87 yX0_clearStone, .instanceMethod yX0_clearStone, .selects RX0 yX0_clearStone yX0_clearStone, .initialized RX0, .code yX0_clearStone cX0_clearStone 3 none, .fieldLink RX0 18 "GustMill$State" "sacksUpon" "[I", .fieldLink RX0 34 "GustMill$State" "stonesUnder" "[I"] ++ wsX10 ++ wsX00 ++ (vx_atS RX1 34 "java/lang/IllegalStateException" ["java/lang/RuntimeException", "java/lang/Exception"]).filter goodWord ++ (vx_atS RX1 43 "java/lang/IndexOutOfBoundsException" ["java/lang/RuntimeException", "java/lang/Exception"]).filter goodWord)
def wsL_setUntil : List Cond := .codeWith yL_setUntil cL_setUntil 5 (some .int) [(0, 10, 13, 21), (0, 10, 17, 13)] :: ([.classLink RL 21 "java/lang/IndexOutOfBoundsException", .classLink RL 13 "java/lang/IllegalArgumentException", .methodLink RL 33 yX1_setUntil, .instanceMethod yX1_setUntil, .selects RX1 yX1_setUntil yX1_setUntil, .initialized RX1, .code yX1_setUntil cX1_setUntil 4 (some .int), .fieldLink RX1 10 "GustMill" "now" "LGustMill$State;", .methodLink RX1 79 yX1_requireSack, .instanceMethod yX1_requireSack, .selects RX1 yX1_requireSack yX1_requireSack, .code yX1_requireSack cX1_requireSack 2 none, .classLink RX1 39 "java/lang/IndexOutOfBoundsException", .initialized "java/lang/IndexOutOfBoundsException", .methodLink RX1 67 yX1_requireUntil, .static yX1_requireUntil, .code yX1_requireUntil cX1_requireUntil 1 none, .classLink RX1 19 "java/lang/IllegalArgumentException", .initialized "java/lang/IllegalArgumentException"] ++ wsX10 ++ wsX00 ++ (vx_atS RX1 43 "java/lang/IndexOutOfBoundsException" ["java/lang/RuntimeException", "java/lang/Exception"]).filter goodWord ++ (vx_atS RX1 23 "java/lang/IllegalArgumentException" ["java/lang/RuntimeException", "java/lang/Exception"]).filter goodWord)
def wsL_pass_r1 : List Cond := [Cond.classLink RL 13 "java/lang/IllegalArgumentException", Cond.methodLink RL 36 yX1_pass, Cond.instanceMethod yX1_pass, Cond.selects RX1 yX1_pass yX1_pass, Cond.initialized RX1, Cond.code yX1_pass cX1_pass 2 (some .int), Cond.fieldLink RX1 10 "GustMill" "now" "LGustMill$State;", Cond.methodLink RX1 93 yX1_requireHours, Cond.static yX1_requireHours, Cond.code yX1_requireHours cX1_requireHours 1 none, Cond.classLink RX1 19 "java/lang/IllegalArgumentException", Cond.initialized "java/lang/IllegalArgumentException", Cond.methodLink RX1 96 yX0_run, Cond.instanceMethod yX0_run, Cond.selects RX0 yX0_run yX0_run, Cond.initialized RX0, Cond.code yX0_run cX0_run 5 (some .int), Cond.fieldLink RX0 40 "GustMill$State" "hour" "I", Cond.fieldLink RX0 50 "GustMill$State" "groundCount" "I", Cond.fieldLink RX0 47 "GustMill$State" "sackCount" "I", Cond.fieldLink RX0 59 "GustMill$State" "isTakingOff" "Z", Cond.methodLink RX0 67 yX0_takeOffUnwanted, Cond.instanceMethod yX0_takeOffUnwanted, Cond.selects RX0 yX0_takeOffUnwanted yX0_takeOffUnwanted]
def wsL_pass_r2 : List Cond := [Cond.code yX0_takeOffUnwanted cX0_takeOffUnwanted 3 none, Cond.fieldLink RX0 44 "GustMill$State" "stoneCount" "I", Cond.fieldLink RX0 18 "GustMill$State" "sacksUpon" "[I", Cond.methodLink RX0 80 yX0_countAhead, Cond.instanceMethod yX0_countAhead, Cond.selects RX0 yX0_countAhead yX0_countAhead, Cond.code yX0_countAhead cX0_countAhead 4 (some .int), Cond.methodLink RX0 101 yX0_isGround, Cond.instanceMethod yX0_isGround, Cond.selects RX0 yX0_isGround yX0_isGround, Cond.code yX0_isGround cX0_isGround 2 (some .boolean), Cond.fieldLink RX0 28 "GustMill$State" "lefts" "[I", Cond.methodLink RX0 108 yX0_isAhead, Cond.instanceMethod yX0_isAhead, Cond.selects RX0 yX0_isAhead yX0_isAhead, Cond.code yX0_isAhead cX0_isAhead 4 (some .boolean), Cond.fieldLink RX0 56 "GustMill$State" "rule" "I", Cond.fieldLink RX0 31 "GustMill$State" "untils" "[I", Cond.methodLink RX0 84 yX0_clearStone, Cond.instanceMethod yX0_clearStone, Cond.selects RX0 yX0_clearStone yX0_clearStone, Cond.code yX0_clearStone cX0_clearStone 3 none, Cond.fieldLink RX0 34 "GustMill$State" "stonesUnder" "[I", Cond.methodLink RX0 70 yX0_fillStones]
def wsL_pass_r3 : List Cond := [Cond.instanceMethod yX0_fillStones, Cond.selects RX0 yX0_fillStones yX0_fillStones, Cond.code yX0_fillStones cX0_fillStones 3 none, Cond.fieldLink RX0 21 "GustMill$State" "isFresh" "[Z", Cond.fieldLink RX0 53 "GustMill$State" "changeCount" "I", Cond.methodLink RX0 88 yX0_firstByRule, Cond.instanceMethod yX0_firstByRule, Cond.selects RX0 yX0_firstByRule yX0_firstByRule, Cond.code yX0_firstByRule cX0_firstByRule 5 (some .int), Cond.methodLink RX0 73 yX0_grind, Cond.instanceMethod yX0_grind, Cond.selects RX0 yX0_grind yX0_grind, Cond.code yX0_grind cX0_grind 7 (some .int), Cond.fieldLink RX0 15 "GustMill$State" "sizes" "[I", Cond.methodLink RX0 95 Lib.Math.min.name, Cond.static Lib.Math.min.name, Cond.initialized "java/lang/Math", Cond.code Lib.Math.min.name Lib.Math.min.code 2 (some .int), Cond.methodLink RX0 92 yX0_windOfHour, Cond.instanceMethod yX0_windOfHour, Cond.selects RX0 yX0_windOfHour yX0_windOfHour, Cond.code yX0_windOfHour cX0_windOfHour 1 (some .int), Cond.fieldLink RX0 9 "GustMill$State" "winds" "[I", Cond.methodLink RX0 105 yJ9_floorMod_7cf53]
def wsL_pass_r4 : List Cond := [Cond.static yJ9_floorMod_7cf53, Cond.initialized RJ9, Cond.code yJ9_floorMod_7cf53 cJ9_floorMod_7cf53 3 (some .int), Cond.methodLink RX0 77 yX0_finishSacks, Cond.instanceMethod yX0_finishSacks, Cond.selects RX0 yX0_finishSacks yX0_finishSacks, Cond.code yX0_finishSacks cX0_finishSacks 3 none, Cond.fieldLink RX0 37 "GustMill$State" "groundHours" "[I"]
def wsL_pass : List Cond := .codeWith yL_pass cL_pass 4 (some .int) [(0, 9, 12, 13)] :: ((wsL_pass_r1 ++ (wsL_pass_r2 ++ (wsL_pass_r3 ++ wsL_pass_r4))) ++ wsX10 ++ wsX00 ++ (vx_atS RX1 23 "java/lang/IllegalArgumentException" ["java/lang/RuntimeException", "java/lang/Exception"]).filter goodWord)
def wsL_sackOn : List Cond := .codeWith yL_sackOn cL_sackOn 4 (some .int) [(0, 9, 12, 21)] :: ([.classLink RL 21 "java/lang/IndexOutOfBoundsException", .methodLink RL 39 yX1_sackOn, .instanceMethod yX1_sackOn, .selects RX1 yX1_sackOn yX1_sackOn, .initialized RX1, .code yX1_sackOn cX1_sackOn 2 (some .int), .classLink RX1 39 "java/lang/IndexOutOfBoundsException", .initialized "java/lang/IndexOutOfBoundsException", .fieldLink RX1 10 "GustMill" "now" "LGustMill$State;"] ++ wsX10 ++ wsX00 ++ (vx_atS RX1 43 "java/lang/IndexOutOfBoundsException" ["java/lang/RuntimeException", "java/lang/Exception"]).filter goodWord)
def wsL_stoneOf : List Cond := .codeWith yL_stoneOf cL_stoneOf 4 (some .int) [(0, 9, 12, 21)] :: ([.classLink RL 21 "java/lang/IndexOutOfBoundsException", .methodLink RL 42 yX1_stoneOf, .instanceMethod yX1_stoneOf, .selects RX1 yX1_stoneOf yX1_stoneOf, .initialized RX1, .code yX1_stoneOf cX1_stoneOf 2 (some .int), .fieldLink RX1 10 "GustMill" "now" "LGustMill$State;", .methodLink RX1 79 yX1_requireSack, .instanceMethod yX1_requireSack, .selects RX1 yX1_requireSack yX1_requireSack, .code yX1_requireSack cX1_requireSack 2 none, .classLink RX1 39 "java/lang/IndexOutOfBoundsException", .initialized "java/lang/IndexOutOfBoundsException"] ++ wsX10 ++ wsX00 ++ (vx_atS RX1 43 "java/lang/IndexOutOfBoundsException" ["java/lang/RuntimeException", "java/lang/Exception"]).filter goodWord)
def wsL_leftOf : List Cond := .codeWith yL_leftOf cL_leftOf 4 (some .int) [(0, 9, 12, 21)] :: ([.classLink RL 21 "java/lang/IndexOutOfBoundsException", .methodLink RL 45 yX1_leftOf, .instanceMethod yX1_leftOf, .selects RX1 yX1_leftOf yX1_leftOf, .initialized RX1, .code yX1_leftOf cX1_leftOf 2 (some .int), .fieldLink RX1 10 "GustMill" "now" "LGustMill$State;", .methodLink RX1 79 yX1_requireSack, .instanceMethod yX1_requireSack, .selects RX1 yX1_requireSack yX1_requireSack, .code yX1_requireSack cX1_requireSack 2 none, .classLink RX1 39 "java/lang/IndexOutOfBoundsException", .initialized "java/lang/IndexOutOfBoundsException"] ++ wsX10 ++ wsX00 ++ (vx_atS RX1 43 "java/lang/IndexOutOfBoundsException" ["java/lang/RuntimeException", "java/lang/Exception"]).filter goodWord)
def wsL_untilOf : List Cond := .codeWith yL_untilOf cL_untilOf 4 (some .int) [(0, 9, 12, 21)] :: ([.classLink RL 21 "java/lang/IndexOutOfBoundsException", .methodLink RL 48 yX1_untilOf, .instanceMethod yX1_untilOf, .selects RX1 yX1_untilOf yX1_untilOf, .initialized RX1, .code yX1_untilOf cX1_untilOf 2 (some .int), .fieldLink RX1 10 "GustMill" "now" "LGustMill$State;", .methodLink RX1 79 yX1_requireSack, .instanceMethod yX1_requireSack, .selects RX1 yX1_requireSack yX1_requireSack, .code yX1_requireSack cX1_requireSack 2 none, .classLink RX1 39 "java/lang/IndexOutOfBoundsException", .initialized "java/lang/IndexOutOfBoundsException"] ++ wsX10 ++ wsX00 ++ (vx_atS RX1 43 "java/lang/IndexOutOfBoundsException" ["java/lang/RuntimeException", "java/lang/Exception"]).filter goodWord)
def wsL_groundAt : List Cond := .codeWith yL_groundAt cL_groundAt 4 (some .int) [(0, 9, 12, 21)] :: ([.classLink RL 21 "java/lang/IndexOutOfBoundsException", .methodLink RL 51 yX1_groundAt, .instanceMethod yX1_groundAt, .selects RX1 yX1_groundAt yX1_groundAt, .initialized RX1, .code yX1_groundAt cX1_groundAt 2 (some .int), .fieldLink RX1 10 "GustMill" "now" "LGustMill$State;", .methodLink RX1 79 yX1_requireSack, .instanceMethod yX1_requireSack, .selects RX1 yX1_requireSack yX1_requireSack, .code yX1_requireSack cX1_requireSack 2 none, .classLink RX1 39 "java/lang/IndexOutOfBoundsException", .initialized "java/lang/IndexOutOfBoundsException"] ++ wsX10 ++ wsX00 ++ (vx_atS RX1 43 "java/lang/IndexOutOfBoundsException" ["java/lang/RuntimeException", "java/lang/Exception"]).filter goodWord)
def wsL_placeOf_r1 : List Cond := [Cond.classLink RL 21 "java/lang/IndexOutOfBoundsException", Cond.methodLink RL 54 yX1_placeOf, Cond.instanceMethod yX1_placeOf, Cond.selects RX1 yX1_placeOf yX1_placeOf, Cond.initialized RX1, Cond.code yX1_placeOf cX1_placeOf 2 (some .int), Cond.fieldLink RX1 10 "GustMill" "now" "LGustMill$State;", Cond.methodLink RX1 79 yX1_requireSack, Cond.instanceMethod yX1_requireSack, Cond.selects RX1 yX1_requireSack yX1_requireSack, Cond.code yX1_requireSack cX1_requireSack 2 none, Cond.classLink RX1 39 "java/lang/IndexOutOfBoundsException", Cond.initialized "java/lang/IndexOutOfBoundsException", Cond.methodLink RX1 127 yX0_isGround, Cond.instanceMethod yX0_isGround, Cond.selects RX0 yX0_isGround yX0_isGround, Cond.initialized RX0, Cond.code yX0_isGround cX0_isGround 2 (some .boolean), Cond.fieldLink RX0 28 "GustMill$State" "lefts" "[I", Cond.methodLink RX1 131 yX0_countAhead, Cond.instanceMethod yX0_countAhead, Cond.selects RX0 yX0_countAhead yX0_countAhead, Cond.code yX0_countAhead cX0_countAhead 4 (some .int), Cond.fieldLink RX0 47 "GustMill$State" "sackCount" "I"]
def wsL_placeOf_r2 : List Cond := [Cond.methodLink RX0 101 yX0_isGround, Cond.methodLink RX0 108 yX0_isAhead, Cond.instanceMethod yX0_isAhead, Cond.selects RX0 yX0_isAhead yX0_isAhead, Cond.code yX0_isAhead cX0_isAhead 4 (some .boolean), Cond.fieldLink RX0 56 "GustMill$State" "rule" "I", Cond.fieldLink RX0 31 "GustMill$State" "untils" "[I"]
def wsL_placeOf : List Cond := .codeWith yL_placeOf cL_placeOf 4 (some .int) [(0, 9, 12, 21)] :: ((wsL_placeOf_r1 ++ wsL_placeOf_r2) ++ wsX10 ++ wsX00 ++ (vx_atS RX1 43 "java/lang/IndexOutOfBoundsException" ["java/lang/RuntimeException", "java/lang/Exception"]).filter goodWord)
def wsL_leftFor : List Cond := .codeWith yL_leftFor cL_leftFor 4 (some .int) [(0, 9, 12, 13)] :: ([.classLink RL 13 "java/lang/IllegalArgumentException", .methodLink RL 57 yX1_leftFor, .instanceMethod yX1_leftFor, .selects RX1 yX1_leftFor yX1_leftFor, .initialized RX1, .code yX1_leftFor cX1_leftFor 4 (some .int), .fieldLink RX1 10 "GustMill" "now" "LGustMill$State;", .methodLink RX1 61 yX1_requireBaker, .static yX1_requireBaker, .code yX1_requireBaker cX1_requireBaker 1 none, .classLink RX1 19 "java/lang/IllegalArgumentException", .initialized "java/lang/IllegalArgumentException"] ++ wsX10 ++ wsX00 ++ (vx_atS RX1 23 "java/lang/IllegalArgumentException" ["java/lang/RuntimeException", "java/lang/Exception"]).filter goodWord)
def wsL_willBeGroundAt_r1 : List Cond := [Cond.classLink RL 21 "java/lang/IndexOutOfBoundsException", Cond.methodLink RL 60 yX1_willBeGroundAt, Cond.instanceMethod yX1_willBeGroundAt, Cond.selects RX1 yX1_willBeGroundAt yX1_willBeGroundAt, Cond.initialized RX1, Cond.code yX1_willBeGroundAt cX1_willBeGroundAt 2 (some .int), Cond.fieldLink RX1 16 "GustMill" "trial" "LGustMill$State;", Cond.methodLink RX1 79 yX1_requireSack, Cond.instanceMethod yX1_requireSack, Cond.selects RX1 yX1_requireSack yX1_requireSack, Cond.code yX1_requireSack cX1_requireSack 2 none, Cond.classLink RX1 39 "java/lang/IndexOutOfBoundsException", Cond.initialized "java/lang/IndexOutOfBoundsException", Cond.fieldLink RX1 10 "GustMill" "now" "LGustMill$State;", Cond.methodLink RX1 140 yX1_lookAhead, Cond.instanceMethod yX1_lookAhead, Cond.selects RX1 yX1_lookAhead yX1_lookAhead, Cond.code yX1_lookAhead cX1_lookAhead 1 none, Cond.methodLink RX1 143 yX0_become, Cond.instanceMethod yX0_become, Cond.selects RX0 yX0_become yX0_become, Cond.initialized RX0, Cond.code yX0_become cX0_become 2 none, Cond.fieldLink RX0 9 "GustMill$State" "winds" "[I"]
def wsL_willBeGroundAt_r2 : List Cond := [Cond.fieldLink RX0 15 "GustMill$State" "sizes" "[I", Cond.fieldLink RX0 18 "GustMill$State" "sacksUpon" "[I", Cond.fieldLink RX0 25 "GustMill$State" "bakers" "[I", Cond.fieldLink RX0 28 "GustMill$State" "lefts" "[I", Cond.fieldLink RX0 31 "GustMill$State" "untils" "[I", Cond.fieldLink RX0 34 "GustMill$State" "stonesUnder" "[I", Cond.fieldLink RX0 37 "GustMill$State" "groundHours" "[I", Cond.fieldLink RX0 40 "GustMill$State" "hour" "I", Cond.fieldLink RX0 44 "GustMill$State" "stoneCount" "I", Cond.fieldLink RX0 47 "GustMill$State" "sackCount" "I", Cond.fieldLink RX0 50 "GustMill$State" "groundCount" "I", Cond.fieldLink RX0 53 "GustMill$State" "changeCount" "I", Cond.fieldLink RX0 56 "GustMill$State" "rule" "I", Cond.fieldLink RX0 59 "GustMill$State" "isTakingOff" "Z", Cond.methodLink RX0 63 yX0_copyRow, Cond.static yX0_copyRow, Cond.code yX0_copyRow cX0_copyRow 3 none, Cond.methodLink RX1 96 yX0_run, Cond.instanceMethod yX0_run, Cond.selects RX0 yX0_run yX0_run, Cond.code yX0_run cX0_run 5 (some .int), Cond.methodLink RX0 67 yX0_takeOffUnwanted, Cond.instanceMethod yX0_takeOffUnwanted, Cond.selects RX0 yX0_takeOffUnwanted yX0_takeOffUnwanted]
def wsL_willBeGroundAt_r3 : List Cond := [Cond.code yX0_takeOffUnwanted cX0_takeOffUnwanted 3 none, Cond.methodLink RX0 80 yX0_countAhead, Cond.instanceMethod yX0_countAhead, Cond.selects RX0 yX0_countAhead yX0_countAhead, Cond.code yX0_countAhead cX0_countAhead 4 (some .int), Cond.methodLink RX0 101 yX0_isGround, Cond.instanceMethod yX0_isGround, Cond.selects RX0 yX0_isGround yX0_isGround, Cond.code yX0_isGround cX0_isGround 2 (some .boolean), Cond.methodLink RX0 108 yX0_isAhead, Cond.instanceMethod yX0_isAhead, Cond.selects RX0 yX0_isAhead yX0_isAhead, Cond.code yX0_isAhead cX0_isAhead 4 (some .boolean), Cond.methodLink RX0 84 yX0_clearStone, Cond.instanceMethod yX0_clearStone, Cond.selects RX0 yX0_clearStone yX0_clearStone, Cond.code yX0_clearStone cX0_clearStone 3 none, Cond.methodLink RX0 70 yX0_fillStones, Cond.instanceMethod yX0_fillStones, Cond.selects RX0 yX0_fillStones yX0_fillStones, Cond.code yX0_fillStones cX0_fillStones 3 none, Cond.fieldLink RX0 21 "GustMill$State" "isFresh" "[Z", Cond.methodLink RX0 88 yX0_firstByRule, Cond.instanceMethod yX0_firstByRule]
def wsL_willBeGroundAt_r4 : List Cond := [Cond.selects RX0 yX0_firstByRule yX0_firstByRule, Cond.code yX0_firstByRule cX0_firstByRule 5 (some .int), Cond.methodLink RX0 73 yX0_grind, Cond.instanceMethod yX0_grind, Cond.selects RX0 yX0_grind yX0_grind, Cond.code yX0_grind cX0_grind 7 (some .int), Cond.methodLink RX0 95 Lib.Math.min.name, Cond.static Lib.Math.min.name, Cond.initialized "java/lang/Math", Cond.code Lib.Math.min.name Lib.Math.min.code 2 (some .int), Cond.methodLink RX0 92 yX0_windOfHour, Cond.instanceMethod yX0_windOfHour, Cond.selects RX0 yX0_windOfHour yX0_windOfHour, Cond.code yX0_windOfHour cX0_windOfHour 1 (some .int), Cond.methodLink RX0 105 yJ9_floorMod_7cf53, Cond.static yJ9_floorMod_7cf53, Cond.initialized RJ9, Cond.code yJ9_floorMod_7cf53 cJ9_floorMod_7cf53 3 (some .int), Cond.methodLink RX0 77 yX0_finishSacks, Cond.instanceMethod yX0_finishSacks, Cond.selects RX0 yX0_finishSacks yX0_finishSacks, Cond.code yX0_finishSacks cX0_finishSacks 3 none]
def wsL_willBeGroundAt : List Cond := .codeWith yL_willBeGroundAt cL_willBeGroundAt 4 (some .int) [(0, 9, 12, 21)] :: ((wsL_willBeGroundAt_r1 ++ (wsL_willBeGroundAt_r2 ++ (wsL_willBeGroundAt_r3 ++ wsL_willBeGroundAt_r4))) ++ wsX10 ++ wsX00 ++ (vx_atS RX1 43 "java/lang/IndexOutOfBoundsException" ["java/lang/RuntimeException", "java/lang/Exception"]).filter goodWord)
def wsL_spareOf_r1 : List Cond := [Cond.classLink RL 21 "java/lang/IndexOutOfBoundsException", Cond.methodLink RL 63 yX1_spareOf, Cond.instanceMethod yX1_spareOf, Cond.selects RX1 yX1_spareOf yX1_spareOf, Cond.initialized RX1, Cond.code yX1_spareOf cX1_spareOf 2 (some .int), Cond.fieldLink RX1 16 "GustMill" "trial" "LGustMill$State;", Cond.methodLink RX1 79 yX1_requireSack, Cond.instanceMethod yX1_requireSack, Cond.selects RX1 yX1_requireSack yX1_requireSack, Cond.code yX1_requireSack cX1_requireSack 2 none, Cond.classLink RX1 39 "java/lang/IndexOutOfBoundsException", Cond.initialized "java/lang/IndexOutOfBoundsException", Cond.fieldLink RX1 10 "GustMill" "now" "LGustMill$State;", Cond.methodLink RX1 140 yX1_lookAhead, Cond.instanceMethod yX1_lookAhead, Cond.selects RX1 yX1_lookAhead yX1_lookAhead, Cond.code yX1_lookAhead cX1_lookAhead 1 none, Cond.methodLink RX1 143 yX0_become, Cond.instanceMethod yX0_become, Cond.selects RX0 yX0_become yX0_become, Cond.initialized RX0, Cond.code yX0_become cX0_become 2 none, Cond.fieldLink RX0 9 "GustMill$State" "winds" "[I"]
def wsL_spareOf_r2 : List Cond := [Cond.fieldLink RX0 15 "GustMill$State" "sizes" "[I", Cond.fieldLink RX0 18 "GustMill$State" "sacksUpon" "[I", Cond.fieldLink RX0 25 "GustMill$State" "bakers" "[I", Cond.fieldLink RX0 28 "GustMill$State" "lefts" "[I", Cond.fieldLink RX0 31 "GustMill$State" "untils" "[I", Cond.fieldLink RX0 34 "GustMill$State" "stonesUnder" "[I", Cond.fieldLink RX0 37 "GustMill$State" "groundHours" "[I", Cond.fieldLink RX0 40 "GustMill$State" "hour" "I", Cond.fieldLink RX0 44 "GustMill$State" "stoneCount" "I", Cond.fieldLink RX0 47 "GustMill$State" "sackCount" "I", Cond.fieldLink RX0 50 "GustMill$State" "groundCount" "I", Cond.fieldLink RX0 53 "GustMill$State" "changeCount" "I", Cond.fieldLink RX0 56 "GustMill$State" "rule" "I", Cond.fieldLink RX0 59 "GustMill$State" "isTakingOff" "Z", Cond.methodLink RX0 63 yX0_copyRow, Cond.static yX0_copyRow, Cond.code yX0_copyRow cX0_copyRow 3 none, Cond.methodLink RX1 96 yX0_run, Cond.instanceMethod yX0_run, Cond.selects RX0 yX0_run yX0_run, Cond.code yX0_run cX0_run 5 (some .int), Cond.methodLink RX0 67 yX0_takeOffUnwanted, Cond.instanceMethod yX0_takeOffUnwanted, Cond.selects RX0 yX0_takeOffUnwanted yX0_takeOffUnwanted]
def wsL_spareOf_r3 : List Cond := [Cond.code yX0_takeOffUnwanted cX0_takeOffUnwanted 3 none, Cond.methodLink RX0 80 yX0_countAhead, Cond.instanceMethod yX0_countAhead, Cond.selects RX0 yX0_countAhead yX0_countAhead, Cond.code yX0_countAhead cX0_countAhead 4 (some .int), Cond.methodLink RX0 101 yX0_isGround, Cond.instanceMethod yX0_isGround, Cond.selects RX0 yX0_isGround yX0_isGround, Cond.code yX0_isGround cX0_isGround 2 (some .boolean), Cond.methodLink RX0 108 yX0_isAhead, Cond.instanceMethod yX0_isAhead, Cond.selects RX0 yX0_isAhead yX0_isAhead, Cond.code yX0_isAhead cX0_isAhead 4 (some .boolean), Cond.methodLink RX0 84 yX0_clearStone, Cond.instanceMethod yX0_clearStone, Cond.selects RX0 yX0_clearStone yX0_clearStone, Cond.code yX0_clearStone cX0_clearStone 3 none, Cond.methodLink RX0 70 yX0_fillStones, Cond.instanceMethod yX0_fillStones, Cond.selects RX0 yX0_fillStones yX0_fillStones, Cond.code yX0_fillStones cX0_fillStones 3 none, Cond.fieldLink RX0 21 "GustMill$State" "isFresh" "[Z", Cond.methodLink RX0 88 yX0_firstByRule, Cond.instanceMethod yX0_firstByRule]
def wsL_spareOf_r4 : List Cond := [Cond.selects RX0 yX0_firstByRule yX0_firstByRule, Cond.code yX0_firstByRule cX0_firstByRule 5 (some .int), Cond.methodLink RX0 73 yX0_grind, Cond.instanceMethod yX0_grind, Cond.selects RX0 yX0_grind yX0_grind, Cond.code yX0_grind cX0_grind 7 (some .int), Cond.methodLink RX0 95 Lib.Math.min.name, Cond.static Lib.Math.min.name, Cond.initialized "java/lang/Math", Cond.code Lib.Math.min.name Lib.Math.min.code 2 (some .int), Cond.methodLink RX0 92 yX0_windOfHour, Cond.instanceMethod yX0_windOfHour, Cond.selects RX0 yX0_windOfHour yX0_windOfHour, Cond.code yX0_windOfHour cX0_windOfHour 1 (some .int), Cond.methodLink RX0 105 yJ9_floorMod_7cf53, Cond.static yJ9_floorMod_7cf53, Cond.initialized RJ9, Cond.code yJ9_floorMod_7cf53 cJ9_floorMod_7cf53 3 (some .int), Cond.methodLink RX0 77 yX0_finishSacks, Cond.instanceMethod yX0_finishSacks, Cond.selects RX0 yX0_finishSacks yX0_finishSacks, Cond.code yX0_finishSacks cX0_finishSacks 3 none, Cond.methodLink RX1 127 yX0_isGround]
def wsL_spareOf : List Cond := .codeWith yL_spareOf cL_spareOf 4 (some .int) [(0, 9, 12, 21)] :: ((wsL_spareOf_r1 ++ (wsL_spareOf_r2 ++ (wsL_spareOf_r3 ++ wsL_spareOf_r4))) ++ wsX10 ++ wsX00 ++ (vx_atS RX1 43 "java/lang/IndexOutOfBoundsException" ["java/lang/RuntimeException", "java/lang/Exception"]).filter goodWord)
def wsL_lateWith_r1 : List Cond := [Cond.classLink RL 13 "java/lang/IllegalArgumentException", Cond.methodLink RL 66 yX1_lateWith, Cond.instanceMethod yX1_lateWith, Cond.selects RX1 yX1_lateWith yX1_lateWith, Cond.initialized RX1, Cond.code yX1_lateWith cX1_lateWith 3 (some .int), Cond.fieldLink RX1 16 "GustMill" "trial" "LGustMill$State;", Cond.fieldLink RX1 10 "GustMill" "now" "LGustMill$State;", Cond.methodLink RX1 50 yX1_requireRule, Cond.static yX1_requireRule, Cond.code yX1_requireRule cX1_requireRule 1 none, Cond.classLink RX1 19 "java/lang/IllegalArgumentException", Cond.initialized "java/lang/IllegalArgumentException", Cond.methodLink RX1 143 yX0_become, Cond.instanceMethod yX0_become, Cond.selects RX0 yX0_become yX0_become, Cond.initialized RX0, Cond.code yX0_become cX0_become 2 none, Cond.fieldLink RX0 9 "GustMill$State" "winds" "[I", Cond.fieldLink RX0 15 "GustMill$State" "sizes" "[I", Cond.fieldLink RX0 18 "GustMill$State" "sacksUpon" "[I", Cond.fieldLink RX0 25 "GustMill$State" "bakers" "[I", Cond.fieldLink RX0 28 "GustMill$State" "lefts" "[I", Cond.fieldLink RX0 31 "GustMill$State" "untils" "[I"]
def wsL_lateWith_r2 : List Cond := [Cond.fieldLink RX0 34 "GustMill$State" "stonesUnder" "[I", Cond.fieldLink RX0 37 "GustMill$State" "groundHours" "[I", Cond.fieldLink RX0 40 "GustMill$State" "hour" "I", Cond.fieldLink RX0 44 "GustMill$State" "stoneCount" "I", Cond.fieldLink RX0 47 "GustMill$State" "sackCount" "I", Cond.fieldLink RX0 50 "GustMill$State" "groundCount" "I", Cond.fieldLink RX0 53 "GustMill$State" "changeCount" "I", Cond.fieldLink RX0 56 "GustMill$State" "rule" "I", Cond.fieldLink RX0 59 "GustMill$State" "isTakingOff" "Z", Cond.methodLink RX0 63 yX0_copyRow, Cond.static yX0_copyRow, Cond.code yX0_copyRow cX0_copyRow 3 none, Cond.methodLink RX1 96 yX0_run, Cond.instanceMethod yX0_run, Cond.selects RX0 yX0_run yX0_run, Cond.code yX0_run cX0_run 5 (some .int), Cond.methodLink RX0 67 yX0_takeOffUnwanted, Cond.instanceMethod yX0_takeOffUnwanted, Cond.selects RX0 yX0_takeOffUnwanted yX0_takeOffUnwanted, Cond.code yX0_takeOffUnwanted cX0_takeOffUnwanted 3 none, Cond.methodLink RX0 80 yX0_countAhead, Cond.instanceMethod yX0_countAhead, Cond.selects RX0 yX0_countAhead yX0_countAhead, Cond.code yX0_countAhead cX0_countAhead 4 (some .int)]
def wsL_lateWith_r3 : List Cond := [Cond.methodLink RX0 101 yX0_isGround, Cond.instanceMethod yX0_isGround, Cond.selects RX0 yX0_isGround yX0_isGround, Cond.code yX0_isGround cX0_isGround 2 (some .boolean), Cond.methodLink RX0 108 yX0_isAhead, Cond.instanceMethod yX0_isAhead, Cond.selects RX0 yX0_isAhead yX0_isAhead, Cond.code yX0_isAhead cX0_isAhead 4 (some .boolean), Cond.methodLink RX0 84 yX0_clearStone, Cond.instanceMethod yX0_clearStone, Cond.selects RX0 yX0_clearStone yX0_clearStone, Cond.code yX0_clearStone cX0_clearStone 3 none, Cond.methodLink RX0 70 yX0_fillStones, Cond.instanceMethod yX0_fillStones, Cond.selects RX0 yX0_fillStones yX0_fillStones, Cond.code yX0_fillStones cX0_fillStones 3 none, Cond.fieldLink RX0 21 "GustMill$State" "isFresh" "[Z", Cond.methodLink RX0 88 yX0_firstByRule, Cond.instanceMethod yX0_firstByRule, Cond.selects RX0 yX0_firstByRule yX0_firstByRule, Cond.code yX0_firstByRule cX0_firstByRule 5 (some .int), Cond.methodLink RX0 73 yX0_grind, Cond.instanceMethod yX0_grind, Cond.selects RX0 yX0_grind yX0_grind]
def wsL_lateWith_r4 : List Cond := [Cond.code yX0_grind cX0_grind 7 (some .int), Cond.methodLink RX0 95 Lib.Math.min.name, Cond.static Lib.Math.min.name, Cond.initialized "java/lang/Math", Cond.code Lib.Math.min.name Lib.Math.min.code 2 (some .int), Cond.methodLink RX0 92 yX0_windOfHour, Cond.instanceMethod yX0_windOfHour, Cond.selects RX0 yX0_windOfHour yX0_windOfHour, Cond.code yX0_windOfHour cX0_windOfHour 1 (some .int), Cond.methodLink RX0 105 yJ9_floorMod_7cf53, Cond.static yJ9_floorMod_7cf53, Cond.initialized RJ9, Cond.code yJ9_floorMod_7cf53 cJ9_floorMod_7cf53 3 (some .int), Cond.methodLink RX0 77 yX0_finishSacks, Cond.instanceMethod yX0_finishSacks, Cond.selects RX0 yX0_finishSacks yX0_finishSacks, Cond.code yX0_finishSacks cX0_finishSacks 3 none, Cond.methodLink RX1 137 yX0_hoursLate, Cond.instanceMethod yX0_hoursLate, Cond.selects RX0 yX0_hoursLate yX0_hoursLate, Cond.code yX0_hoursLate cX0_hoursLate 3 (some .int), Cond.methodLink RX0 112 Lib.Math.max.name, Cond.static Lib.Math.max.name, Cond.code Lib.Math.max.name Lib.Math.max.code 2 (some .int)]
def wsL_lateWith : List Cond := .codeWith yL_lateWith cL_lateWith 5 (some .int) [(0, 10, 13, 13)] :: ((wsL_lateWith_r1 ++ (wsL_lateWith_r2 ++ (wsL_lateWith_r3 ++ wsL_lateWith_r4))) ++ wsX10 ++ wsX00 ++ (vx_atS RX1 23 "java/lang/IllegalArgumentException" ["java/lang/RuntimeException", "java/lang/Exception"]).filter goodWord)
def wsL_wouldBeInTime_r1 : List Cond := [Cond.classLink RL 13 "java/lang/IllegalArgumentException", Cond.methodLink RL 70 yX1_wouldBeInTime, Cond.instanceMethod yX1_wouldBeInTime, Cond.selects RX1 yX1_wouldBeInTime yX1_wouldBeInTime, Cond.initialized RX1, Cond.code yX1_wouldBeInTime cX1_wouldBeInTime 4 (some .boolean), Cond.fieldLink RX1 10 "GustMill" "now" "LGustMill$State;", Cond.fieldLink RX1 16 "GustMill" "trial" "LGustMill$State;", Cond.methodLink RX1 64 yX1_requireGrain, Cond.static yX1_requireGrain, Cond.code yX1_requireGrain cX1_requireGrain 1 none, Cond.classLink RX1 19 "java/lang/IllegalArgumentException", Cond.initialized "java/lang/IllegalArgumentException", Cond.methodLink RX1 67 yX1_requireUntil, Cond.static yX1_requireUntil, Cond.code yX1_requireUntil cX1_requireUntil 1 none, Cond.methodLink RX1 143 yX0_become, Cond.instanceMethod yX0_become, Cond.selects RX0 yX0_become yX0_become, Cond.initialized RX0, Cond.code yX0_become cX0_become 2 none, Cond.fieldLink RX0 9 "GustMill$State" "winds" "[I", Cond.fieldLink RX0 15 "GustMill$State" "sizes" "[I", Cond.fieldLink RX0 18 "GustMill$State" "sacksUpon" "[I"]
def wsL_wouldBeInTime_r2 : List Cond := [Cond.fieldLink RX0 25 "GustMill$State" "bakers" "[I", Cond.fieldLink RX0 28 "GustMill$State" "lefts" "[I", Cond.fieldLink RX0 31 "GustMill$State" "untils" "[I", Cond.fieldLink RX0 34 "GustMill$State" "stonesUnder" "[I", Cond.fieldLink RX0 37 "GustMill$State" "groundHours" "[I", Cond.fieldLink RX0 40 "GustMill$State" "hour" "I", Cond.fieldLink RX0 44 "GustMill$State" "stoneCount" "I", Cond.fieldLink RX0 47 "GustMill$State" "sackCount" "I", Cond.fieldLink RX0 50 "GustMill$State" "groundCount" "I", Cond.fieldLink RX0 53 "GustMill$State" "changeCount" "I", Cond.fieldLink RX0 56 "GustMill$State" "rule" "I", Cond.fieldLink RX0 59 "GustMill$State" "isTakingOff" "Z", Cond.methodLink RX0 63 yX0_copyRow, Cond.static yX0_copyRow, Cond.code yX0_copyRow cX0_copyRow 3 none, Cond.methodLink RX1 75 yX0_storeSack, Cond.instanceMethod yX0_storeSack, Cond.selects RX0 yX0_storeSack yX0_storeSack, Cond.code yX0_storeSack cX0_storeSack 5 (some .int), Cond.methodLink RX1 96 yX0_run, Cond.instanceMethod yX0_run, Cond.selects RX0 yX0_run yX0_run, Cond.code yX0_run cX0_run 5 (some .int), Cond.methodLink RX0 67 yX0_takeOffUnwanted]
def wsL_wouldBeInTime_r3 : List Cond := [Cond.instanceMethod yX0_takeOffUnwanted, Cond.selects RX0 yX0_takeOffUnwanted yX0_takeOffUnwanted, Cond.code yX0_takeOffUnwanted cX0_takeOffUnwanted 3 none, Cond.methodLink RX0 80 yX0_countAhead, Cond.instanceMethod yX0_countAhead, Cond.selects RX0 yX0_countAhead yX0_countAhead, Cond.code yX0_countAhead cX0_countAhead 4 (some .int), Cond.methodLink RX0 101 yX0_isGround, Cond.instanceMethod yX0_isGround, Cond.selects RX0 yX0_isGround yX0_isGround, Cond.code yX0_isGround cX0_isGround 2 (some .boolean), Cond.methodLink RX0 108 yX0_isAhead, Cond.instanceMethod yX0_isAhead, Cond.selects RX0 yX0_isAhead yX0_isAhead, Cond.code yX0_isAhead cX0_isAhead 4 (some .boolean), Cond.methodLink RX0 84 yX0_clearStone, Cond.instanceMethod yX0_clearStone, Cond.selects RX0 yX0_clearStone yX0_clearStone, Cond.code yX0_clearStone cX0_clearStone 3 none, Cond.methodLink RX0 70 yX0_fillStones, Cond.instanceMethod yX0_fillStones, Cond.selects RX0 yX0_fillStones yX0_fillStones, Cond.code yX0_fillStones cX0_fillStones 3 none, Cond.fieldLink RX0 21 "GustMill$State" "isFresh" "[Z"]
def wsL_wouldBeInTime_r4 : List Cond := [Cond.methodLink RX0 88 yX0_firstByRule, Cond.instanceMethod yX0_firstByRule, Cond.selects RX0 yX0_firstByRule yX0_firstByRule, Cond.code yX0_firstByRule cX0_firstByRule 5 (some .int), Cond.methodLink RX0 73 yX0_grind, Cond.instanceMethod yX0_grind, Cond.selects RX0 yX0_grind yX0_grind, Cond.code yX0_grind cX0_grind 7 (some .int), Cond.methodLink RX0 95 Lib.Math.min.name, Cond.static Lib.Math.min.name, Cond.initialized "java/lang/Math", Cond.code Lib.Math.min.name Lib.Math.min.code 2 (some .int), Cond.methodLink RX0 92 yX0_windOfHour, Cond.instanceMethod yX0_windOfHour, Cond.selects RX0 yX0_windOfHour yX0_windOfHour, Cond.code yX0_windOfHour cX0_windOfHour 1 (some .int), Cond.methodLink RX0 105 yJ9_floorMod_7cf53, Cond.static yJ9_floorMod_7cf53, Cond.initialized RJ9, Cond.code yJ9_floorMod_7cf53 cJ9_floorMod_7cf53 3 (some .int), Cond.methodLink RX0 77 yX0_finishSacks, Cond.instanceMethod yX0_finishSacks, Cond.selects RX0 yX0_finishSacks yX0_finishSacks, Cond.code yX0_finishSacks cX0_finishSacks 3 none]
def wsL_wouldBeInTime_r5 : List Cond := [Cond.methodLink RX1 127 yX0_isGround]
def wsL_wouldBeInTime : List Cond := .codeWith yL_wouldBeInTime cL_wouldBeInTime 5 (some .int) [(0, 17, 20, 13)] :: ((wsL_wouldBeInTime_r1 ++ (wsL_wouldBeInTime_r2 ++ (wsL_wouldBeInTime_r3 ++ (wsL_wouldBeInTime_r4 ++ wsL_wouldBeInTime_r5)))) ++ wsX10 ++ wsX00 ++ (vx_atS RX1 23 "java/lang/IllegalArgumentException" ["java/lang/RuntimeException", "java/lang/Exception"]).filter goodWord)
def wsL_groundIn_r1 : List Cond := [Cond.classLink RL 13 "java/lang/IllegalArgumentException", Cond.methodLink RL 74 yX1_groundIn, Cond.instanceMethod yX1_groundIn, Cond.selects RX1 yX1_groundIn yX1_groundIn, Cond.initialized RX1, Cond.code yX1_groundIn cX1_groundIn 2 (some .int), Cond.fieldLink RX1 16 "GustMill" "trial" "LGustMill$State;", Cond.fieldLink RX1 10 "GustMill" "now" "LGustMill$State;", Cond.methodLink RX1 93 yX1_requireHours, Cond.static yX1_requireHours, Cond.code yX1_requireHours cX1_requireHours 1 none, Cond.classLink RX1 19 "java/lang/IllegalArgumentException", Cond.initialized "java/lang/IllegalArgumentException", Cond.methodLink RX1 143 yX0_become, Cond.instanceMethod yX0_become, Cond.selects RX0 yX0_become yX0_become, Cond.initialized RX0, Cond.code yX0_become cX0_become 2 none, Cond.fieldLink RX0 9 "GustMill$State" "winds" "[I", Cond.fieldLink RX0 15 "GustMill$State" "sizes" "[I", Cond.fieldLink RX0 18 "GustMill$State" "sacksUpon" "[I", Cond.fieldLink RX0 25 "GustMill$State" "bakers" "[I", Cond.fieldLink RX0 28 "GustMill$State" "lefts" "[I", Cond.fieldLink RX0 31 "GustMill$State" "untils" "[I"]
def wsL_groundIn_r2 : List Cond := [Cond.fieldLink RX0 34 "GustMill$State" "stonesUnder" "[I", Cond.fieldLink RX0 37 "GustMill$State" "groundHours" "[I", Cond.fieldLink RX0 40 "GustMill$State" "hour" "I", Cond.fieldLink RX0 44 "GustMill$State" "stoneCount" "I", Cond.fieldLink RX0 47 "GustMill$State" "sackCount" "I", Cond.fieldLink RX0 50 "GustMill$State" "groundCount" "I", Cond.fieldLink RX0 53 "GustMill$State" "changeCount" "I", Cond.fieldLink RX0 56 "GustMill$State" "rule" "I", Cond.fieldLink RX0 59 "GustMill$State" "isTakingOff" "Z", Cond.methodLink RX0 63 yX0_copyRow, Cond.static yX0_copyRow, Cond.code yX0_copyRow cX0_copyRow 3 none, Cond.methodLink RX1 96 yX0_run, Cond.instanceMethod yX0_run, Cond.selects RX0 yX0_run yX0_run, Cond.code yX0_run cX0_run 5 (some .int), Cond.methodLink RX0 67 yX0_takeOffUnwanted, Cond.instanceMethod yX0_takeOffUnwanted, Cond.selects RX0 yX0_takeOffUnwanted yX0_takeOffUnwanted, Cond.code yX0_takeOffUnwanted cX0_takeOffUnwanted 3 none, Cond.methodLink RX0 80 yX0_countAhead, Cond.instanceMethod yX0_countAhead, Cond.selects RX0 yX0_countAhead yX0_countAhead, Cond.code yX0_countAhead cX0_countAhead 4 (some .int)]
def wsL_groundIn_r3 : List Cond := [Cond.methodLink RX0 101 yX0_isGround, Cond.instanceMethod yX0_isGround, Cond.selects RX0 yX0_isGround yX0_isGround, Cond.code yX0_isGround cX0_isGround 2 (some .boolean), Cond.methodLink RX0 108 yX0_isAhead, Cond.instanceMethod yX0_isAhead, Cond.selects RX0 yX0_isAhead yX0_isAhead, Cond.code yX0_isAhead cX0_isAhead 4 (some .boolean), Cond.methodLink RX0 84 yX0_clearStone, Cond.instanceMethod yX0_clearStone, Cond.selects RX0 yX0_clearStone yX0_clearStone, Cond.code yX0_clearStone cX0_clearStone 3 none, Cond.methodLink RX0 70 yX0_fillStones, Cond.instanceMethod yX0_fillStones, Cond.selects RX0 yX0_fillStones yX0_fillStones, Cond.code yX0_fillStones cX0_fillStones 3 none, Cond.fieldLink RX0 21 "GustMill$State" "isFresh" "[Z", Cond.methodLink RX0 88 yX0_firstByRule, Cond.instanceMethod yX0_firstByRule, Cond.selects RX0 yX0_firstByRule yX0_firstByRule, Cond.code yX0_firstByRule cX0_firstByRule 5 (some .int), Cond.methodLink RX0 73 yX0_grind, Cond.instanceMethod yX0_grind, Cond.selects RX0 yX0_grind yX0_grind]
def wsL_groundIn_r4 : List Cond := [Cond.code yX0_grind cX0_grind 7 (some .int), Cond.methodLink RX0 95 Lib.Math.min.name, Cond.static Lib.Math.min.name, Cond.initialized "java/lang/Math", Cond.code Lib.Math.min.name Lib.Math.min.code 2 (some .int), Cond.methodLink RX0 92 yX0_windOfHour, Cond.instanceMethod yX0_windOfHour, Cond.selects RX0 yX0_windOfHour yX0_windOfHour, Cond.code yX0_windOfHour cX0_windOfHour 1 (some .int), Cond.methodLink RX0 105 yJ9_floorMod_7cf53, Cond.static yJ9_floorMod_7cf53, Cond.initialized RJ9, Cond.code yJ9_floorMod_7cf53 cJ9_floorMod_7cf53 3 (some .int), Cond.methodLink RX0 77 yX0_finishSacks, Cond.instanceMethod yX0_finishSacks, Cond.selects RX0 yX0_finishSacks yX0_finishSacks, Cond.code yX0_finishSacks cX0_finishSacks 3 none]
def wsL_groundIn : List Cond := .codeWith yL_groundIn cL_groundIn 4 (some .int) [(0, 9, 12, 13)] :: ((wsL_groundIn_r1 ++ (wsL_groundIn_r2 ++ (wsL_groundIn_r3 ++ wsL_groundIn_r4))) ++ wsX10 ++ wsX00 ++ (vx_atS RX1 23 "java/lang/IllegalArgumentException" ["java/lang/RuntimeException", "java/lang/Exception"]).filter goodWord)
def wsL_law0_r1 : List Cond := [Cond.classLink RL 8 RX1, Cond.instantiable RX1 2, Cond.initialized RX1, Cond.classLink RL 78 RX2, Cond.instantiable RX2 12, Cond.initialized RX2, Cond.arrayClass .long, Cond.methodLink RL 77 yX1_init, Cond.instanceMethod yX1_init, Cond.code yX1_init cX1_init 1 none, Cond.methodLink RX1 1 objectInit, Cond.instanceMethod objectInit, Cond.code objectInit ⟨#[0xb1]⟩ 1 none, Cond.classLink RX1 7 RX0, Cond.instantiable RX0 16, Cond.initialized RX0, Cond.fieldLink RX1 10 "GustMill" "now" "LGustMill$State;", Cond.fieldLink RX1 16 "GustMill" "trial" "LGustMill$State;", Cond.methodLink RX1 9 yX0_init, Cond.instanceMethod yX0_init, Cond.code yX0_init cX0_init 2 none, Cond.methodLink RX0 3 objectInit, Cond.arrayClass .int, Cond.fieldLink RX0 9 "GustMill$State" "winds" "[I"]
def wsL_law0_r2 : List Cond := [Cond.fieldLink RX0 15 "GustMill$State" "sizes" "[I", Cond.fieldLink RX0 18 "GustMill$State" "sacksUpon" "[I", Cond.arrayClass .boolean, Cond.fieldLink RX0 21 "GustMill$State" "isFresh" "[Z", Cond.fieldLink RX0 25 "GustMill$State" "bakers" "[I", Cond.fieldLink RX0 28 "GustMill$State" "lefts" "[I", Cond.fieldLink RX0 31 "GustMill$State" "untils" "[I", Cond.fieldLink RX0 34 "GustMill$State" "stonesUnder" "[I", Cond.fieldLink RX0 37 "GustMill$State" "groundHours" "[I", Cond.fieldLink RX0 40 "GustMill$State" "hour" "I", Cond.fieldLink RX0 44 "GustMill$State" "stoneCount" "I", Cond.fieldLink RX0 47 "GustMill$State" "sackCount" "I", Cond.fieldLink RX0 50 "GustMill$State" "groundCount" "I", Cond.fieldLink RX0 53 "GustMill$State" "changeCount" "I", Cond.fieldLink RX0 56 "GustMill$State" "rule" "I", Cond.fieldLink RX0 59 "GustMill$State" "isTakingOff" "Z", Cond.methodLink RL 80 yX2_init, Cond.instanceMethod yX2_init, Cond.code yX2_init cX2_init 2 none, Cond.methodLink RX2 1 objectInit, Cond.fieldLink RX2 9 "GustMillModel" "size" "[I", Cond.fieldLink RX2 13 "GustMillModel" "wind" "[I", Cond.fieldLink RX2 16 "GustMillModel" "baker" "[I", Cond.fieldLink RX2 19 "GustMillModel" "until" "[I"]
def wsL_law0_r3 : List Cond := [Cond.fieldLink RX2 22 "GustMillModel" "now" "[I", Cond.fieldLink RX2 25 "GustMillModel" "kept" "[I", Cond.fieldLink RX2 28 "GustMillModel" "fresh" "[I", Cond.methodLink RL 81 yL_addStone, Cond.static yL_addStone, Cond.initialized RL, Cond.codeWith yL_addStone cL_addStone 4 (some .int) [(0, 9, 12, 13), (0, 9, 15, 15)], Cond.classLink RL 13 "java/lang/IllegalArgumentException", Cond.classLink RL 15 "java/lang/IllegalStateException", Cond.methodLink RL 7 yX1_addStone, Cond.instanceMethod yX1_addStone, Cond.selects RX1 yX1_addStone yX1_addStone, Cond.code yX1_addStone cX1_addStone 2 (some .int), Cond.classLink RX1 19 "java/lang/IllegalArgumentException", Cond.initialized "java/lang/IllegalArgumentException", Cond.classLink RX1 30 "java/lang/IllegalStateException", Cond.initialized "java/lang/IllegalStateException", Cond.methodLink RX1 35 yX0_placeStone, Cond.instanceMethod yX0_placeStone, Cond.selects RX0 yX0_placeStone yX0_placeStone, Cond.code yX0_placeStone cX0_placeStone 3 (some .int), Cond.methodLink RL 86 yX2_addStone, Cond.instanceMethod yX2_addStone, Cond.selects RX2 yX2_addStone yX2_addStone]
def wsL_law0_r4 : List Cond := [Cond.code yX2_addStone cX2_addStone 2 (some .int), Cond.fieldLink RX2 31 "GustMillModel" "thrown" "I", Cond.fieldLink RX2 35 "GustMillModel" "stones" "I", Cond.methodLink RX2 38 yX2_isIn, Cond.static yX2_isIn, Cond.code yX2_isIn cX2_isIn 3 (some .boolean), Cond.methodLink RX2 85 yX2_fail, Cond.instanceMethod yX2_fail, Cond.selects RX2 yX2_fail yX2_fail, Cond.code yX2_fail cX2_fail 2 (some .int), Cond.methodLink RL 87 yX2_thrown, Cond.instanceMethod yX2_thrown, Cond.selects RX2 yX2_thrown yX2_thrown, Cond.code yX2_thrown cX2_thrown 1 (some .int), Cond.methodLink RL 91 yL_setWind, Cond.static yL_setWind, Cond.codeWith yL_setWind cL_setWind 5 (some .int) [(0, 10, 13, 21), (0, 10, 17, 13)], Cond.classLink RL 21 "java/lang/IndexOutOfBoundsException", Cond.methodLink RL 17 yX1_setWind, Cond.instanceMethod yX1_setWind, Cond.selects RX1 yX1_setWind yX1_setWind, Cond.code yX1_setWind cX1_setWind 4 (some .int), Cond.classLink RX1 39 "java/lang/IndexOutOfBoundsException", Cond.initialized "java/lang/IndexOutOfBoundsException"]
def wsL_law0_r5 : List Cond := [Cond.methodLink RL 94 yX2_setWind, Cond.instanceMethod yX2_setWind, Cond.selects RX2 yX2_setWind yX2_setWind, Cond.code yX2_setWind cX2_setWind 4 (some .int), Cond.methodLink RL 95 yL_setRule, Cond.static yL_setRule, Cond.codeWith yL_setRule cL_setRule 4 (some .int) [(0, 9, 12, 13)], Cond.methodLink RL 23 yX1_setRule, Cond.instanceMethod yX1_setRule, Cond.selects RX1 yX1_setRule yX1_setRule, Cond.code yX1_setRule cX1_setRule 3 (some .int), Cond.methodLink RX1 50 yX1_requireRule, Cond.static yX1_requireRule, Cond.code yX1_requireRule cX1_requireRule 1 none, Cond.methodLink RL 97 yX2_setRule, Cond.instanceMethod yX2_setRule, Cond.selects RX2 yX2_setRule yX2_setRule, Cond.code yX2_setRule cX2_setRule 3 (some .int), Cond.fieldLink RX2 51 "GustMillModel" "rule" "I", Cond.methodLink RL 98 yX1_setTakingOff, Cond.instanceMethod yX1_setTakingOff, Cond.selects RX1 yX1_setTakingOff yX1_setTakingOff, Cond.code yX1_setTakingOff cX1_setTakingOff 3 (some .boolean), Cond.methodLink RL 102 yX2_setTakingOff]
def wsL_law0_r6 : List Cond := [Cond.instanceMethod yX2_setTakingOff, Cond.selects RX2 yX2_setTakingOff yX2_setTakingOff, Cond.code yX2_setTakingOff cX2_setTakingOff 3 (some .boolean), Cond.fieldLink RX2 62 "GustMillModel" "isAllowed" "Z", Cond.methodLink RL 103 yL_bring, Cond.static yL_bring, Cond.codeWith yL_bring cL_bring 6 (some .int) [(0, 12, 15, 13), (0, 12, 19, 15)], Cond.methodLink RL 26 yX1_bring, Cond.instanceMethod yX1_bring, Cond.selects RX1 yX1_bring yX1_bring, Cond.code yX1_bring cX1_bring 4 (some .int), Cond.methodLink RX1 61 yX1_requireBaker, Cond.static yX1_requireBaker, Cond.code yX1_requireBaker cX1_requireBaker 1 none, Cond.methodLink RX1 64 yX1_requireGrain, Cond.static yX1_requireGrain, Cond.code yX1_requireGrain cX1_requireGrain 1 none, Cond.methodLink RX1 67 yX1_requireUntil, Cond.static yX1_requireUntil, Cond.code yX1_requireUntil cX1_requireUntil 1 none, Cond.methodLink RX1 75 yX0_storeSack, Cond.instanceMethod yX0_storeSack, Cond.selects RX0 yX0_storeSack yX0_storeSack, Cond.code yX0_storeSack cX0_storeSack 5 (some .int)]
def wsL_law0_r7 : List Cond := [Cond.methodLink RL 106 yX2_bring, Cond.instanceMethod yX2_bring, Cond.selects RX2 yX2_bring yX2_bring, Cond.code yX2_bring cX2_bring 4 (some .int), Cond.fieldLink RX2 42 "GustMillModel" "sacks" "I", Cond.methodLink RX2 88 yX2_put, Cond.instanceMethod yX2_put, Cond.selects RX2 yX2_put yX2_put, Cond.code yX2_put cX2_put 4 none, Cond.methodLink RL 107 yL_lift, Cond.static yL_lift, Cond.codeWith yL_lift cL_lift 4 (some .int) [(0, 9, 12, 21), (0, 9, 15, 15)], Cond.methodLink RL 30 yX1_lift, Cond.instanceMethod yX1_lift, Cond.selects RX1 yX1_lift yX1_lift, Cond.code yX1_lift cX1_lift 3 (some .int), Cond.methodLink RX1 79 yX1_requireSack, Cond.instanceMethod yX1_requireSack, Cond.selects RX1 yX1_requireSack yX1_requireSack, Cond.code yX1_requireSack cX1_requireSack 2 none, Cond.methodLink RX1 87 yX0_clearStone, Cond.instanceMethod yX0_clearStone, Cond.selects RX0 yX0_clearStone yX0_clearStone, Cond.code yX0_clearStone cX0_clearStone 3 none]
def wsL_law0_r8 : List Cond := [Cond.methodLink RL 109 yX2_lift, Cond.instanceMethod yX2_lift, Cond.selects RX2 yX2_lift yX2_lift, Cond.code yX2_lift cX2_lift 3 (some .int), Cond.methodLink RX2 92 yX2_isSack, Cond.instanceMethod yX2_isSack, Cond.selects RX2 yX2_isSack yX2_isSack, Cond.code yX2_isSack cX2_isSack 2 (some .boolean), Cond.methodLink RL 110 yL_setUntil, Cond.static yL_setUntil, Cond.codeWith yL_setUntil cL_setUntil 5 (some .int) [(0, 10, 13, 21), (0, 10, 17, 13)], Cond.methodLink RL 33 yX1_setUntil, Cond.instanceMethod yX1_setUntil, Cond.selects RX1 yX1_setUntil yX1_setUntil, Cond.code yX1_setUntil cX1_setUntil 4 (some .int), Cond.methodLink RL 112 yX2_setUntil, Cond.instanceMethod yX2_setUntil, Cond.selects RX2 yX2_setUntil yX2_setUntil, Cond.code yX2_setUntil cX2_setUntil 4 (some .int), Cond.methodLink RL 113 yL_pass, Cond.static yL_pass, Cond.codeWith yL_pass cL_pass 4 (some .int) [(0, 9, 12, 13)], Cond.methodLink RL 36 yX1_pass, Cond.instanceMethod yX1_pass]
def wsL_law0_r9 : List Cond := [Cond.selects RX1 yX1_pass yX1_pass, Cond.code yX1_pass cX1_pass 2 (some .int), Cond.methodLink RX1 93 yX1_requireHours, Cond.static yX1_requireHours, Cond.code yX1_requireHours cX1_requireHours 1 none, Cond.methodLink RX1 96 yX0_run, Cond.instanceMethod yX0_run, Cond.selects RX0 yX0_run yX0_run, Cond.code yX0_run cX0_run 5 (some .int), Cond.methodLink RX0 67 yX0_takeOffUnwanted, Cond.instanceMethod yX0_takeOffUnwanted, Cond.selects RX0 yX0_takeOffUnwanted yX0_takeOffUnwanted, Cond.code yX0_takeOffUnwanted cX0_takeOffUnwanted 3 none, Cond.methodLink RX0 80 yX0_countAhead, Cond.instanceMethod yX0_countAhead, Cond.selects RX0 yX0_countAhead yX0_countAhead, Cond.code yX0_countAhead cX0_countAhead 4 (some .int), Cond.methodLink RX0 101 yX0_isGround, Cond.instanceMethod yX0_isGround, Cond.selects RX0 yX0_isGround yX0_isGround, Cond.code yX0_isGround cX0_isGround 2 (some .boolean), Cond.methodLink RX0 108 yX0_isAhead, Cond.instanceMethod yX0_isAhead, Cond.selects RX0 yX0_isAhead yX0_isAhead]
def wsL_law0_r10 : List Cond := [Cond.code yX0_isAhead cX0_isAhead 4 (some .boolean), Cond.methodLink RX0 84 yX0_clearStone, Cond.methodLink RX0 70 yX0_fillStones, Cond.instanceMethod yX0_fillStones, Cond.selects RX0 yX0_fillStones yX0_fillStones, Cond.code yX0_fillStones cX0_fillStones 3 none, Cond.methodLink RX0 88 yX0_firstByRule, Cond.instanceMethod yX0_firstByRule, Cond.selects RX0 yX0_firstByRule yX0_firstByRule, Cond.code yX0_firstByRule cX0_firstByRule 5 (some .int), Cond.methodLink RX0 73 yX0_grind, Cond.instanceMethod yX0_grind, Cond.selects RX0 yX0_grind yX0_grind, Cond.code yX0_grind cX0_grind 7 (some .int), Cond.methodLink RX0 95 Lib.Math.min.name, Cond.static Lib.Math.min.name, Cond.initialized "java/lang/Math", Cond.code Lib.Math.min.name Lib.Math.min.code 2 (some .int), Cond.methodLink RX0 92 yX0_windOfHour, Cond.instanceMethod yX0_windOfHour, Cond.selects RX0 yX0_windOfHour yX0_windOfHour, Cond.code yX0_windOfHour cX0_windOfHour 1 (some .int), Cond.methodLink RX0 105 yJ9_floorMod_7cf53, Cond.static yJ9_floorMod_7cf53]
def wsL_law0_r11 : List Cond := [Cond.initialized RJ9, Cond.code yJ9_floorMod_7cf53 cJ9_floorMod_7cf53 3 (some .int), Cond.methodLink RX0 77 yX0_finishSacks, Cond.instanceMethod yX0_finishSacks, Cond.selects RX0 yX0_finishSacks yX0_finishSacks, Cond.code yX0_finishSacks cX0_finishSacks 3 none, Cond.methodLink RL 115 yX2_pass, Cond.instanceMethod yX2_pass, Cond.selects RX2 yX2_pass yX2_pass, Cond.code yX2_pass cX2_pass 3 (some .int), Cond.methodLink RX2 95 yX2_hoursOn, Cond.instanceMethod yX2_hoursOn, Cond.selects RX2 yX2_hoursOn yX2_hoursOn, Cond.code yX2_hoursOn cX2_hoursOn 3 none, Cond.methodLink RX2 82 yX2_hourOn, Cond.instanceMethod yX2_hourOn, Cond.selects RX2 yX2_hourOn yX2_hourOn, Cond.code yX2_hourOn cX2_hourOn 5 none, Cond.methodLink RX2 76 Lib.Math.min.name, Cond.methodLink RX2 66 yX2_ahead, Cond.instanceMethod yX2_ahead, Cond.selects RX2 yX2_ahead yX2_ahead, Cond.code yX2_ahead cX2_ahead 4 (some .int), Cond.methodLink RX2 54 yX2_isDone]
def wsL_law0_r12 : List Cond := [Cond.instanceMethod yX2_isDone, Cond.selects RX2 yX2_isDone yX2_isDone, Cond.code yX2_isDone cX2_isDone 2 (some .boolean), Cond.methodLink RX2 58 yX2_turn, Cond.instanceMethod yX2_turn, Cond.selects RX2 yX2_turn yX2_turn, Cond.code yX2_turn cX2_turn 2 (some .int), Cond.methodLink RX2 69 yX2_on, Cond.instanceMethod yX2_on, Cond.selects RX2 yX2_on yX2_on, Cond.code yX2_on cX2_on 3 (some .int), Cond.methodLink RX2 72 yX2_next, Cond.instanceMethod yX2_next, Cond.selects RX2 yX2_next yX2_next, Cond.code yX2_next cX2_next 4 (some .int), Cond.methodLink RL 116 yX1_hour, Cond.instanceMethod yX1_hour, Cond.selects RX1 yX1_hour yX1_hour, Cond.code yX1_hour cX1_hour 1 (some .int), Cond.methodLink RL 119 yX2_hour, Cond.instanceMethod yX2_hour, Cond.selects RX2 yX2_hour yX2_hour, Cond.code yX2_hour cX2_hour 1 (some .int), Cond.methodLink RX2 99 yX2_told]
def wsL_law0_r13 : List Cond := [Cond.instanceMethod yX2_told, Cond.selects RX2 yX2_told yX2_told, Cond.code yX2_told cX2_told 2 (some .int), Cond.methodLink RL 120 yX1_stones, Cond.instanceMethod yX1_stones, Cond.selects RX1 yX1_stones yX1_stones, Cond.code yX1_stones cX1_stones 1 (some .int), Cond.methodLink RL 123 yX2_stones, Cond.instanceMethod yX2_stones, Cond.selects RX2 yX2_stones yX2_stones, Cond.code yX2_stones cX2_stones 1 (some .int), Cond.methodLink RL 124 yX1_sacks, Cond.instanceMethod yX1_sacks, Cond.selects RX1 yX1_sacks yX1_sacks, Cond.code yX1_sacks cX1_sacks 1 (some .int), Cond.methodLink RL 127 yX2_sacks, Cond.instanceMethod yX2_sacks, Cond.selects RX2 yX2_sacks yX2_sacks, Cond.code yX2_sacks cX2_sacks 1 (some .int), Cond.methodLink RL 128 yX1_rule, Cond.instanceMethod yX1_rule, Cond.selects RX1 yX1_rule yX1_rule, Cond.code yX1_rule cX1_rule 1 (some .int), Cond.methodLink RL 131 yX2_rule]
def wsL_law0_r14 : List Cond := [Cond.instanceMethod yX2_rule, Cond.selects RX2 yX2_rule yX2_rule, Cond.code yX2_rule cX2_rule 1 (some .int), Cond.methodLink RL 132 yX1_wind, Cond.instanceMethod yX1_wind, Cond.selects RX1 yX1_wind yX1_wind, Cond.code yX1_wind cX1_wind 1 (some .int), Cond.methodLink RX1 102 yX0_windOfHour, Cond.methodLink RL 135 yX2_wind, Cond.instanceMethod yX2_wind, Cond.selects RX2 yX2_wind yX2_wind, Cond.code yX2_wind cX2_wind 1 (some .int), Cond.methodLink RL 136 yL_sackOn, Cond.static yL_sackOn, Cond.codeWith yL_sackOn cL_sackOn 4 (some .int) [(0, 9, 12, 21)], Cond.methodLink RL 39 yX1_sackOn, Cond.instanceMethod yX1_sackOn, Cond.selects RX1 yX1_sackOn yX1_sackOn, Cond.code yX1_sackOn cX1_sackOn 2 (some .int), Cond.methodLink RL 138 yX2_sackOn, Cond.instanceMethod yX2_sackOn, Cond.selects RX2 yX2_sackOn yX2_sackOn, Cond.code yX2_sackOn cX2_sackOn 2 (some .int), Cond.methodLink RX2 102 yX2_isStone]
def wsL_law0_r15 : List Cond := [Cond.instanceMethod yX2_isStone, Cond.selects RX2 yX2_isStone yX2_isStone, Cond.code yX2_isStone cX2_isStone 2 (some .boolean), Cond.methodLink RL 139 yL_stoneOf, Cond.static yL_stoneOf, Cond.codeWith yL_stoneOf cL_stoneOf 4 (some .int) [(0, 9, 12, 21)], Cond.methodLink RL 42 yX1_stoneOf, Cond.instanceMethod yX1_stoneOf, Cond.selects RX1 yX1_stoneOf yX1_stoneOf, Cond.code yX1_stoneOf cX1_stoneOf 2 (some .int), Cond.methodLink RL 141 yX2_stoneOf, Cond.instanceMethod yX2_stoneOf, Cond.selects RX2 yX2_stoneOf yX2_stoneOf, Cond.code yX2_stoneOf cX2_stoneOf 2 (some .int), Cond.methodLink RX2 105 yX2_of, Cond.instanceMethod yX2_of, Cond.selects RX2 yX2_of yX2_of, Cond.code yX2_of cX2_of 3 (some .int), Cond.methodLink RL 142 yL_leftOf, Cond.static yL_leftOf, Cond.codeWith yL_leftOf cL_leftOf 4 (some .int) [(0, 9, 12, 21)], Cond.methodLink RL 45 yX1_leftOf, Cond.instanceMethod yX1_leftOf, Cond.selects RX1 yX1_leftOf yX1_leftOf]
def wsL_law0_r16 : List Cond := [Cond.code yX1_leftOf cX1_leftOf 2 (some .int), Cond.methodLink RL 144 yX2_leftOf, Cond.instanceMethod yX2_leftOf, Cond.selects RX2 yX2_leftOf yX2_leftOf, Cond.code yX2_leftOf cX2_leftOf 2 (some .int), Cond.methodLink RL 145 yL_untilOf, Cond.static yL_untilOf, Cond.codeWith yL_untilOf cL_untilOf 4 (some .int) [(0, 9, 12, 21)], Cond.methodLink RL 48 yX1_untilOf, Cond.instanceMethod yX1_untilOf, Cond.selects RX1 yX1_untilOf yX1_untilOf, Cond.code yX1_untilOf cX1_untilOf 2 (some .int), Cond.methodLink RL 147 yX2_untilOf, Cond.instanceMethod yX2_untilOf, Cond.selects RX2 yX2_untilOf yX2_untilOf, Cond.code yX2_untilOf cX2_untilOf 2 (some .int), Cond.methodLink RL 148 yL_groundAt, Cond.static yL_groundAt, Cond.codeWith yL_groundAt cL_groundAt 4 (some .int) [(0, 9, 12, 21)], Cond.methodLink RL 51 yX1_groundAt, Cond.instanceMethod yX1_groundAt, Cond.selects RX1 yX1_groundAt yX1_groundAt, Cond.code yX1_groundAt cX1_groundAt 2 (some .int), Cond.methodLink RL 150 yX2_groundAt]
def wsL_law0_r17 : List Cond := [Cond.instanceMethod yX2_groundAt, Cond.selects RX2 yX2_groundAt yX2_groundAt, Cond.code yX2_groundAt cX2_groundAt 2 (some .int), Cond.methodLink RL 151 yX1_ground, Cond.instanceMethod yX1_ground, Cond.selects RX1 yX1_ground yX1_ground, Cond.code yX1_ground cX1_ground 1 (some .int), Cond.methodLink RL 154 yX2_ground, Cond.instanceMethod yX2_ground, Cond.selects RX2 yX2_ground yX2_ground, Cond.code yX2_ground cX2_ground 1 (some .int), Cond.methodLink RX2 108 yX2_done, Cond.instanceMethod yX2_done, Cond.selects RX2 yX2_done yX2_done, Cond.code yX2_done cX2_done 3 (some .int), Cond.methodLink RL 155 yX1_changes, Cond.instanceMethod yX1_changes, Cond.selects RX1 yX1_changes yX1_changes, Cond.code yX1_changes cX1_changes 1 (some .int), Cond.methodLink RL 158 yX2_changes, Cond.instanceMethod yX2_changes, Cond.selects RX2 yX2_changes yX2_changes, Cond.code yX2_changes cX2_changes 1 (some .int), Cond.methodLink RL 159 yX1_first]
def wsL_law0_r18 : List Cond := [Cond.instanceMethod yX1_first, Cond.selects RX1 yX1_first yX1_first, Cond.code yX1_first cX1_first 1 (some .int), Cond.methodLink RX1 123 yX0_firstByRule, Cond.methodLink RL 162 yX2_first, Cond.instanceMethod yX2_first, Cond.selects RX2 yX2_first yX2_first, Cond.code yX2_first cX2_first 1 (some .int), Cond.methodLink RL 163 yL_placeOf, Cond.static yL_placeOf, Cond.codeWith yL_placeOf cL_placeOf 4 (some .int) [(0, 9, 12, 21)], Cond.methodLink RL 54 yX1_placeOf, Cond.instanceMethod yX1_placeOf, Cond.selects RX1 yX1_placeOf yX1_placeOf, Cond.code yX1_placeOf cX1_placeOf 2 (some .int), Cond.methodLink RX1 127 yX0_isGround, Cond.methodLink RX1 131 yX0_countAhead, Cond.methodLink RL 165 yX2_placeOf, Cond.instanceMethod yX2_placeOf, Cond.selects RX2 yX2_placeOf yX2_placeOf, Cond.code yX2_placeOf cX2_placeOf 2 (some .int), Cond.methodLink RX2 112 yX2_place, Cond.instanceMethod yX2_place, Cond.selects RX2 yX2_place yX2_place]
def wsL_law0_r19 : List Cond := [Cond.code yX2_place cX2_place 2 (some .int), Cond.methodLink RL 166 yL_leftFor, Cond.static yL_leftFor, Cond.codeWith yL_leftFor cL_leftFor 4 (some .int) [(0, 9, 12, 13)], Cond.methodLink RL 57 yX1_leftFor, Cond.instanceMethod yX1_leftFor, Cond.selects RX1 yX1_leftFor yX1_leftFor, Cond.code yX1_leftFor cX1_leftFor 4 (some .int), Cond.methodLink RL 168 yX2_leftFor, Cond.instanceMethod yX2_leftFor, Cond.selects RX2 yX2_leftFor yX2_leftFor, Cond.code yX2_leftFor cX2_leftFor 2 (some .int), Cond.methodLink RX2 115 yX2_rest, Cond.instanceMethod yX2_rest, Cond.selects RX2 yX2_rest yX2_rest, Cond.code yX2_rest cX2_rest 4 (some .int), Cond.methodLink RL 169 yX1_late, Cond.instanceMethod yX1_late, Cond.selects RX1 yX1_late yX1_late, Cond.code yX1_late cX1_late 1 (some .int), Cond.methodLink RX1 137 yX0_hoursLate, Cond.instanceMethod yX0_hoursLate, Cond.selects RX0 yX0_hoursLate yX0_hoursLate, Cond.code yX0_hoursLate cX0_hoursLate 3 (some .int)]
def wsL_law0_r20 : List Cond := [Cond.methodLink RX0 112 Lib.Math.max.name, Cond.static Lib.Math.max.name, Cond.code Lib.Math.max.name Lib.Math.max.code 2 (some .int), Cond.methodLink RL 172 yX2_late, Cond.instanceMethod yX2_late, Cond.selects RX2 yX2_late yX2_late, Cond.code yX2_late cX2_late 1 (some .int), Cond.methodLink RX2 121 yX2_lost, Cond.instanceMethod yX2_lost, Cond.selects RX2 yX2_lost yX2_lost, Cond.code yX2_lost cX2_lost 4 (some .int), Cond.methodLink RX2 118 Lib.Math.max.name, Cond.methodLink RL 173 yL_willBeGroundAt, Cond.static yL_willBeGroundAt, Cond.codeWith yL_willBeGroundAt cL_willBeGroundAt 4 (some .int) [(0, 9, 12, 21)], Cond.methodLink RL 60 yX1_willBeGroundAt, Cond.instanceMethod yX1_willBeGroundAt, Cond.selects RX1 yX1_willBeGroundAt yX1_willBeGroundAt, Cond.code yX1_willBeGroundAt cX1_willBeGroundAt 2 (some .int), Cond.methodLink RX1 140 yX1_lookAhead, Cond.instanceMethod yX1_lookAhead, Cond.selects RX1 yX1_lookAhead yX1_lookAhead, Cond.code yX1_lookAhead cX1_lookAhead 1 none, Cond.methodLink RX1 143 yX0_become]
def wsL_law0_r21 : List Cond := [Cond.instanceMethod yX0_become, Cond.selects RX0 yX0_become yX0_become, Cond.code yX0_become cX0_become 2 none, Cond.methodLink RX0 63 yX0_copyRow, Cond.static yX0_copyRow, Cond.code yX0_copyRow cX0_copyRow 3 none, Cond.methodLink RL 175 yX2_willBeGroundAt, Cond.instanceMethod yX2_willBeGroundAt, Cond.selects RX2 yX2_willBeGroundAt yX2_willBeGroundAt, Cond.code yX2_willBeGroundAt cX2_willBeGroundAt 2 (some .int), Cond.methodLink RX2 130 yX2_groundThen, Cond.instanceMethod yX2_groundThen, Cond.selects RX2 yX2_groundThen yX2_groundThen, Cond.code yX2_groundThen cX2_groundThen 3 (some .int), Cond.methodLink RX2 124 yX2_keep, Cond.instanceMethod yX2_keep, Cond.selects RX2 yX2_keep yX2_keep, Cond.code yX2_keep cX2_keep 1 none, Cond.methodLink RX2 45 arraycopyName, Cond.native arraycopyName, Cond.static arraycopyName, Cond.initialized "java/lang/System", Cond.methodLink RX2 127 yX2_bringBack, Cond.instanceMethod yX2_bringBack]
def wsL_law0_r22 : List Cond := [Cond.selects RX2 yX2_bringBack yX2_bringBack, Cond.code yX2_bringBack cX2_bringBack 1 none, Cond.methodLink RL 176 yL_spareOf, Cond.static yL_spareOf, Cond.codeWith yL_spareOf cL_spareOf 4 (some .int) [(0, 9, 12, 21)], Cond.methodLink RL 63 yX1_spareOf, Cond.instanceMethod yX1_spareOf, Cond.selects RX1 yX1_spareOf yX1_spareOf, Cond.code yX1_spareOf cX1_spareOf 2 (some .int), Cond.methodLink RL 178 yX2_spareOf, Cond.instanceMethod yX2_spareOf, Cond.selects RX2 yX2_spareOf yX2_spareOf, Cond.code yX2_spareOf cX2_spareOf 3 (some .int), Cond.methodLink RL 179 yL_lateWith, Cond.static yL_lateWith, Cond.codeWith yL_lateWith cL_lateWith 5 (some .int) [(0, 10, 13, 13)], Cond.methodLink RL 66 yX1_lateWith, Cond.instanceMethod yX1_lateWith, Cond.selects RX1 yX1_lateWith yX1_lateWith, Cond.code yX1_lateWith cX1_lateWith 3 (some .int), Cond.methodLink RL 182 yX2_lateWith, Cond.instanceMethod yX2_lateWith, Cond.selects RX2 yX2_lateWith yX2_lateWith, Cond.code yX2_lateWith cX2_lateWith 3 (some .int)]
def wsL_law0_r23 : List Cond := [Cond.methodLink RX2 133 yX2_lostBy, Cond.instanceMethod yX2_lostBy, Cond.selects RX2 yX2_lostBy yX2_lostBy, Cond.code yX2_lostBy cX2_lostBy 6 (some .int), Cond.methodLink RL 183 yX1_bestRule, Cond.instanceMethod yX1_bestRule, Cond.selects RX1 yX1_bestRule yX1_bestRule, Cond.code yX1_bestRule cX1_bestRule 5 (some .int), Cond.methodLink RX1 147 yX1_lateWith, Cond.methodLink RL 186 yX2_bestRule, Cond.instanceMethod yX2_bestRule, Cond.selects RX2 yX2_bestRule yX2_bestRule, Cond.code yX2_bestRule cX2_bestRule 1 (some .int), Cond.methodLink RX2 137 yX2_best, Cond.instanceMethod yX2_best, Cond.selects RX2 yX2_best yX2_best, Cond.code yX2_best cX2_best 5 (some .int), Cond.methodLink RL 187 yL_wouldBeInTime, Cond.static yL_wouldBeInTime, Cond.codeWith yL_wouldBeInTime cL_wouldBeInTime 5 (some .int) [(0, 17, 20, 13)], Cond.methodLink RL 70 yX1_wouldBeInTime, Cond.instanceMethod yX1_wouldBeInTime, Cond.selects RX1 yX1_wouldBeInTime yX1_wouldBeInTime, Cond.code yX1_wouldBeInTime cX1_wouldBeInTime 4 (some .boolean)]
def wsL_law0_r24 : List Cond := [Cond.methodLink RL 189 yX2_wouldBeInTime, Cond.instanceMethod yX2_wouldBeInTime, Cond.selects RX2 yX2_wouldBeInTime yX2_wouldBeInTime, Cond.code yX2_wouldBeInTime cX2_wouldBeInTime 4 (some .boolean), Cond.methodLink RL 190 yL_groundIn, Cond.static yL_groundIn, Cond.codeWith yL_groundIn cL_groundIn 4 (some .int) [(0, 9, 12, 13)], Cond.methodLink RL 74 yX1_groundIn, Cond.instanceMethod yX1_groundIn, Cond.selects RX1 yX1_groundIn yX1_groundIn, Cond.code yX1_groundIn cX1_groundIn 2 (some .int), Cond.methodLink RL 192 yX2_groundIn, Cond.instanceMethod yX2_groundIn, Cond.selects RX2 yX2_groundIn yX2_groundIn, Cond.code yX2_groundIn cX2_groundIn 2 (some .int), Cond.methodLink RX2 140 yX2_milledIn, Cond.instanceMethod yX2_milledIn, Cond.selects RX2 yX2_milledIn yX2_milledIn, Cond.code yX2_milledIn cX2_milledIn 4 (some .int), Cond.methodLink RL 193 yX1_meanLeft, Cond.instanceMethod yX1_meanLeft, Cond.selects RX1 yX1_meanLeft yX1_meanLeft, Cond.code yX1_meanLeft cX1_meanLeft 4 (some .double), Cond.methodLink RL 197 yX2_meanLeft]
def wsL_law0_r25 : List Cond := [Cond.instanceMethod yX2_meanLeft, Cond.selects RX2 yX2_meanLeft yX2_meanLeft, Cond.code yX2_meanLeft cX2_meanLeft 3 (some .double), Cond.methodLink RL 198 yX1_digest, Cond.instanceMethod yX1_digest, Cond.selects RX1 yX1_digest yX1_digest, Cond.code yX1_digest cX1_digest 4 (some .long), Cond.constantLong RX1 151 (2281), Cond.methodLink RX1 153 yX1_hour, Cond.methodLink RX1 155 yX1_mix, Cond.static yX1_mix, Cond.code yX1_mix cX1_mix 3 (some .long), Cond.constantLong RX1 213 (31), Cond.methodLink RX1 159 yX1_stones, Cond.methodLink RX1 162 yX1_sacks, Cond.methodLink RX1 165 yX1_rule, Cond.methodLink RX1 167 yX1_wind, Cond.methodLink RX1 170 yX1_ground, Cond.methodLink RX1 173 yX1_changes, Cond.methodLink RX1 176 yX1_first, Cond.methodLink RX1 179 yX1_late, Cond.methodLink RX1 182 yX1_bestRule, Cond.methodLink RX1 185 yX1_groundIn, Cond.methodLink RX1 188 yX1_sackOn]
def wsL_law0_r26 : List Cond := [Cond.methodLink RX1 191 yX1_mixSacks, Cond.instanceMethod yX1_mixSacks, Cond.selects RX1 yX1_mixSacks yX1_mixSacks, Cond.code yX1_mixSacks cX1_mixSacks 6 (some .long), Cond.methodLink RX1 198 yX1_stoneOf, Cond.methodLink RX1 201 yX1_leftOf, Cond.methodLink RX1 204 yX1_untilOf, Cond.methodLink RX1 207 yX1_groundAt, Cond.methodLink RX1 210 yX1_placeOf, Cond.methodLink RX1 195 yX1_leftFor, Cond.methodLink RL 202 yX2_digest, Cond.instanceMethod yX2_digest, Cond.selects RX2 yX2_digest yX2_digest, Cond.code yX2_digest cX2_digest 11 (some .long), Cond.constantLong RX2 143 (2281), Cond.constantLong RX2 145 (31)]
def wsL_law0 : List Cond := (wsL_law0_r1 ++ (wsL_law0_r2 ++ (wsL_law0_r3 ++ (wsL_law0_r4 ++ (wsL_law0_r5 ++ (wsL_law0_r6 ++ (wsL_law0_r7 ++ (wsL_law0_r8 ++ (wsL_law0_r9 ++ (wsL_law0_r10 ++ (wsL_law0_r11 ++ (wsL_law0_r12 ++ (wsL_law0_r13 ++ (wsL_law0_r14 ++ (wsL_law0_r15 ++ (wsL_law0_r16 ++ (wsL_law0_r17 ++ (wsL_law0_r18 ++ (wsL_law0_r19 ++ (wsL_law0_r20 ++ (wsL_law0_r21 ++ (wsL_law0_r22 ++ (wsL_law0_r23 ++ (wsL_law0_r24 ++ (wsL_law0_r25 ++ wsL_law0_r26))))))))))))))))))))))))) ++ wsX10 ++ wsX20 ++ wsX00 ++ ([] : List Cond)
def wsL_law : List Cond := wsL_law0 ++ (vx_atS RX1 23 "java/lang/IllegalArgumentException" ["java/lang/RuntimeException", "java/lang/Exception"]).filter goodWord ++ (vx_atS RX1 34 "java/lang/IllegalStateException" ["java/lang/RuntimeException", "java/lang/Exception"]).filter goodWord ++ (vx_atS RX1 43 "java/lang/IndexOutOfBoundsException" ["java/lang/RuntimeException", "java/lang/Exception"]).filter goodWord
abbrev vwCl : List vw_C := [(RX0, TX0, 16), (RX1, TX1, 2), (RX2, TX2, 12)]
