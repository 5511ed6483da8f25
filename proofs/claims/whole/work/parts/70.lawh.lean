/-! THE LAW'S HELPERS: written by wip/whole/gen_lh.py -/
section LH
variable {l : Launch} {y : MethodName} {ws ws' : List Cond} {rm : Room} {D : va_G} {tys : List (ClassId × FieldType)} {E : (Nat → Prop) → State → Heap → Prop} {av : List Value} {w : va_W} {mc ms : Nat} {S : Type}
theorem gk_ofWH {Pc : Array Value → State → Prop} {Qc : Array Value → State → Outcome → State → Prop} {free : Addr → Prop} {cc : ByteArray} {maxL : Nat} {ret : Option FieldType} {hh : List (Nat × Nat × Nat × Nat)}
    (hy : plainName y.cls = true) (hw : ws = Cond.codeWith y cc maxL ret hh :: ws')
    (body : ∀ p e s m args below meth c s₁, BodyLoose p l y (headSpec ws rm) cc maxL ret e s m args below meth c s₁ → c.maxLocals = maxL → Pc args s →
      W p l e (headSpec ws rm).room s m args below meth c s.heap [] 0 0 (MQ below Qc args s mc ms free) (entryFrame m args maxL)) : Met l y ws rm Pc Qc mc ms free := by
  refine MetFree.of_bodyS (code := cc) (maxLocals := maxL) (ret := ret) hy ?_ ?_
  · intro args s m h hn
    obtain ⟨m9, meth, c, hn9, h1, h2, h3, h4, -, h5, h6, -⟩ := Cond.codeWith_spec (atoms_spec (ws := ws) h _ (by rw [hw]; exact List.mem_cons_self))
    cases hn.symm.trans hn9
    exact ⟨meth, c, h1, h2, h3, h4, h5, h6⟩
  · intro p e s m args below meth c s₁ B hml hP _
    have hh0 : s₁.heap = s.heap := by rw [B.state]; rfl
    obtain ⟨t, a1, o, b1, b2, b3⟩ := body p e s m args below meth c s₁ B hml hP s₁ hh0 (Stand.of_body B)
    exact ⟨t, o, a1, b1, b2, ⟨b3.1, b3.2⟩⟩
theorem gk_IH_of {post : Int32 → S → Prop} {wo : S → va_W} {ty : FieldType} {cc : ByteArray} {nL : Nat} {hh : List (Nat × Nat × Nat × Nat)} (hy : plainName y.cls = true) (hw : ws = Cond.codeWith y cc nL (some ty) hh :: ws') (hav : (lg_sl av).length ≤ nL)
    (body : ∀ (p : Program) (e : Env) (s : State) (m : MethodId) (below : List Frame) (meth : Method) (c : Code) (A : Nat → Prop) (Q : State → Prop), c.exceptionTable.toList = tableOf hh → E A s s.heap → gk_G p s m av.toArray meth c y.cls nL cc (some ty) ws D tys A →
      (∀ (cells slots : Nat) (w : va_W) (lv : List (Nat × Value)) (pc : Nat) (v : Int32) (u : S), decode cc pc = .ok (.ireturn, 1) → narrow ty (.int v) = .int v → post v u → w = wo u → cells ≤ mc → slots ≤ ms → gk_C p l e rm s m av.toArray below meth c nL D A Q cells slots w lv pc [.int v]) →
      gk_C p l e rm s m av.toArray below meth c nL D A Q 0 0 w (lv_args 0 av) 0 []) : gk_I l y ws rm D tys E av w mc ms post wo := by
  intro sz
  refine gk_ofWH (cc := cc) (maxL := nL) (ret := some ty) hy hw ?_
  intro p e s m args below meth c s₁ B hml hv
  obtain ⟨rfl, hsz, hP, hK, hD0, hE⟩ := hv
  have hD := hD0.self (sz := sz)
  rw [lg_entry_eq]
  have G : gk_G p s m av.toArray meth c y.cls nL cc (some ty) ws D tys (va_A w sz) := ⟨B.exec, B.bytes, hml, findClass_of_methodNamed B.named, atoms_spec (ws := ws) B.pre, hK, fun q h => Or.inr (by rw [← hsz]; exact h), B.returns, B.notSynchronized⟩
  exact body p e s m below meth c (va_A w sz) _ (vx_table (x := y) B (atoms_spec (ws := ws) B.pre _ (by rw [hw]; exact List.mem_cons_self))) hE G
    (fun cells slots w lv pc v u d hn hp hs hc hsl => gk_retIw G hn d u hp hs hc hsl) s.heap [] _ hP hD va_S.rf (lv_entry av hav)
end LH
