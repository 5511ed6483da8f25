section LC
variable {p : Program} {l : Launch} {e : Env} {R : Room} {s : State} {m : MethodId} {args : Array Value} {below : List Frame} {meth : Method} {c : Code}
variable {own : String} {nL : Nat} {cc : ByteArray} {Ts : List Cond} {D : va_G} {tys : List (ClassId × FieldType)} {A : Nat → Prop} {cells slots pc mc1 ms1 : Nat} {Q : State → Prop} {w w0 : va_W} {lv : List (Nat × Value)} {st : List Value} {ret : Option FieldType}
theorem gk_callCV (G : gk_G p s m args meth c own nL cc ret Ts D tys A) {y : MethodName} {bytes : ByteArray} {maxL idx : Nat} {b : Nat} {C : String} {rt : Option FieldType} {ws ws' : List Cond} {rm : Room} {As : List Value} {wc wr : va_W} {E : (Nat → Prop) → State → Heap → Prop} {st0 : List Value} {Ex name : String}
    (hM : gk_N l y ws rm D tys E (.ref b :: As) wc mc1 ms1 Ex) (hT : GoodIn Ts (wsV own idx C y ws)) (hw : ws = Cond.code y bytes maxL rt :: ws') (n : Nat) (hd : y.cls = C ∧ y.cls ≠ "java/lang/invoke/MethodHandle" ∧ y.cls ≠ "java/lang/invoke/VarHandle" ∧ (parseMethodDescriptor y.desc).map (fun d => d.parameters.length) = some n) (hrc : rm.cells = mc1) (hrs : rm.slots = ms1) (hR : rm.frames + 1 ≤ R.frames ∧ 8 + (maxL + 11) + rm.locals ≤ R.locals) (hn : As.length = n) {ci q0 : Nat} {fs : List Value} (hrecv : wc[q0]? = some (b, .inr (ci, fs))) {T : u_T} {N : Nat} (hcl : vwCl[ci]? = some (C, T, N))
    (hE : gk_Ok E) (hE1 : E A s s.heap) (pre : List ExceptionTableEntry) (x : ExceptionTableEntry) (suf : List ExceptionTableEntry) (hsplit : c.exceptionTable.toList = pre ++ x :: suf)
    (hpass : ∀ z ∈ pre, covers z pc = false ∨ (z.catchType ≠ 0 ∧ ∃ nm : String, (Cond.classLink own z.catchType nm).before args s = true ∧ va_Nc Ex nm s)) (hx : covers x pc = true) (h0 : x.catchType ≠ 0) (hlink : (Cond.classLink own x.catchType name).before args s = true) (hcast : (Cond.castable Ex name).before args s = true)
    (isC : List Nat) (hC : isC.map (fun i => w[i]?) = wc.map some) (hnC : va_nd isC = true) (isR : List Nat) (hR2 : isR.map (fun i => w[i]?) = wr.map some) (hnR : va_nd isR = true) (hdis : ∀ i ∈ isR, i ∉ isC) (isW : List Nat) (hW0 : isW.map (fun i => (wr ++ wc)[i]?) = w0.map some) (hnW : va_nd isW = true) (hst : st0 = As.reverse ++ .ref b :: st) (hroom : (st.map fun v => v.category).sum ≤ 8) (d : decode cc pc = .ok (.invokevirtual idx, 3)) (hcs : cells + mc1 ≤ R.cells ∧ slots + ms1 ≤ R.slots)
    (K : ∀ q : Nat, gk_C p l e R s m args below meth c nL D A Q (cells + mc1) (slots + ms1) w0 lv x.handlerPc [.ref q]) : gk_C p l e R s m args below meth c nL D A Q cells slots w lv pc st0 := by
  intro H locs ls hP hD hS hl
  have hPc : va_P D vwCl wc H := hP.sub isC (gk_fm isC hC)
  have hDc : va_D A wc := hD.sub isC hnC hC
  have hF := va_free hD hS G.2.2.2.2.2.2.1 isC hC
  refine vx_callv (vx_runV (As := As) (rest := st) ⟨G.1, G.2.1, G.2.2.1, G.2.2.2.1, G.2.2.2.2.1⟩ (hM H.size) (cwV n G.2.2.2.2.1 hT hw hrc hrs hd hR) ⟨fun a U g mk q => ?_, va_recv G.2.2.2.2.2.1 hPc hcl hrecv, fun U hU hW => ⟨rfl, by rw [hU], by rw [hU]; exact hPc, va_K.moved hW.alike G.2.2.2.2.2.1, hDc.weaken (fun _ _ _ _ => trivial), ?_⟩⟩ rfl hn hl.1 hst (lv_room hroom) d hcs) hS (fun q _ h => hF q h) hF (fun q _ h => hF q h) (fun E ce q9 u t H1 locs1 ht hvm hu hB hz1 hk1 hS1 hce hcv hcl9 => ?_) (fun u t H1 locs1 ht hvm hw1 hB hz1 hk1 hS1 => hw1.elim)
  · obtain ⟨q0, q1, qP, qK, qD, qE⟩ := q
    exact ⟨q0, q1, qP, va_K.moved (u := U) (U := U.calling g mk a) (Vm.Alike.refl U.vm) qK, qD, hE _ _ U (U.calling g mk a) _ _ (Vm.Alike.refl U.vm) (Or.inr rfl) (fun _ _ h => h) (Nat.le_refl _) (fun _ _ _ => rfl) qE⟩
  · exact hE A _ s U s.heap U.heap hW.alike (Or.inl hW) (fun q _ h => hF q h) (by rw [hU]; exact hS.1) (fun q h1 h2 => by rw [hU]; exact hS.2.1 q h1 h2) hE1
  · obtain ⟨rfl, hP1, hK1, hD1⟩ := hB
    rw [ht] at hP1
    obtain ⟨hP2, hD2⟩ := va_join hP hD isC isR hC hR2 hnR hdis hk1 hF hP1 hD1
    exact vx_catch G.2.2.2.1 pre x suf hsplit hpass hx h0 hlink hcast hce hcv hcl9 (K q9 H1 locs1 ls (hP2.sub isW (gk_fm isW hW0)) (hD2.sub isW hnW hW0) hS1 hl)
end LC
