/-! THE LAW: rows of its own; written by wip/whole/gen_lm.py -/
def gw_O (cJ : ClassId) (o : Nat) (f : Nat → Int64) : va_W := [(o, .inl (cJ, 1, .inr (.inl f)))]
theorem gw_o0 (f : Nat → Int64) (x : Int64) : vp_updL f 0 x 0 = x := by simp [vp_updL]
theorem gw_b0 {P : Prop} [Decidable P] (h : gm_b P = 0) : (0 : Int64) = (gm_b P).toInt64 := by rw [h]; rfl
theorem gw_b1 {P : Prop} [Decidable P] (h : ¬ gm_b P = 0) : (1 : Int64) = (gm_b P).toInt64 := by
  rcases gm_b01 P with q | q
  · exact absurd q h
  · rw [q]; rfl
theorem gl_cIAE {A : Nat → Prop} {s : State} {args : Array Value} (h : gn_E A s s.heap) : (Cond.castable "java/lang/IllegalArgumentException" "java/lang/IllegalArgumentException").before args s = true := va_Nw.use rfl (h.1 _ (List.mem_of_getElem? (i := 17) rfl))
theorem gl_cISE {A : Nat → Prop} {s : State} {args : Array Value} (h : gn_E A s s.heap) : (Cond.castable "java/lang/IllegalStateException" "java/lang/IllegalStateException").before args s = true := va_Nw.use rfl (h.1 _ (List.mem_of_getElem? (i := 18) rfl))
theorem gl_cIOB {A : Nat → Prop} {s : State} {args : Array Value} (h : gn_E A s s.heap) : (Cond.castable "java/lang/IndexOutOfBoundsException" "java/lang/IndexOutOfBoundsException").before args s = true := va_Nw.use rfl (h.1 _ (List.mem_of_getElem? (i := 19) rfl))
section LO
variable {p : Program} {l : Launch} {e : Env} {R : Room} {s : State} {m : MethodId} {args : Array Value} {below : List Frame} {meth : Method} {c : Code}
variable {own : String} {nL : Nat} {cc : ByteArray} {Ts : List Cond} {D : va_G} {tys : List (ClassId × FieldType)} {A : Nat → Prop} {cells slots pc : Nat} {Q : State → Prop} {w : va_W} {lv : List (Nat × Value)} {st : List Value} {a : Nat} {ret : Option FieldType} {S : Type}
theorem gk_last (G : gk_G p s m args meth c own nL cc ret Ts D tys A) {q0 t0 : Nat} {cA : ClassId} {n : Nat} {f : Nat → Int64} (ha : w[q0]? = some (a, .inl (cA, n, .inr (.inl f)))) (ht : tys[t0]? = some (cA, .long)) {i : Int32} {x : Int64} (j : Nat) (hi : i = nI j) (hj : j < n) (hn : n < 2 ^ 31) {w' : va_W} (hw : w.set q0 (a, .inl (cA, n, .inr (.inl (vp_updL f j x)))) = w') (d : decode cc pc = .ok (.lastore, 1)) (K : gk_C p l e R s m args below meth c nL D A Q cells slots w' lv (pc + 1) (st)) : gk_C p l e R s m args below meth c nL D A Q cells slots w lv (pc) (.long x :: .int i :: .ref a :: st) :=
  fun H locs ls hP hD hS hl => by
  subst hi
  have hcl := nI_clamp (Nat.lt_trans hj hn)
  refine va_last (D := D) G.1 G.2.1 G.2.2.2.2.2.1 hP hD hS q0 t0 ha ht (vp_in_nI hj hn) d (fun H1 locs1 hP hD hS => ?_)
  rw [hcl, hw] at hP hD
  exact K H1 locs1 ls hP hD hS hl
theorem gk_lald (G : gk_G p s m args meth c own nL cc ret Ts D tys A) {q0 t0 : Nat} {cA : ClassId} {n : Nat} {f : Nat → Int64} (ha : w[q0]? = some (a, .inl (cA, n, .inr (.inl f)))) (ht : tys[t0]? = some (cA, .long)) {i : Int32} {v : Int64} (j : Nat) (hi : i = nI j) (hj : j < n) (hn : n < 2 ^ 31) (hv : f j = v) (d : decode cc pc = .ok (.laload, 1)) (K : gk_C p l e R s m args below meth c nL D A Q cells slots w lv (pc + 1) (.long v :: st)) : gk_C p l e R s m args below meth c nL D A Q cells slots w lv (pc) (.int i :: .ref a :: st) :=
  fun H locs ls hP hD hS hl => va_lald (D := D) G.1 G.2.1 G.2.2.2.2.2.1 hP q0 t0 ha ht (gk_in hi hj hn) d ((gk_cl hi hj hn).symm ▸ hv.symm ▸ (K H locs ls hP hD hS hl))
theorem gk_sld (G : gk_G p s m args meth c own nL cc ret Ts D tys A) {L : Nat} {xs : Nat → Int32} (hX : va_X a L xs s s.heap) (hbl : a < s.heap.size) (hbA : ¬ A a) {i v : Int32} (j : Nat) (hi : i = nI j) (hj : j < L) (hn : L < 2 ^ 31) (hv : xs j = v) (d : decode cc pc = .ok (.iaload, 1)) (K : gk_C p l e R s m args below meth c nL D A Q cells slots w lv (pc + 1) (.int v :: st)) : gk_C p l e R s m args below meth c nL D A Q cells slots w lv (pc) (.int i :: .ref a :: st) :=
  fun H locs ls hP hD hS hl => va_sld G.1 G.2.1 hX hbl hbA hS (gk_in hi hj hn) d ((gk_cl hi hj hn).symm ▸ hv.symm ▸ (K H locs ls hP hD hS hl))
theorem gk_slen (G : gk_G p s m args meth c own nL cc ret Ts D tys A) {L : Nat} {xs : Nat → Int32} (hX : va_X a L xs s s.heap) (hbl : a < s.heap.size) (hbA : ¬ A a) (d : decode cc pc = .ok (.arraylength, 1)) (K : gk_C p l e R s m args below meth c nL D A Q cells slots w lv (pc + 1) (.int (nI L) :: st)) : gk_C p l e R s m args below meth c nL D A Q cells slots w lv (pc) (.ref a :: st) :=
  fun H locs ls hP hD hS hl => va_slen G.1 G.2.1 hX hbl hbA hS d (K H locs ls hP hD hS hl)
end LO
section LS
variable {p : Program} {l : Launch} {e : Env} {R : Room} {s : State} {m : MethodId} {args : Array Value} {below : List Frame} {meth : Method} {c : Code}
variable {own : String} {nL : Nat} {cc : ByteArray} {Ts : List Cond} {D : va_G} {tys tys0 : List (ClassId × FieldType)} {A : Nat → Prop} {cells slots pc mc ms : Nat} {Q : State → Prop} {w : va_W} {lv : List (Nat × Value)} {st : List Value} {a : Nat} {ret : Option FieldType} {S : Type}
theorem gk_callISW (G : gk_G p s m args meth c own nL cc ret Ts D tys A) {post : Int32 → S → Prop} {wo : S → va_W} {y : MethodName} {bytes : ByteArray} {maxL idx mc1 ms1 : Nat}  {rt : Option FieldType} {hh : List (Nat × Nat × Nat × Nat)} {ws ws' : List Cond} {rm : Room} {As : List Value} {wc wr : va_W} {E : (Nat → Prop) → State → Heap → Prop} {st0 : List Value}
    (hM : gk_I l y ws rm D tys E As wc mc1 ms1 post wo) (hT : GoodIn Ts (va_wsS own idx y ws)) (hw : ws = Cond.codeWith y bytes maxL rt hh :: ws') (n : Nat) (hd : y.cls ≠ "java/lang/invoke/MethodHandle" ∧ y.cls ≠ "java/lang/invoke/VarHandle" ∧ (parseMethodDescriptor y.desc).map (fun d => d.parameters.length) = some n) (hrc : rm.cells = mc1) (hrs : rm.slots = ms1) (hR : rm.frames + 1 ≤ R.frames ∧ 8 + (maxL + 11) + rm.locals ≤ R.locals) (hn : As.length = n) 
    (hE : gk_Ok E) (hE1 : E A s s.heap) (isC : List Nat) (hC : isC.map (fun i => w[i]?) = wc.map some) (hnC : va_nd isC = true) (isR : List Nat) (hR2 : isR.map (fun i => w[i]?) = wr.map some) (hnR : va_nd isR = true) (hdis : ∀ i ∈ isR, i ∉ isC) (hst : st0 = As.reverse ++ st) (hroom : (st.map fun v => v.category).sum ≤ 8) (d : decode cc pc = .ok (.invokestatic idx, 3)) (hcs : cells + mc1 ≤ R.cells ∧ slots + ms1 ≤ R.slots)
    (K : ∀ (r : Int32) (u : S), post r u → gk_C p l e R s m args below meth c nL D A Q (cells + mc1) (slots + ms1) (wr ++ wo u) lv (pc + 3) (.int r :: st)) : gk_C p l e R s m args below meth c nL D A Q cells slots w lv pc st0 := by
  intro H locs ls hP hD hS hl
  have hPc : va_P D vwCl wc H := hP.sub isC (gk_fm isC hC)
  have hDc : va_D A wc := hD.sub isC hnC hC
  have hF := va_free hD hS G.2.2.2.2.2.2.1 isC hC
  refine va_calli (vx_runSW (As := As) (rest := st) ⟨G.1, G.2.1, G.2.2.1, G.2.2.2.1, G.2.2.2.2.1⟩ (hM H.size) (vx_cwSW n G.2.2.2.2.1 hT hw hrc hrs hd hR) ⟨fun a U g mk q => ?_, fun U hU hW => ⟨rfl, by rw [hU], by rw [hU]; exact hPc, va_K.moved hW.alike G.2.2.2.2.2.1, hDc.weaken (fun _ _ _ _ => trivial), ?_⟩⟩ rfl hn hl.1 hst (lv_room hroom) d hcs) hS (fun q _ h => hF q h) hF (fun r u t H1 locs1 ht hvm hw1 hB hz1 hk1 hS1 => ?_)
  · obtain ⟨q0, q1, qP, qK, qD, qE⟩ := q
    exact ⟨q0, q1, qP, va_K.moved (u := U) (U := U.calling g mk a) (Vm.Alike.refl U.vm) qK, qD, hE _ _ U (U.calling g mk a) _ _ (Vm.Alike.refl U.vm) (Or.inr rfl) (fun _ _ h => h) (Nat.le_refl _) (fun _ _ _ => rfl) qE⟩
  · exact hE A _ s U s.heap U.heap hW.alike (Or.inl hW) (fun q _ h => hF q h) (by rw [hU]; exact hS.1) (fun q h1 h2 => by rw [hU]; exact hS.2.1 q h1 h2) hE1
  · obtain ⟨hP1, hK1, hD1⟩ := hB
    rw [ht] at hP1
    obtain ⟨hP2, hD2⟩ := va_join hP hD isC isR hC hR2 hnR hdis hk1 hF hP1 hD1
    exact K r u hw1 H1 locs1 ls hP2 hD2 hS1 hl
end LS
