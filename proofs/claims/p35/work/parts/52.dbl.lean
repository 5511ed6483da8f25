/-! DOUBLES: written by wip/p35/gen_d.py -/
section DA
variable {l : Launch} {y : MethodName} {ws ws' : List Cond} {rm : Room} {D : va_G} {tys : List (ClassId × FieldType)} {E : (Nat → Prop) → State → Heap → Prop} {av : List Value} {w : va_W} {mc ms : Nat} {S : Type}
def gk_D (l : Launch) (y : MethodName) (ws : List Cond) (rm : Room) (D : va_G) (tys : List (ClassId × FieldType)) (E : (Nat → Prop) → State → Heap → Prop) (av : List Value) (w : va_W) (mc ms : Nat) {S : Type} (post : UInt64 → S → Prop) (wo : S → va_W) : Prop :=
  ∀ sz : Nat, Met l y ws rm (va_Pc av (gk_Pre D tys E w sz)) (va_Qd post (fun u t => gk_Post D tys (va_A w sz) (wo u) t) (va_A w sz)) mc ms (va_A w sz)
end DA
section DB
variable {p : Program} {l : Launch} {e : Env} {R : Room} {s : State} {m : MethodId} {args : Array Value} {below : List Frame} {meth : Method} {c : Code}
variable {own : String} {nL : Nat} {cc : ByteArray} {Ts : List Cond} {D : va_G} {tys tys0 : List (ClassId × FieldType)} {A : Nat → Prop} {cells slots pc mc ms : Nat} {Q : State → Prop} {w : va_W} {lv : List (Nat × Value)} {st : List Value} {a : Nat} {ret : Option FieldType} {S : Type}
theorem gk_retD (G : gk_G p s m args meth c own nL cc (some .double) Ts D tys A) {post : UInt64 → S → Prop} {wo : S → va_W} {v : UInt64} (d : decode cc pc = .ok (.dreturn, 1)) (u : S) (hp : post v u) (is : List Nat) (hs : is.map (fun i => w[i]?) = (wo u).map some) (hnd : va_nd is = true) (hc : cells ≤ mc) (hsl : slots ≤ ms) :
    gk_C p l e R s m args below meth c nL D A (MQ below (va_Qd post (fun u t => gk_Post D tys A (wo u) t) A) args s mc ms A) cells slots w lv pc (.double v :: []) :=
  fun H locs ls hP hD hS hl => W.widen hc hsl (W.dret G.1 G.2.1 G.2.2.2.2.2.2.2.1 (fun t ht hW => ⟨⟨v, u, rfl, hp, by rw [ht]; exact hP.sub is (gk_fm is hs), va_K.moved hW.alike G.2.2.2.2.2.1, hD.sub is hnd hs⟩, hS.F ht⟩) hS.2.2 d G.2.2.2.2.2.2.2.2)
theorem gk_retDw (G : gk_G p s m args meth c own nL cc (some .double) Ts D tys A) {post : UInt64 → S → Prop} {wo : S → va_W} {v : UInt64} (d : decode cc pc = .ok (.dreturn, 1)) (u : S) (hp : post v u) (hs : w = wo u) (hc : cells ≤ mc) (hsl : slots ≤ ms) :
    gk_C p l e R s m args below meth c nL D A (MQ below (va_Qd post (fun u t => gk_Post D tys A (wo u) t) A) args s mc ms A) cells slots w lv pc (.double v :: []) :=
  fun H locs ls hP hD hS hl => W.widen hc hsl (W.dret G.1 G.2.1 G.2.2.2.2.2.2.2.1 (fun t ht hW => ⟨⟨v, u, rfl, hp, by rw [ht]; exact hs ▸ hP, va_K.moved hW.alike G.2.2.2.2.2.1, hs ▸ hD⟩, hS.F ht⟩) hS.2.2 d G.2.2.2.2.2.2.2.2)
end DB
section DC
variable {l : Launch} {y : MethodName} {ws ws' : List Cond} {rm : Room} {D : va_G} {tys : List (ClassId × FieldType)} {E : (Nat → Prop) → State → Heap → Prop} {av : List Value} {w : va_W} {mc ms : Nat} {S : Type}
theorem gk_D_of {post : UInt64 → S → Prop} {wo : S → va_W} {cc : ByteArray} {nL : Nat} (hy : plainName y.cls = true) (hw : ws = Cond.code y cc nL (some .double) :: ws') (hav : (lg_sl av).length ≤ nL)
    (body : ∀ (p : Program) (e : Env) (s : State) (m : MethodId) (below : List Frame) (meth : Method) (c : Code) (A : Nat → Prop) (Q : State → Prop), meth.name = y.name → E A s s.heap → gk_G p s m av.toArray meth c y.cls nL cc (some .double) ws D tys A →
      (∀ (cells slots : Nat) (w : va_W) (lv : List (Nat × Value)) (pc : Nat) (v : UInt64) (u : S), decode cc pc = .ok (.dreturn, 1) → post v u → w = wo u → cells ≤ mc → slots ≤ ms → gk_C p l e rm s m av.toArray below meth c nL D A Q cells slots w lv pc [.double v]) →
      gk_C p l e rm s m av.toArray below meth c nL D A Q 0 0 w (lv_args 0 av) 0 []) : gk_D l y ws rm D tys E av w mc ms post wo := by
  intro sz
  refine Met.ofW (cc := cc) (maxL := nL) (ret := some .double) hy hw ?_
  intro p e s m args below meth c s₁ B hml hv
  obtain ⟨rfl, hsz, hP, hK, hD0, hE⟩ := hv
  have hD := hD0.self (sz := sz)
  rw [lg_entry_eq]
  have G : gk_G p s m av.toArray meth c y.cls nL cc (some .double) ws D tys (va_A w sz) := ⟨B.exec, B.bytes, hml, findClass_of_methodNamed B.named, atoms_spec (ws := ws) B.pre, hK, fun q h => Or.inr (by rw [← hsz]; exact h), B.returns, B.notSynchronized⟩
  exact body p e s m below meth c (va_A w sz) _ (name_of_methodNamed B.named B.method).1 hE G
    (fun cells slots w lv pc v u d hp hs hc hsl => gk_retDw G d u hp hs hc hsl) s.heap [] _ hP hD va_S.rf (lv_entry av hav)
end DC
section DE
variable {p : Program} {l : Launch} {e : Env} {R : Room} {s : State} {m : MethodId} {args : Array Value} {below : List Frame} {meth : Method} {c : Code}
variable {own : String} {nL : Nat} {cc : ByteArray} {Ts : List Cond} {D : va_G} {tys tys0 : List (ClassId × FieldType)} {A : Nat → Prop} {cells slots pc mc ms : Nat} {Q : State → Prop} {w : va_W} {lv : List (Nat × Value)} {st : List Value} {a : Nat} {ret : Option FieldType} {S : Type}
theorem gk_callDV (G : gk_G p s m args meth c own nL cc ret Ts D tys A) {post : UInt64 → S → Prop} {wo : S → va_W} {y : MethodName} {bytes : ByteArray} {maxL idx mc1 ms1 : Nat} {b : Nat}  {rt : Option FieldType} {C : String} {ws ws' : List Cond} {rm : Room} {As : List Value} {wc wr : va_W} {E : (Nat → Prop) → State → Heap → Prop} {st0 : List Value}
    (hM : gk_D l y ws rm D tys E (.ref b :: As) wc mc1 ms1 post wo) (hT : GoodIn Ts (wsV own idx C y ws)) (hw : ws = Cond.code y bytes maxL rt :: ws') (n : Nat) (hd : y.cls = C ∧ y.cls ≠ "java/lang/invoke/MethodHandle" ∧ y.cls ≠ "java/lang/invoke/VarHandle" ∧ (parseMethodDescriptor y.desc).map (fun d => d.parameters.length) = some n) (hrc : rm.cells = mc1) (hrs : rm.slots = ms1) (hR : rm.frames + 1 ≤ R.frames ∧ 8 + (maxL + 11) + rm.locals ≤ R.locals) (hn : As.length = n) {ci q0 : Nat} {fs : List Value} (hrecv : wc[q0]? = some (b, .inr (ci, fs))) {T : u_T} {N : Nat} (hcl : vwCl[ci]? = some (C, T, N)) 
    (hE : gk_Ok E) (hE1 : E A s s.heap) (isC : List Nat) (hC : isC.map (fun i => w[i]?) = wc.map some) (hnC : va_nd isC = true) (isR : List Nat) (hR2 : isR.map (fun i => w[i]?) = wr.map some) (hnR : va_nd isR = true) (hdis : ∀ i ∈ isR, i ∉ isC) (hst : st0 = As.reverse ++ .ref b :: st) (hroom : (st.map fun v => v.category).sum ≤ 8) (d : decode cc pc = .ok (.invokevirtual idx, 3)) (hcs : cells + mc1 ≤ R.cells ∧ slots + ms1 ≤ R.slots)
    (K : ∀ (r : UInt64) (u : S), post r u → gk_C p l e R s m args below meth c nL D A Q (cells + mc1) (slots + ms1) (wr ++ wo u) lv (pc + 3) (.double r :: st)) : gk_C p l e R s m args below meth c nL D A Q cells slots w lv pc st0 := by
  intro H locs ls hP hD hS hl
  have hPc : va_P D vwCl wc H := hP.sub isC (gk_fm isC hC)
  have hDc : va_D A wc := hD.sub isC hnC hC
  have hF := va_free hD hS G.2.2.2.2.2.2.1 isC hC
  refine va_calld (va_runV (As := As) (rest := st) ⟨G.1, G.2.1, G.2.2.1, G.2.2.2.1, G.2.2.2.2.1⟩ (hM H.size) (cwV n G.2.2.2.2.1 hT hw hrc hrs hd hR) ⟨fun a U g mk q => ?_, va_recv G.2.2.2.2.2.1 hPc hcl hrecv, fun U hU hW => ⟨rfl, by rw [hU], by rw [hU]; exact hPc, va_K.moved hW.alike G.2.2.2.2.2.1, hDc.weaken (fun _ _ _ _ => trivial), ?_⟩⟩ rfl hn hl.1 hst (lv_room hroom) d hcs) hS (fun q _ h => hF q h) hF (fun r u t H1 locs1 ht hvm hw1 hB hz1 hk1 hS1 => ?_)
  · obtain ⟨q0, q1, qP, qK, qD, qE⟩ := q
    exact ⟨q0, q1, qP, va_K.moved (u := U) (U := U.calling g mk a) (Vm.Alike.refl U.vm) qK, qD, hE _ _ U (U.calling g mk a) _ _ (Vm.Alike.refl U.vm) (Or.inr rfl) (fun _ _ h => h) (Nat.le_refl _) (fun _ _ _ => rfl) qE⟩
  · exact hE A _ s U s.heap U.heap hW.alike (Or.inl hW) (fun q _ h => hF q h) (by rw [hU]; exact hS.1) (fun q h1 h2 => by rw [hU]; exact hS.2.1 q h1 h2) hE1
  · obtain ⟨hP1, hK1, hD1⟩ := hB
    rw [ht] at hP1
    obtain ⟨hP2, hD2⟩ := va_join hP hD isC isR hC hR2 hnR hdis hk1 hF hP1 hD1
    exact K r u hw1 H1 locs1 ls hP2 hD2 hS1 hl
end DE
section DF
variable {p : Program} {l : Launch} {e : Env} {R : Room} {s : State} {m : MethodId} {args : Array Value} {below : List Frame} {meth : Method} {c : Code}
variable {own : String} {nL : Nat} {cc : ByteArray} {Ts : List Cond} {D : va_G} {tys : List (ClassId × FieldType)} {A : Nat → Prop} {cells slots pc : Nat} {Q : State → Prop} {w : va_W} {lv : List (Nat × Value)} {st : List Value} {a : Nat} {ret : Option FieldType}
theorem gk_ddiv (G : gk_G p s m args meth c own nL cc ret Ts D tys A) {x y : UInt64} (d : decode cc pc = .ok (.ddiv, 1)) (hne : vf_n64 (FP.ddiv x y)) (K : gk_C p l e R s m args below meth c nL D A Q cells slots w lv (pc + 1) (.double (FP.ddiv x y) :: st)) : gk_C p l e R s m args below meth c nL D A Q cells slots w lv pc (.double y :: .double x :: st) :=
  fun H locs ls hP hD hS hl => lv_ddiv G.1 G.2.1 d hne (K H locs ls hP hD hS hl)
end DF
theorem gm_nn {r : UInt64} (h : FP.Core.dIsNaN r = false) : vf_n64 r := by
  have h1 : ¬ 9218868437227405312 < r.toNat % 2 ^ 63 := fun q => by rw [(FP.Core.isNaN_bits r).mpr q] at h; cases h
  unfold vf_n64
  rw [UInt64.le_iff_toNat_le, UInt64.toNat_and]
  show r.toNat &&& (2 ^ 63 - 1) ≤ 9218868437227405312
  rw [Nat.and_two_pow_sub_one_eq_mod]
  omega
theorem gm_dz {v : Int32} (h : v ≠ 0) : ¬ FP.Core.DZero (FP.i2d v) := fun q => FP.Core.i2d_ne_zero h ((FP.Core.zero_bits2 _).mp q)
theorem gm_mean_nan {a v : Int32} (h : v ≠ 0) : FP.Core.dIsNaN (FP.ddiv (FP.i2d a) (FP.i2d v)) = false := FP.Core.ddiv_out (FP.Core.i2d_fin a).notNaN (FP.Core.i2d_fin v) (gm_dz h)
theorem gm_mean_nn {a v : Int32} (h : v ≠ 0) : vf_n64 (FP.ddiv (FP.i2d a) (FP.i2d v)) := gm_nn (gm_mean_nan h)
def gm_ml (M : gm_M) : UInt64 := if M 11 0 - gm_gct M (M 11 0) = 0 then FP.dconst0 else FP.ddiv (FP.i2d (nI (gm_sum M (M 11 0)))) (FP.i2d (nI (M 11 0 - gm_gct M (M 11 0))))
theorem gm_ml_nan (M : gm_M) (h : M 11 0 < 2 ^ 31) : FP.Core.dIsNaN (gm_ml M) = false := by
  unfold gm_ml
  split
  · decide +kernel
  · exact gm_mean_nan (fun q => by rw [gm_0 (by omega)] at q; omega)
theorem gm_ml_cmp (M : gm_M) (h : M 11 0 < 2 ^ 31) : FP.dcmp (gm_ml M) (gm_ml M) = some .eq := FP.Core.dcmp_self ((FP.Core.notNaN_iff _).mp (gm_ml_nan M h))
theorem gm_sum_le {M : gm_M} (wf : gm_wf M) : ∀ k : Nat, k ≤ M 11 0 → gm_sum M k ≤ 60 * k
  | 0, _ => Nat.le_refl 0
  | k + 1, hk => by
    have ih := gm_sum_le wf k (by omega)
    have h7 := wf.2.2.2.2.2.2.1 k (by omega)
    show gm_sum M k + M 5 k ≤ 60 * (k + 1)
    omega
