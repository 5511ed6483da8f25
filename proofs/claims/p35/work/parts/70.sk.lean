/-! WORLDS IN ANY ORDER; written by wip/p35/gen_sk.py -/
theorem gk_memP {D : va_G} {cl : List vw_C} {w : va_W} {H : Heap} : va_P D cl w H ↔ ∀ q ∈ w, va_at D cl q H :=
  ⟨fun h q hq => by obtain ⟨k, hk⟩ := List.mem_iff_getElem?.mp hq; exact h k q hk, fun h k q hk => h q (List.mem_of_getElem? hk)⟩
theorem gk_memD {A : Nat → Prop} {w : va_W} : va_D A w ↔ (w.map (fun q => q.1)).Nodup ∧ ∀ q ∈ w, A q.1 := by
  constructor
  · intro h
    refine ⟨?_, fun q hq => by obtain ⟨k, hk⟩ := List.mem_iff_getElem?.mp hq; exact h.2 k q hk⟩
    refine List.pairwise_iff_getElem.mpr (fun i j hi hj hij he => ?_)
    rw [List.length_map] at hi hj
    rw [List.getElem_map, List.getElem_map] at he
    have := h.1 i j w[i] w[j] (List.getElem?_eq_getElem hi) (List.getElem?_eq_getElem hj) he
    omega
  · intro h
    refine ⟨fun i j p q hi hj he => ?_, fun k q hk => h.2 q (List.mem_of_getElem? hk)⟩
    obtain ⟨hi1, hi2⟩ := List.getElem?_eq_some_iff.mp hi
    obtain ⟨hj1, hj2⟩ := List.getElem?_eq_some_iff.mp hj
    have hp := List.pairwise_iff_getElem.mp h.1
    rcases Nat.lt_trichotomy i j with g | g | g
    · refine absurd ?_ (hp i j (by rw [List.length_map]; exact hi1) (by rw [List.length_map]; exact hj1) g)
      rw [List.getElem_map, List.getElem_map, hi2, hj2]; exact he
    · exact g
    · refine absurd ?_ (hp j i (by rw [List.length_map]; exact hj1) (by rw [List.length_map]; exact hi1) g)
      rw [List.getElem_map, List.getElem_map, hi2, hj2]; exact he.symm
theorem gk_permP {D : va_G} {cl : List vw_C} {w w' r : va_W} {H : Heap} (h : w.Perm (w' ++ r)) (hP : va_P D cl w H) : va_P D cl w' H :=
  gk_memP.mpr (fun q hq => gk_memP.mp hP q (h.mem_iff.mpr (List.mem_append_left _ hq)))
theorem gk_permD {A : Nat → Prop} {w w' r : va_W} (h : w.Perm (w' ++ r)) (hD : va_D A w) : va_D A w' := by
  have h1 := gk_memD.mp hD
  refine gk_memD.mpr ⟨?_, fun q hq => h1.2 q (h.mem_iff.mpr (List.mem_append_left _ hq))⟩
  have h2 : ((w' ++ r).map (fun q => q.1)).Nodup := (h.map _).nodup_iff.mp h1.1
  rw [List.map_append] at h2
  exact (List.nodup_append.mp h2).1
theorem gk_nd : ∀ l : List Nat, l.Nodup → va_nd l = true
  | [], _ => rfl
  | a :: l, h => by
    have h1 := List.nodup_cons.mp h
    show (decide (a ∉ l) && va_nd l) = true
    rw [gk_nd l h1.2, decide_eq_true h1.1]; rfl
theorem gk_isR (wr wc : va_W) : (List.range wr.length).map (fun i => (wr ++ wc)[i]?) = wr.map some := by
  refine List.ext_getElem (by simp) (fun i h1 h2 => ?_)
  rw [List.length_map] at h2
  rw [List.getElem_map, List.getElem_map, List.getElem_range, List.getElem?_append_left h2, List.getElem?_eq_getElem h2]
theorem gk_isC (wr wc : va_W) : ((List.range wc.length).map (fun i => wr.length + i)).map (fun i => (wr ++ wc)[i]?) = wc.map some := by
  refine List.ext_getElem (by simp) (fun i h1 h2 => ?_)
  rw [List.length_map] at h2
  rw [List.getElem_map, List.getElem_map, List.getElem_map, List.getElem_range, List.getElem?_append_right (Nat.le_add_right _ _), Nat.add_sub_cancel_left, List.getElem?_eq_getElem h2]
theorem gk_ndR (n : Nat) : va_nd (List.range n) = true := gk_nd _ List.nodup_range
theorem gk_ndC (a n : Nat) : va_nd ((List.range n).map (fun i => a + i)) = true := by
  refine gk_nd _ (List.pairwise_iff_getElem.mpr (fun i j hi hj hij he => ?_))
  rw [List.getElem_map, List.getElem_map, List.getElem_range, List.getElem_range] at he
  omega
theorem gk_dis (a n : Nat) : ∀ i ∈ List.range a, i ∉ (List.range n).map (fun i => a + i) := by
  intro i hi h
  obtain ⟨j, -, rfl⟩ := List.mem_map.mp h
  have := List.mem_range.mp hi
  omega
section SK1
variable {p : Program} {l : Launch} {e : Env} {R : Room} {s : State} {m : MethodId} {args : Array Value} {below : List Frame} {meth : Method} {c : Code}
variable {own : String} {nL : Nat} {cc : ByteArray} {Ts : List Cond} {D : va_G} {tys : List (ClassId × FieldType)} {A : Nat → Prop} {cells slots pc : Nat} {Q : State → Prop} {w : va_W} {lv : List (Nat × Value)} {st : List Value} {a : Nat} {ret : Option FieldType}
theorem gk_drop {w' r : va_W} (h : w.Perm (w' ++ r)) (K : gk_C p l e R s m args below meth c nL D A Q cells slots w' lv (pc) (st)) : gk_C p l e R s m args below meth c nL D A Q cells slots w lv (pc) (st) :=
  fun H locs ls hP hD hS hl => K H locs ls (gk_permP h hP) (gk_permD h hD) hS hl
theorem gk_perm {w' : va_W} (h : w.Perm w') (K : gk_C p l e R s m args below meth c nL D A Q cells slots w' lv (pc) (st)) : gk_C p l e R s m args below meth c nL D A Q cells slots w lv (pc) (st) := gk_drop (r := []) (by rw [List.append_nil]; exact h) K
theorem gk_rot {x : Nat × va_E} (K : gk_C p l e R s m args below meth c nL D A Q cells slots ([x] ++ w) lv (pc) (st)) : gk_C p l e R s m args below meth c nL D A Q cells slots (w ++ [x]) lv (pc) (st) := gk_perm List.perm_append_comm K
theorem gk_ldc (G : gk_G p s m args meth c own nL cc ret Ts D tys A) {index : Nat} {v : Int32} (hc : (Jvm.Cond.constant own index v).before args s = true) (d : decode cc pc = .ok (.ldc index, 2)) (K : gk_C p l e R s m args below meth c nL D A Q cells slots w lv (pc + 2) (.int v :: st)) : gk_C p l e R s m args below meth c nL D A Q cells slots w lv (pc) (st) :=
  fun H locs ls hP hD hS hl => lv_ldc G.1 G.2.1 G.2.2.2.1 hc d (K H locs ls hP hD hS hl)
theorem gk_ishr (G : gk_G p s m args meth c own nL cc ret Ts D tys A) {x y v : Int32} (d : decode cc pc = .ok (.ishr, 1)) (hv : x >>> (y &&& 31) = v) (K : gk_C p l e R s m args below meth c nL D A Q cells slots w lv (pc + 1) (.int v :: st)) : gk_C p l e R s m args below meth c nL D A Q cells slots w lv (pc) (.int y :: .int x :: st) :=
  fun H locs ls hP hD hS hl => lv_ishr G.1 G.2.1 d (hv ▸ (K H locs ls hP hD hS hl))
theorem gk_idiv (G : gk_G p s m args meth c own nL cc ret Ts D tys A) {x y v : Int32} (d : decode cc pc = .ok (.idiv, 1)) (hne : ¬ y = 0) (hv : x / y = v) (K : gk_C p l e R s m args below meth c nL D A Q cells slots w lv (pc + 1) (.int v :: st)) : gk_C p l e R s m args below meth c nL D A Q cells slots w lv (pc) (.int y :: .int x :: st) :=
  fun H locs ls hP hD hS hl => lv_idiv G.1 G.2.1 d hne (hv ▸ (K H locs ls hP hD hS hl))
theorem gk_ifnonnull (G : gk_G p s m args meth c own nL cc ret Ts D tys A) {x : Nat} {off : Int} {tgt : Nat} (d : decode cc pc = .ok (.ifnonnull off, 3)) (ht : (pc : Int) + off = (tgt : Int)) (K : gk_C p l e R s m args below meth c nL D A Q cells slots w lv (tgt) (st)) : gk_C p l e R s m args below meth c nL D A Q cells slots w lv (pc) (.ref x :: st) :=
  fun H locs ls hP hD hS hl => lv_ifnonnull G.1 G.2.1 d ht (K H locs ls hP hD hS hl)
theorem gk_tableIn (G : gk_G p s m args meth c own nL cc ret Ts D tys A) {dflt lo hi : Int} {offs : Array Int} {len : Nat} {x : Int32} {off : Int} {tgt : Nat} (d : decode cc pc = .ok (.tableswitch dflt lo hi offs, len)) (h1 : ¬ x.toInt < lo) (h2 : ¬ hi < x.toInt) (ho : offs[(x.toInt - lo).toNat]? = some off) (ht : (pc : Int) + off = (tgt : Int)) (K : gk_C p l e R s m args below meth c nL D A Q cells slots w lv (tgt) (st)) : gk_C p l e R s m args below meth c nL D A Q cells slots w lv (pc) (.int x :: st) :=
  fun H locs ls hP hD hS hl => lv_tableIn G.1 G.2.1 d h1 h2 ho ht (K H locs ls hP hD hS hl)
theorem gk_tableOut (G : gk_G p s m args meth c own nL cc ret Ts D tys A) {dflt lo hi : Int} {offs : Array Int} {len : Nat} {x : Int32} {tgt : Nat} (d : decode cc pc = .ok (.tableswitch dflt lo hi offs, len)) (h : x.toInt < lo ∨ hi < x.toInt) (ht : (pc : Int) + dflt = (tgt : Int)) (K : gk_C p l e R s m args below meth c nL D A Q cells slots w lv (tgt) (st)) : gk_C p l e R s m args below meth c nL D A Q cells slots w lv (pc) (.int x :: st) :=
  fun H locs ls hP hD hS hl => lv_tableOut G.1 G.2.1 d h ht (K H locs ls hP hD hS hl)
theorem gk_sld (G : gk_G p s m args meth c own nL cc ret Ts D tys A) {L : Nat} {xs : Nat → Int32} (hX : va_X a L xs s s.heap) (hbl : a < s.heap.size) (hbA : ¬ A a) {i v : Int32} (j : Nat) (hi : i = nI j) (hj : j < L) (hn : L < 2 ^ 31) (hv : xs j = v) (d : decode cc pc = .ok (.iaload, 1)) (K : gk_C p l e R s m args below meth c nL D A Q cells slots w lv (pc + 1) (.int v :: st)) : gk_C p l e R s m args below meth c nL D A Q cells slots w lv (pc) (.int i :: .ref a :: st) :=
  fun H locs ls hP hD hS hl => va_sld G.1 G.2.1 hX hbl hbA hS (gk_in hi hj hn) d ((gk_cl hi hj hn).symm ▸ hv.symm ▸ (K H locs ls hP hD hS hl))
theorem gk_slen (G : gk_G p s m args meth c own nL cc ret Ts D tys A) {L : Nat} {xs : Nat → Int32} (hX : va_X a L xs s s.heap) (hbl : a < s.heap.size) (hbA : ¬ A a) (d : decode cc pc = .ok (.arraylength, 1)) (K : gk_C p l e R s m args below meth c nL D A Q cells slots w lv (pc + 1) (.int (nI L) :: st)) : gk_C p l e R s m args below meth c nL D A Q cells slots w lv (pc) (.ref a :: st) :=
  fun H locs ls hP hD hS hl => va_slen G.1 G.2.1 hX hbl hbA hS d (K H locs ls hP hD hS hl)
theorem gk_asg (vm : Vm) (c : ClassId) : vm.assignable c c = true := by
  show Vm.assignableAux vm (255 + 1) c c = true
  rw [Vm.assignableAux, beq_self_eq_true, Bool.true_or]
/-- 'new int[n][]' finds its class -/
def gp_AO : (Nat → Prop) → State → Heap → Prop := fun _ U _ => (Cond.arrayOver (.array .int)).before #[] U = true
theorem gp_ao_use {A : Nat → Prop} {U : State} {H : Heap} (h : gp_AO A U H) (args : Array Value) : (Cond.arrayOver (.array .int)).before args U = true := h
theorem gp_ao_ok : gk_Ok gp_AO := by
  intro A B u U H H1 hvm _ _ _ _ h
  obtain ⟨comp, c, k, h1, h2, h3, h4, h5⟩ := arrayOverA_spec h
  obtain ⟨k', hk', he⟩ := hvm.2.2 _ _ h3
  have hi : (U.vm.classes.findIdx? fun (x : Class) => match x.kind with | .array component _ => component == comp | _ => false) = some c := by
    exact (hvm.findIdx?_eq _ (fun _ => rfl)).trans h2
  have hkind : k'.kind = .array comp (.array .int) := by rw [he]; exact h4
  have f1 : U.vm.findClass (FieldType.array .int).toString = some comp := by rw [hvm.findClass]; exact h1
  have f2 : U.vm.findClass ("[" ++ (FieldType.array .int).toString) = some c := by rw [hvm.findClass]; exact h5
  show (Cond.arrayOver (.array .int)).before #[] U = true
  unfold Cond.before Cond.holds
  simp only [Cond.value]
  rw [f1, Option.bind_some]
  refine (congrArg (fun o : Option Nat => (o.bind (fun c => (U.vm.classes[c]?).map fun (k : Class) => match k.kind with | .array _ ty => decide (ty = .array .int) && decide (U.vm.findClass ("[" ++ (FieldType.array .int).toString) = some c) | _ => false) == some true)) hi).trans ?_
  simp [hk', hkind, f2]
theorem gk_aald (G : gk_G p s m args meth c own nL cc ret Ts D tys A) {q0 t0 : Nat} {cA : ClassId} {n : Nat} {f : Nat → Option Nat} (ha : w[q0]? = some (a, .inl (cA, n, .inr (.inr (.inr (.inr f)))))) (ht : tys[t0]? = some (cA, .array .int)) {i : Int32} {v : Nat} (j : Nat) (hi : i = nI j) (hj : j < n) (hn : n < 2 ^ 31) (hv : f j = some v) (d : decode cc pc = .ok (.aaload, 1)) (K : gk_C p l e R s m args below meth c nL D A Q cells slots w lv (pc + 1) (.ref v :: st)) : gk_C p l e R s m args below meth c nL D A Q cells slots w lv (pc) (.int i :: .ref a :: st) :=
  fun H locs ls hP hD hS hl => W.aald (v := .ref v) (ty := .array .int) G.1 G.2.1 (hP q0 _ ha) ((G.2.2.2.2.2.1.2 t0 _ ht).1 n (fun j => va_rf (f j))) rfl (fun q => by cases q) (by show ¬ (i < 0 ∨ (arrV _ _ _).slots.size ≤ _); rw [arrV_size]; exact gk_in hi hj hn) (by show (arrV _ _ _).slots[_]? = _; rw [gk_cl hi hj hn, arrV_read _ _ hj, hv]; rfl) rfl rfl d (K H locs ls hP hD hS hl)
theorem gk_aast (G : gk_G p s m args meth c own nL cc ret Ts D tys A) {q0 t0 t1 qk : Nat} {cA cB : ClassId} {n v n' : Nat} {f : Nat → Option Nat} {g : Nat → Int32} (hao : gp_AO A s s.heap) (ha : w[q0]? = some (a, .inl (cA, n, .inr (.inr (.inr (.inr f)))))) (ht : tys[t0]? = some (cA, .array .int)) (hv : w[qk]? = some (v, .inl (cB, n', .inl g))) (ht1 : tys[t1]? = some (cB, .int)) {i : Int32} (j : Nat) (hi : i = nI j) (hj : j < n) (hn : n < 2 ^ 31) {w' : va_W} (hw : w.set q0 (a, .inl (cA, n, .inr (.inr (.inr (.inr (va_up f j (some v))))))) = w') (d : decode cc pc = .ok (.aastore, 1)) (K : gk_C p l e R s m args below meth c nL D A Q cells slots w' lv (pc + 1) (st)) : gk_C p l e R s m args below meth c nL D A Q cells slots w lv (pc) (.ref v :: .int i :: .ref a :: st) := by
  intro H locs ls hP hD hS hl
  subst hw
  have hcl := gk_cl hi hj hn
  obtain ⟨comp, c0, k0, h1, h2, h3, h4, h5⟩ := arrayOverA_spec (gp_ao_use hao #[])
  have hA := G.2.2.2.2.2.1.2 t0 _ ht
  have hB := G.2.2.2.2.2.1.2 t1 _ ht1
  have e1 : c0 = cA := Option.some.inj (h5.symm.trans hA.2)
  have e2 : comp = cB := Option.some.inj (h1.symm.trans hB.2)
  subst e1 e2
  obtain ⟨kB, hkB, -⟩ := (hB.1 0 (fun _ => .null)).2
  refine W.aast (kv := kB) (kcomp := kB) G.1 G.2.1 (hP q0 _ ha) (fun q h => by cases h) (fun h => by cases h) h3 h4 rfl hkB ⟨fun q => gk_in hi hj hn (Or.inl q), by show _ < (arrV _ _ _).slots.size; rw [arrV_size, hcl]; exact hj⟩ (hP qk _ hv) (fun q h => by cases h) hkB (gk_asg _ _) rfl rfl d fun H1 e z oq => ?_
  refine K H1 _ ls (hP.set hD ha ?_ oq) (hD.set ha) (hS.put z oq (hD.2 q0 _ ha)) hl
  show H1[a]? = some (vp_cell _ _)
  rw [e, hcl]
  rw [vp_cell_q, vp_cell_q, arrV_store]
  congr 2
  funext q
  by_cases hq : q = j
  · subst hq
    simp [updV, va_up, va_rf]
  · simp [updV, va_up, hq]
theorem gk_anew (G : gk_G p s m args meth c own nL cc ret Ts D tys A) {index t0 N : Nat} {cJ : ClassId} {n : Int32} (hao : gp_AO A s s.heap) (hclink : (Cond.classLink own index "[I").before args s = true) (ht : tys[t0]? = some (cJ, .array .int)) (hn : n = nI N) (hN : N < 1000) (hcells : cells + 1 ≤ R.cells) (hslots : slots + N ≤ R.slots) (d : decode cc pc = .ok (.anewarray index, 3))
    (K : ∀ q : Nat, gk_C p l e R s m args below meth c nL D A Q (cells + 1) (slots + N) ([(q, .inl (cJ, N, .inr (.inr (.inr (.inr (fun _ => none))))))] ++ w) lv (pc + 3) (.ref q :: st)) : gk_C p l e R s m args below meth c nL D A Q cells slots w lv (pc) (.int n :: st) := by
  intro H locs ls hP hD hS hl
  subst hn
  have hcl : (nI N).toNatClampNeg = N := nI_clamp (by omega)
  have hpos : ¬ nI N < 0 := nI_pos (by omega)
  refine W.anewA (t := .int) G.1 G.2.1 G.2.2.2.1 hclink (gp_ao_use hao args) rfl d rfl hpos (by rw [hcl]; omega) hcells (by rw [hcl]; exact hslots) fun cA kA comp f1 f2 f3 f4 => ?_
  have e : cA = cJ := Option.some.inj (f1.symm.trans (G.2.2.2.2.2.1.2 t0 _ ht).2)
  subst e
  rw [hcl]
  generalize hH1 : H.push ({ cls := cA, slots := Array.replicate N .null, vm := .none } : Cell) = H1
  have z1 : H1.size = H.size + 1 := by rw [← hH1, Array.size_push]
  have e1 : H1[H.size]? = some (arrV cA N (fun _ => .null)) := by rw [← hH1, Array.getElem?_push_size, ← arrV_new]
  have o1 : ∀ q : Nat, q < H.size → H1[q]? = H[q]? := fun q hq => by rw [← hH1, Array.getElem?_push, if_neg (Nat.ne_of_lt hq)]
  have hk : ∀ (k : Nat) (x : Nat × va_E), w[k]? = some x → H1[x.1]? = H[x.1]? := fun k x hx => o1 x.1 ((hP k x hx).lt)
  have hP2 : va_P D vwCl (w ++ [(H.size, .inl (cA, N, .inr (.inr (.inr (.inr (fun _ => none))))))]) H1 := (hP.kept hk).app (fun k x hx => by
    have hz : k < 1 := (List.getElem?_eq_some_iff.mp hx).1
    obtain rfl : k = 0 := by omega
    cases hx
    exact e1)
  have hD2 : va_D A (w ++ [(H.size, .inl (cA, N, .inr (.inr (.inr (.inr (fun _ => none))))))]) := hD.push hP rfl (G.2.2.2.2.2.2.1 _ hS.1)
  exact gk_rot (K H.size) H1 locs ls hP2 hD2 ⟨Nat.le_trans hS.1 (by omega), fun x h1 h2 => (o1 x (Nat.lt_of_lt_of_le h1 hS.1)).trans (hS.2.1 x h1 h2), hS.2.2⟩ hl
end SK1
section SK2
variable {l : Launch} {y : MethodName} {ws ws' : List Cond} {rm : Room} {D : va_G} {tys : List (ClassId × FieldType)} {E : (Nat → Prop) → State → Heap → Prop} {av : List Value} {w : va_W} {mc ms : Nat} {S : Type}
def gk_R (l : Launch) (y : MethodName) (ws : List Cond) (rm : Room) (D : va_G) (tys : List (ClassId × FieldType)) (E : (Nat → Prop) → State → Heap → Prop) (av : List Value) (w : va_W) (mc ms : Nat) {S : Type} (post : S → Prop) (wo : S → Nat → va_W) : Prop :=
  ∀ sz : Nat, Met l y ws rm (va_Pc av (gk_Pre D tys E w sz)) (va_Qr post (fun u ra t => gk_Post D tys (va_A w sz) (wo u ra) t) (va_A w sz)) mc ms (va_A w sz)
end SK2
section SK3
variable {p : Program} {l : Launch} {e : Env} {R : Room} {s : State} {m : MethodId} {args : Array Value} {below : List Frame} {meth : Method} {c : Code}
variable {own : String} {nL : Nat} {cc : ByteArray} {Ts : List Cond} {D : va_G} {tys tys0 : List (ClassId × FieldType)} {A : Nat → Prop} {cells slots pc mc ms : Nat} {Q : State → Prop} {w : va_W} {lv : List (Nat × Value)} {st : List Value} {a : Nat} {ret : Option FieldType} {S : Type}
theorem gk_retRw {rt : FieldType} (G : gk_G p s m args meth c own nL cc (some rt) Ts D tys A) (hrt : (∃ n, rt = .object n) ∨ ∃ t, rt = .array t) {post : S → Prop} {wo : S → Nat → va_W} {v : Nat} (d : decode cc pc = .ok (.areturn, 1)) (u : S) (hp : post u) {r : va_W} (hs : w.Perm (wo u v ++ r)) (hc : cells ≤ mc) (hsl : slots ≤ ms) :
    gk_C p l e R s m args below meth c nL D A (MQ below (va_Qr post (fun u ra t => gk_Post D tys A (wo u ra) t) A) args s mc ms A) cells slots w lv pc (.ref v :: []) :=
  fun H locs ls hP hD hS hl => W.widen hc hsl (W.aret G.1 G.2.1 G.2.2.2.2.2.2.2.1 hrt (Or.inr ⟨v, rfl⟩) (fun t ht hW => ⟨⟨u, v, rfl, hp, by rw [ht]; exact gk_permP hs hP, va_K.moved hW.alike G.2.2.2.2.2.1, gk_permD hs hD⟩, hS.F ht⟩) hS.2.2 d G.2.2.2.2.2.2.2.2)
end SK3
section SK4
variable {l : Launch} {y : MethodName} {ws ws' : List Cond} {rm : Room} {D : va_G} {tys : List (ClassId × FieldType)} {E : (Nat → Prop) → State → Heap → Prop} {av : List Value} {w : va_W} {mc ms : Nat} {S : Type}
theorem gk_R_of {post : S → Prop} {wo : S → Nat → va_W} {rt : FieldType} {cc : ByteArray} {nL : Nat} (hrt : (∃ n, rt = .object n) ∨ ∃ t, rt = .array t) (hy : plainName y.cls = true) (hw : ws = Cond.code y cc nL (some rt) :: ws') (hav : (lg_sl av).length ≤ nL)
    (body : ∀ (p : Program) (e : Env) (s : State) (m : MethodId) (below : List Frame) (meth : Method) (c : Code) (A : Nat → Prop) (Q : State → Prop), meth.name = y.name → E A s s.heap → gk_G p s m av.toArray meth c y.cls nL cc (some rt) ws D tys A →
      (∀ (cells slots : Nat) (w : va_W) (lv : List (Nat × Value)) (pc : Nat) (v : Nat) (u : S) (r : va_W), decode cc pc = .ok (.areturn, 1) → post u → w.Perm (wo u v ++ r) → cells ≤ mc → slots ≤ ms → gk_C p l e rm s m av.toArray below meth c nL D A Q cells slots w lv pc [.ref v]) →
      gk_C p l e rm s m av.toArray below meth c nL D A Q 0 0 w (lv_args 0 av) 0 []) : gk_R l y ws rm D tys E av w mc ms post wo := by
  intro sz
  refine Met.ofW (cc := cc) (maxL := nL) (ret := some rt) hy hw ?_
  intro p e s m args below meth c s₁ B hml hv
  obtain ⟨rfl, hsz, hP, hK, hD0, hE⟩ := hv
  have hD := hD0.self (sz := sz)
  rw [lg_entry_eq]
  have G : gk_G p s m av.toArray meth c y.cls nL cc (some rt) ws D tys (va_A w sz) := ⟨B.exec, B.bytes, hml, findClass_of_methodNamed B.named, atoms_spec (ws := ws) B.pre, hK, fun q h => Or.inr (by rw [← hsz]; exact h), B.returns, B.notSynchronized⟩
  exact body p e s m below meth c (va_A w sz) _ (name_of_methodNamed B.named B.method).1 hE G
    (fun cells slots w lv pc v u r d hp hs hc hsl => gk_retRw G hrt d u hp hs hc hsl) s.heap [] _ hP hD va_S.rf (lv_entry av hav)
end SK4
section SK5
variable {p : Program} {l : Launch} {e : Env} {R : Room} {s : State} {m : MethodId} {args : Array Value} {below : List Frame} {meth : Method} {c : Code}
variable {own : String} {nL : Nat} {cc : ByteArray} {Ts : List Cond} {D : va_G} {tys tys0 : List (ClassId × FieldType)} {A : Nat → Prop} {cells slots pc mc ms : Nat} {Q : State → Prop} {w : va_W} {lv : List (Nat × Value)} {st : List Value} {a : Nat} {ret : Option FieldType} {S : Type}
theorem gp_callIV (G : gk_G p s m args meth c own nL cc ret Ts D tys A) {post : Int32 → S → Prop} {wo : S → va_W} {y : MethodName} {bytes : ByteArray} {maxL idx mc1 ms1 : Nat} {b : Nat}  {rt : Option FieldType} {C : String} {ws ws' : List Cond} {rm : Room} {As : List Value} {wc wr : va_W} {E : (Nat → Prop) → State → Heap → Prop} {st0 : List Value}
    (hM : gk_I l y ws rm D tys E (.ref b :: As) wc mc1 ms1 post wo) (hT : GoodIn Ts (wsV own idx C y ws)) (hw : ws = Cond.code y bytes maxL rt :: ws') (n : Nat) (hd : y.cls = C ∧ y.cls ≠ "java/lang/invoke/MethodHandle" ∧ y.cls ≠ "java/lang/invoke/VarHandle" ∧ (parseMethodDescriptor y.desc).map (fun d => d.parameters.length) = some n) (hrc : rm.cells = mc1) (hrs : rm.slots = ms1) (hR : rm.frames + 1 ≤ R.frames ∧ 8 + (maxL + 11) + rm.locals ≤ R.locals) (hn : As.length = n) {ci q0 : Nat} {fs : List Value} (hrecv : wc[q0]? = some (b, .inr (ci, fs))) {T : u_T} {N : Nat} (hcl : vwCl[ci]? = some (C, T, N)) 
    (hE : gk_Ok E) (hE1 : E A s s.heap) (hp : w.Perm (wr ++ wc)) (hst : st0 = As.reverse ++ .ref b :: st) (hroom : (st.map fun v => v.category).sum ≤ 8) (d : decode cc pc = .ok (.invokevirtual idx, 3)) (hcs : cells + mc1 ≤ R.cells ∧ slots + ms1 ≤ R.slots)
    (K : ∀ (r : Int32) (u : S), post r u → gk_C p l e R s m args below meth c nL D A Q (cells + mc1) (slots + ms1) (wr ++ wo u) lv (pc + 3) (.int r :: st)) : gk_C p l e R s m args below meth c nL D A Q cells slots w lv pc st0 :=
  gk_perm hp (gk_callIV G hM hT hw n hd hrc hrs hR hn hrecv hcl hE hE1 _ (gk_isC wr wc) (gk_ndC _ _) _ (gk_isR wr wc) (gk_ndR _) (gk_dis _ _) hst hroom d hcs K)
theorem gp_callIS (G : gk_G p s m args meth c own nL cc ret Ts D tys A) {post : Int32 → S → Prop} {wo : S → va_W} {y : MethodName} {bytes : ByteArray} {maxL idx mc1 ms1 : Nat}  {rt : Option FieldType} {ws ws' : List Cond} {rm : Room} {As : List Value} {wc wr : va_W} {E : (Nat → Prop) → State → Heap → Prop} {st0 : List Value}
    (hM : gk_I l y ws rm D tys E As wc mc1 ms1 post wo) (hT : GoodIn Ts (va_wsS own idx y ws)) (hw : ws = Cond.code y bytes maxL rt :: ws') (n : Nat) (hd : y.cls ≠ "java/lang/invoke/MethodHandle" ∧ y.cls ≠ "java/lang/invoke/VarHandle" ∧ (parseMethodDescriptor y.desc).map (fun d => d.parameters.length) = some n) (hrc : rm.cells = mc1) (hrs : rm.slots = ms1) (hR : rm.frames + 1 ≤ R.frames ∧ 8 + (maxL + 11) + rm.locals ≤ R.locals) (hn : As.length = n) 
    (hE : gk_Ok E) (hE1 : E A s s.heap) (hp : w.Perm (wr ++ wc)) (hst : st0 = As.reverse ++ st) (hroom : (st.map fun v => v.category).sum ≤ 8) (d : decode cc pc = .ok (.invokestatic idx, 3)) (hcs : cells + mc1 ≤ R.cells ∧ slots + ms1 ≤ R.slots)
    (K : ∀ (r : Int32) (u : S), post r u → gk_C p l e R s m args below meth c nL D A Q (cells + mc1) (slots + ms1) (wr ++ wo u) lv (pc + 3) (.int r :: st)) : gk_C p l e R s m args below meth c nL D A Q cells slots w lv pc st0 :=
  gk_perm hp (gk_callIS G hM hT hw n hd hrc hrs hR hn hE hE1 _ (gk_isC wr wc) (gk_ndC _ _) _ (gk_isR wr wc) (gk_ndR _) (gk_dis _ _) hst hroom d hcs K)
theorem gp_callVV (G : gk_G p s m args meth c own nL cc ret Ts D tys A) {post : S → Prop} {wo : S → va_W} {y : MethodName} {bytes : ByteArray} {maxL idx mc1 ms1 : Nat} {b : Nat}  {rt : Option FieldType} {C : String} {ws ws' : List Cond} {rm : Room} {As : List Value} {wc wr : va_W} {E : (Nat → Prop) → State → Heap → Prop} {st0 : List Value}
    (hM : gk_V l y ws rm D tys E (.ref b :: As) wc mc1 ms1 post wo) (hT : GoodIn Ts (wsV own idx C y ws)) (hw : ws = Cond.code y bytes maxL rt :: ws') (n : Nat) (hd : y.cls = C ∧ y.cls ≠ "java/lang/invoke/MethodHandle" ∧ y.cls ≠ "java/lang/invoke/VarHandle" ∧ (parseMethodDescriptor y.desc).map (fun d => d.parameters.length) = some n) (hrc : rm.cells = mc1) (hrs : rm.slots = ms1) (hR : rm.frames + 1 ≤ R.frames ∧ 8 + (maxL + 11) + rm.locals ≤ R.locals) (hn : As.length = n) {ci q0 : Nat} {fs : List Value} (hrecv : wc[q0]? = some (b, .inr (ci, fs))) {T : u_T} {N : Nat} (hcl : vwCl[ci]? = some (C, T, N)) 
    (hE : gk_Ok E) (hE1 : E A s s.heap) (hp : w.Perm (wr ++ wc)) (hst : st0 = As.reverse ++ .ref b :: st) (hroom : (st.map fun v => v.category).sum ≤ 8) (d : decode cc pc = .ok (.invokevirtual idx, 3)) (hcs : cells + mc1 ≤ R.cells ∧ slots + ms1 ≤ R.slots)
    (K : ∀ (u : S), post u → gk_C p l e R s m args below meth c nL D A Q (cells + mc1) (slots + ms1) (wr ++ wo u) lv (pc + 3) (st)) : gk_C p l e R s m args below meth c nL D A Q cells slots w lv pc st0 :=
  gk_perm hp (gk_callVV G hM hT hw n hd hrc hrs hR hn hrecv hcl hE hE1 _ (gk_isC wr wc) (gk_ndC _ _) _ (gk_isR wr wc) (gk_ndR _) (gk_dis _ _) hst hroom d hcs K)
theorem gp_callVS (G : gk_G p s m args meth c own nL cc ret Ts D tys A) {post : S → Prop} {wo : S → va_W} {y : MethodName} {bytes : ByteArray} {maxL idx mc1 ms1 : Nat}  {rt : Option FieldType} {ws ws' : List Cond} {rm : Room} {As : List Value} {wc wr : va_W} {E : (Nat → Prop) → State → Heap → Prop} {st0 : List Value}
    (hM : gk_V l y ws rm D tys E As wc mc1 ms1 post wo) (hT : GoodIn Ts (va_wsS own idx y ws)) (hw : ws = Cond.code y bytes maxL rt :: ws') (n : Nat) (hd : y.cls ≠ "java/lang/invoke/MethodHandle" ∧ y.cls ≠ "java/lang/invoke/VarHandle" ∧ (parseMethodDescriptor y.desc).map (fun d => d.parameters.length) = some n) (hrc : rm.cells = mc1) (hrs : rm.slots = ms1) (hR : rm.frames + 1 ≤ R.frames ∧ 8 + (maxL + 11) + rm.locals ≤ R.locals) (hn : As.length = n) 
    (hE : gk_Ok E) (hE1 : E A s s.heap) (hp : w.Perm (wr ++ wc)) (hst : st0 = As.reverse ++ st) (hroom : (st.map fun v => v.category).sum ≤ 8) (d : decode cc pc = .ok (.invokestatic idx, 3)) (hcs : cells + mc1 ≤ R.cells ∧ slots + ms1 ≤ R.slots)
    (K : ∀ (u : S), post u → gk_C p l e R s m args below meth c nL D A Q (cells + mc1) (slots + ms1) (wr ++ wo u) lv (pc + 3) (st)) : gk_C p l e R s m args below meth c nL D A Q cells slots w lv pc st0 :=
  gk_perm hp (gk_callVS G hM hT hw n hd hrc hrs hR hn hE hE1 _ (gk_isC wr wc) (gk_ndC _ _) _ (gk_isR wr wc) (gk_ndR _) (gk_dis _ _) hst hroom d hcs K)
theorem gp_callDV (G : gk_G p s m args meth c own nL cc ret Ts D tys A) {post : UInt64 → S → Prop} {wo : S → va_W} {y : MethodName} {bytes : ByteArray} {maxL idx mc1 ms1 : Nat} {b : Nat}  {rt : Option FieldType} {C : String} {ws ws' : List Cond} {rm : Room} {As : List Value} {wc wr : va_W} {E : (Nat → Prop) → State → Heap → Prop} {st0 : List Value}
    (hM : gk_D l y ws rm D tys E (.ref b :: As) wc mc1 ms1 post wo) (hT : GoodIn Ts (wsV own idx C y ws)) (hw : ws = Cond.code y bytes maxL rt :: ws') (n : Nat) (hd : y.cls = C ∧ y.cls ≠ "java/lang/invoke/MethodHandle" ∧ y.cls ≠ "java/lang/invoke/VarHandle" ∧ (parseMethodDescriptor y.desc).map (fun d => d.parameters.length) = some n) (hrc : rm.cells = mc1) (hrs : rm.slots = ms1) (hR : rm.frames + 1 ≤ R.frames ∧ 8 + (maxL + 11) + rm.locals ≤ R.locals) (hn : As.length = n) {ci q0 : Nat} {fs : List Value} (hrecv : wc[q0]? = some (b, .inr (ci, fs))) {T : u_T} {N : Nat} (hcl : vwCl[ci]? = some (C, T, N)) 
    (hE : gk_Ok E) (hE1 : E A s s.heap) (hp : w.Perm (wr ++ wc)) (hst : st0 = As.reverse ++ .ref b :: st) (hroom : (st.map fun v => v.category).sum ≤ 8) (d : decode cc pc = .ok (.invokevirtual idx, 3)) (hcs : cells + mc1 ≤ R.cells ∧ slots + ms1 ≤ R.slots)
    (K : ∀ (r : UInt64) (u : S), post r u → gk_C p l e R s m args below meth c nL D A Q (cells + mc1) (slots + ms1) (wr ++ wo u) lv (pc + 3) (.double r :: st)) : gk_C p l e R s m args below meth c nL D A Q cells slots w lv pc st0 :=
  gk_perm hp (gk_callDV G hM hT hw n hd hrc hrs hR hn hrecv hcl hE hE1 _ (gk_isC wr wc) (gk_ndC _ _) _ (gk_isR wr wc) (gk_ndR _) (gk_dis _ _) hst hroom d hcs K)
theorem gp_callVI (G : gk_G p s m args meth c own nL cc ret Ts D tys A) {post : S → Prop} {wo : S → va_W} {y : MethodName} {bytes : ByteArray} {maxL idx mc1 ms1 : Nat} {b : Nat}  {rt : Option FieldType} {ws ws' : List Cond} {rm : Room} {As : List Value} {wc wr : va_W} {E : (Nat → Prop) → State → Heap → Prop} {st0 : List Value}
    (hM : gk_V l y ws rm D tys E (.ref b :: As) wc mc1 ms1 post wo) (hT : GoodIn Ts ws) (hw : ws = Cond.code y bytes maxL none :: ws') (n : Nat) (hini : (Cond.initialized y.cls).before args s = true) (hl1 : (Cond.methodLink own idx y).before args s = true) (hin : (Cond.instanceMethod y).before args s = true) (hy1 : y.name = "<init>") (hd : y.cls ≠ "java/lang/invoke/MethodHandle" ∧ y.cls ≠ "java/lang/invoke/VarHandle" ∧ (parseMethodDescriptor y.desc).map (fun d => d.parameters.length) = some n) (hrc : rm.cells = mc1) (hrs : rm.slots = ms1) (hR : rm.frames + 1 ≤ R.frames ∧ 8 + (maxL + 11) + rm.locals ≤ R.locals) (hn : As.length = n) 
    (hE : gk_Ok E) (hE1 : E A s s.heap) (hp : w.Perm (wr ++ wc)) (hst : st0 = As.reverse ++ .ref b :: st) (hroom : (st.map fun v => v.category).sum ≤ 8) (d : decode cc pc = .ok (.invokespecial idx, 3)) (hcs : cells + mc1 ≤ R.cells ∧ slots + ms1 ≤ R.slots)
    (K : ∀ (u : S), post u → gk_C p l e R s m args below meth c nL D A Q (cells + mc1) (slots + ms1) (wr ++ wo u) lv (pc + 3) (st)) : gk_C p l e R s m args below meth c nL D A Q cells slots w lv pc st0 :=
  gk_perm hp (gk_callVI (rt := rt) G hM hT hw n hini hl1 hin hy1 hd hrc hrs hR hn hE hE1 _ (gk_isC wr wc) (gk_ndC _ _) _ (gk_isR wr wc) (gk_ndR _) (gk_dis _ _) hst hroom d hcs K)
theorem gk_callRV (G : gk_G p s m args meth c own nL cc ret Ts D tys A) {post : S → Prop} {wo : S → Nat → va_W} {y : MethodName} {bytes : ByteArray} {maxL idx mc1 ms1 : Nat} {b : Nat}  {rt : Option FieldType} {C : String} {ws ws' : List Cond} {rm : Room} {As : List Value} {wc wr : va_W} {E : (Nat → Prop) → State → Heap → Prop} {st0 : List Value}
    (hM : gk_R l y ws rm D tys E (.ref b :: As) wc mc1 ms1 post wo) (hT : GoodIn Ts (wsV own idx C y ws)) (hw : ws = Cond.code y bytes maxL rt :: ws') (n : Nat) (hd : y.cls = C ∧ y.cls ≠ "java/lang/invoke/MethodHandle" ∧ y.cls ≠ "java/lang/invoke/VarHandle" ∧ (parseMethodDescriptor y.desc).map (fun d => d.parameters.length) = some n) (hrc : rm.cells = mc1) (hrs : rm.slots = ms1) (hR : rm.frames + 1 ≤ R.frames ∧ 8 + (maxL + 11) + rm.locals ≤ R.locals) (hn : As.length = n) {ci q0 : Nat} {fs : List Value} (hrecv : wc[q0]? = some (b, .inr (ci, fs))) {T : u_T} {N : Nat} (hcl : vwCl[ci]? = some (C, T, N)) 
    (hE : gk_Ok E) (hE1 : E A s s.heap) (isC : List Nat) (hC : isC.map (fun i => w[i]?) = wc.map some) (hnC : va_nd isC = true) (isR : List Nat) (hR2 : isR.map (fun i => w[i]?) = wr.map some) (hnR : va_nd isR = true) (hdis : ∀ i ∈ isR, i ∉ isC) (hst : st0 = As.reverse ++ .ref b :: st) (hroom : (st.map fun v => v.category).sum ≤ 8) (d : decode cc pc = .ok (.invokevirtual idx, 3)) (hcs : cells + mc1 ≤ R.cells ∧ slots + ms1 ≤ R.slots)
    (K : ∀ (u : S) (ra : Nat), post u → gk_C p l e R s m args below meth c nL D A Q (cells + mc1) (slots + ms1) (wr ++ wo u ra) lv (pc + 3) (.ref ra :: st)) : gk_C p l e R s m args below meth c nL D A Q cells slots w lv pc st0 := by
  intro H locs ls hP hD hS hl
  have hPc : va_P D vwCl wc H := hP.sub isC (gk_fm isC hC)
  have hDc : va_D A wc := hD.sub isC hnC hC
  have hF := va_free hD hS G.2.2.2.2.2.2.1 isC hC
  refine va_callr (va_runV (As := As) (rest := st) ⟨G.1, G.2.1, G.2.2.1, G.2.2.2.1, G.2.2.2.2.1⟩ (hM H.size) (cwV n G.2.2.2.2.1 hT hw hrc hrs hd hR) ⟨fun a U g mk q => ?_, va_recv G.2.2.2.2.2.1 hPc hcl hrecv, fun U hU hW => ⟨rfl, by rw [hU], by rw [hU]; exact hPc, va_K.moved hW.alike G.2.2.2.2.2.1, hDc.weaken (fun _ _ _ _ => trivial), ?_⟩⟩ rfl hn hl.1 hst (lv_room hroom) d hcs) hS (fun q _ h => hF q h) hF (fun u ra t H1 locs1 ht hvm hw1 hB hz1 hk1 hS1 => ?_)
  · obtain ⟨q0, q1, qP, qK, qD, qE⟩ := q
    exact ⟨q0, q1, qP, va_K.moved (u := U) (U := U.calling g mk a) (Vm.Alike.refl U.vm) qK, qD, hE _ _ U (U.calling g mk a) _ _ (Vm.Alike.refl U.vm) (Or.inr rfl) (fun _ _ h => h) (Nat.le_refl _) (fun _ _ _ => rfl) qE⟩
  · exact hE A _ s U s.heap U.heap hW.alike (Or.inl hW) (fun q _ h => hF q h) (by rw [hU]; exact hS.1) (fun q h1 h2 => by rw [hU]; exact hS.2.1 q h1 h2) hE1
  · obtain ⟨hP1, hK1, hD1⟩ := hB
    rw [ht] at hP1
    obtain ⟨hP2, hD2⟩ := va_join hP hD isC isR hC hR2 hnR hdis hk1 hF hP1 hD1
    exact K u ra hw1 H1 locs1 ls hP2 hD2 hS1 hl
theorem gp_callRV (G : gk_G p s m args meth c own nL cc ret Ts D tys A) {post : S → Prop} {wo : S → Nat → va_W} {y : MethodName} {bytes : ByteArray} {maxL idx mc1 ms1 : Nat} {b : Nat}  {rt : Option FieldType} {C : String} {ws ws' : List Cond} {rm : Room} {As : List Value} {wc wr : va_W} {E : (Nat → Prop) → State → Heap → Prop} {st0 : List Value}
    (hM : gk_R l y ws rm D tys E (.ref b :: As) wc mc1 ms1 post wo) (hT : GoodIn Ts (wsV own idx C y ws)) (hw : ws = Cond.code y bytes maxL rt :: ws') (n : Nat) (hd : y.cls = C ∧ y.cls ≠ "java/lang/invoke/MethodHandle" ∧ y.cls ≠ "java/lang/invoke/VarHandle" ∧ (parseMethodDescriptor y.desc).map (fun d => d.parameters.length) = some n) (hrc : rm.cells = mc1) (hrs : rm.slots = ms1) (hR : rm.frames + 1 ≤ R.frames ∧ 8 + (maxL + 11) + rm.locals ≤ R.locals) (hn : As.length = n) {ci q0 : Nat} {fs : List Value} (hrecv : wc[q0]? = some (b, .inr (ci, fs))) {T : u_T} {N : Nat} (hcl : vwCl[ci]? = some (C, T, N)) 
    (hE : gk_Ok E) (hE1 : E A s s.heap) (hp : w.Perm (wr ++ wc)) (hst : st0 = As.reverse ++ .ref b :: st) (hroom : (st.map fun v => v.category).sum ≤ 8) (d : decode cc pc = .ok (.invokevirtual idx, 3)) (hcs : cells + mc1 ≤ R.cells ∧ slots + ms1 ≤ R.slots)
    (K : ∀ (u : S) (ra : Nat), post u → gk_C p l e R s m args below meth c nL D A Q (cells + mc1) (slots + ms1) (wr ++ wo u ra) lv (pc + 3) (.ref ra :: st)) : gk_C p l e R s m args below meth c nL D A Q cells slots w lv pc st0 :=
  gk_perm hp (gk_callRV G hM hT hw n hd hrc hrs hR hn hrecv hcl hE hE1 _ (gk_isC wr wc) (gk_ndC _ _) _ (gk_isR wr wc) (gk_ndR _) (gk_dis _ _) hst hroom d hcs K)
theorem gk_callRS (G : gk_G p s m args meth c own nL cc ret Ts D tys A) {post : S → Prop} {wo : S → Nat → va_W} {y : MethodName} {bytes : ByteArray} {maxL idx mc1 ms1 : Nat}  {rt : Option FieldType} {ws ws' : List Cond} {rm : Room} {As : List Value} {wc wr : va_W} {E : (Nat → Prop) → State → Heap → Prop} {st0 : List Value}
    (hM : gk_R l y ws rm D tys E As wc mc1 ms1 post wo) (hT : GoodIn Ts (va_wsS own idx y ws)) (hw : ws = Cond.code y bytes maxL rt :: ws') (n : Nat) (hd : y.cls ≠ "java/lang/invoke/MethodHandle" ∧ y.cls ≠ "java/lang/invoke/VarHandle" ∧ (parseMethodDescriptor y.desc).map (fun d => d.parameters.length) = some n) (hrc : rm.cells = mc1) (hrs : rm.slots = ms1) (hR : rm.frames + 1 ≤ R.frames ∧ 8 + (maxL + 11) + rm.locals ≤ R.locals) (hn : As.length = n) 
    (hE : gk_Ok E) (hE1 : E A s s.heap) (isC : List Nat) (hC : isC.map (fun i => w[i]?) = wc.map some) (hnC : va_nd isC = true) (isR : List Nat) (hR2 : isR.map (fun i => w[i]?) = wr.map some) (hnR : va_nd isR = true) (hdis : ∀ i ∈ isR, i ∉ isC) (hst : st0 = As.reverse ++ st) (hroom : (st.map fun v => v.category).sum ≤ 8) (d : decode cc pc = .ok (.invokestatic idx, 3)) (hcs : cells + mc1 ≤ R.cells ∧ slots + ms1 ≤ R.slots)
    (K : ∀ (u : S) (ra : Nat), post u → gk_C p l e R s m args below meth c nL D A Q (cells + mc1) (slots + ms1) (wr ++ wo u ra) lv (pc + 3) (.ref ra :: st)) : gk_C p l e R s m args below meth c nL D A Q cells slots w lv pc st0 := by
  intro H locs ls hP hD hS hl
  have hPc : va_P D vwCl wc H := hP.sub isC (gk_fm isC hC)
  have hDc : va_D A wc := hD.sub isC hnC hC
  have hF := va_free hD hS G.2.2.2.2.2.2.1 isC hC
  refine va_callr (va_runS (As := As) (rest := st) ⟨G.1, G.2.1, G.2.2.1, G.2.2.2.1, G.2.2.2.2.1⟩ (hM H.size) (va_cwS n G.2.2.2.2.1 hT hw hrc hrs hd hR) ⟨fun a U g mk q => ?_, fun U hU hW => ⟨rfl, by rw [hU], by rw [hU]; exact hPc, va_K.moved hW.alike G.2.2.2.2.2.1, hDc.weaken (fun _ _ _ _ => trivial), ?_⟩⟩ rfl hn hl.1 hst (lv_room hroom) d hcs) hS (fun q _ h => hF q h) hF (fun u ra t H1 locs1 ht hvm hw1 hB hz1 hk1 hS1 => ?_)
  · obtain ⟨q0, q1, qP, qK, qD, qE⟩ := q
    exact ⟨q0, q1, qP, va_K.moved (u := U) (U := U.calling g mk a) (Vm.Alike.refl U.vm) qK, qD, hE _ _ U (U.calling g mk a) _ _ (Vm.Alike.refl U.vm) (Or.inr rfl) (fun _ _ h => h) (Nat.le_refl _) (fun _ _ _ => rfl) qE⟩
  · exact hE A _ s U s.heap U.heap hW.alike (Or.inl hW) (fun q _ h => hF q h) (by rw [hU]; exact hS.1) (fun q h1 h2 => by rw [hU]; exact hS.2.1 q h1 h2) hE1
  · obtain ⟨hP1, hK1, hD1⟩ := hB
    rw [ht] at hP1
    obtain ⟨hP2, hD2⟩ := va_join hP hD isC isR hC hR2 hnR hdis hk1 hF hP1 hD1
    exact K u ra hw1 H1 locs1 ls hP2 hD2 hS1 hl
theorem gp_callRS (G : gk_G p s m args meth c own nL cc ret Ts D tys A) {post : S → Prop} {wo : S → Nat → va_W} {y : MethodName} {bytes : ByteArray} {maxL idx mc1 ms1 : Nat}  {rt : Option FieldType} {ws ws' : List Cond} {rm : Room} {As : List Value} {wc wr : va_W} {E : (Nat → Prop) → State → Heap → Prop} {st0 : List Value}
    (hM : gk_R l y ws rm D tys E As wc mc1 ms1 post wo) (hT : GoodIn Ts (va_wsS own idx y ws)) (hw : ws = Cond.code y bytes maxL rt :: ws') (n : Nat) (hd : y.cls ≠ "java/lang/invoke/MethodHandle" ∧ y.cls ≠ "java/lang/invoke/VarHandle" ∧ (parseMethodDescriptor y.desc).map (fun d => d.parameters.length) = some n) (hrc : rm.cells = mc1) (hrs : rm.slots = ms1) (hR : rm.frames + 1 ≤ R.frames ∧ 8 + (maxL + 11) + rm.locals ≤ R.locals) (hn : As.length = n) 
    (hE : gk_Ok E) (hE1 : E A s s.heap) (hp : w.Perm (wr ++ wc)) (hst : st0 = As.reverse ++ st) (hroom : (st.map fun v => v.category).sum ≤ 8) (d : decode cc pc = .ok (.invokestatic idx, 3)) (hcs : cells + mc1 ≤ R.cells ∧ slots + ms1 ≤ R.slots)
    (K : ∀ (u : S) (ra : Nat), post u → gk_C p l e R s m args below meth c nL D A Q (cells + mc1) (slots + ms1) (wr ++ wo u ra) lv (pc + 3) (.ref ra :: st)) : gk_C p l e R s m args below meth c nL D A Q cells slots w lv pc st0 :=
  gk_perm hp (gk_callRS G hM hT hw n hd hrc hrs hR hn hE hE1 _ (gk_isC wr wc) (gk_ndC _ _) _ (gk_isR wr wc) (gk_ndR _) (gk_dis _ _) hst hroom d hcs K)
end SK5
