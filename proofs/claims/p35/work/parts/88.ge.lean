/-! BUILD; written by wip/p35/gen_b.py -/
section GB
variable {p : Program} {l : Launch} {e : Env} {R : Room} {s : State} {m : MethodId} {args : Array Value} {below : List Frame} {meth : Method} {c : Code}
variable {own : String} {nL : Nat} {cc : ByteArray} {Ts : List Cond} {D : va_G} {tys tys0 : List (ClassId × FieldType)} {A : Nat → Prop} {cells slots pc mc ms : Nat} {Q : State → Prop} {w : va_W} {lv : List (Nat × Value)} {st : List Value} {a : Nat} {ret : Option FieldType} {S : Type}
theorem gk_callVIN (G : gk_G p s m args meth c own nL cc ret Ts D tys A) {post : S → Prop} {wo : S → va_W} {y : MethodName} {bytes : ByteArray} {maxL idx mc1 ms1 : Nat} {b : Nat}  {rt : Option FieldType} {ws ws' : List Cond} {rm : Room} {As : List Value} {wc wr : va_W} {E : (Nat → Prop) → State → Heap → Prop} {st0 : List Value}
    (hM : gk_V l y ws rm D tys E (.ref b :: As) wc mc1 ms1 post wo) (hT : GoodIn Ts ws) (hw : ws = Cond.code y bytes maxL none :: ws') (n : Nat) (hini : (Cond.initialized y.cls).before args s = true) {host : String} (hl1 : va_Nw (.methodLinkNest own idx y host) s) (hin : (Cond.instanceMethod y).before args s = true) (hy1 : y.name = "<init>") (hd : y.cls ≠ "java/lang/invoke/MethodHandle" ∧ y.cls ≠ "java/lang/invoke/VarHandle" ∧ (parseMethodDescriptor y.desc).map (fun d => d.parameters.length) = some n) (hrc : rm.cells = mc1) (hrs : rm.slots = ms1) (hR : rm.frames + 1 ≤ R.frames ∧ 8 + (maxL + 11) + rm.locals ≤ R.locals) (hn : As.length = n) 
    (hE : gk_Ok E) (hE1 : E A s s.heap) (isC : List Nat) (hC : isC.map (fun i => w[i]?) = wc.map some) (hnC : va_nd isC = true) (isR : List Nat) (hR2 : isR.map (fun i => w[i]?) = wr.map some) (hnR : va_nd isR = true) (hdis : ∀ i ∈ isR, i ∉ isC) (hst : st0 = As.reverse ++ .ref b :: st) (hroom : (st.map fun v => v.category).sum ≤ 8) (d : decode cc pc = .ok (.invokespecial idx, 3)) (hcs : cells + mc1 ≤ R.cells ∧ slots + ms1 ≤ R.slots)
    (K : ∀ (u : S), post u → gk_C p l e R s m args below meth c nL D A Q (cells + mc1) (slots + ms1) (wr ++ wo u) lv (pc + 3) (st)) : gk_C p l e R s m args below meth c nL D A Q cells slots w lv pc st0 := by
  intro H locs ls hP hD hS hl
  have hPc : va_P D vwCl wc H := hP.sub isC (gk_fm isC hC)
  have hDc : va_D A wc := hD.sub isC hnC hC
  have hF := va_free hD hS G.2.2.2.2.2.2.1 isC hC
  refine va_callv (va_runIN (As := As) (rest := st) ⟨G.1, G.2.1, G.2.2.1, G.2.2.2.1, G.2.2.2.2.1⟩ (hM H.size) ⟨va_cnB n G.2.2.2.2.1 hT hw hrc hrs hl1 hini hd hR, hy1, hin⟩ ⟨fun a U g mk q => ?_, fun U hU hW => ⟨rfl, by rw [hU], by rw [hU]; exact hPc, va_K.moved hW.alike G.2.2.2.2.2.1, hDc.weaken (fun _ _ _ _ => trivial), ?_⟩⟩ rfl hn hl.1 hst (lv_room hroom) d hcs) hS (fun q _ h => hF q h) hF (fun u t H1 locs1 ht hvm hw1 hB hz1 hk1 hS1 => ?_)
  · obtain ⟨q0, q1, qP, qK, qD, qE⟩ := q
    exact ⟨q0, q1, qP, va_K.moved (u := U) (U := U.calling g mk a) (Vm.Alike.refl U.vm) qK, qD, hE _ _ U (U.calling g mk a) _ _ (Vm.Alike.refl U.vm) (Or.inr rfl) (fun _ _ h => h) (Nat.le_refl _) (fun _ _ _ => rfl) qE⟩
  · exact hE A _ s U s.heap U.heap hW.alike (Or.inl hW) (fun q _ h => hF q h) (by rw [hU]; exact hS.1) (fun q h1 h2 => by rw [hU]; exact hS.2.1 q h1 h2) hE1
  · obtain ⟨hP1, hK1, hD1⟩ := hB
    rw [ht] at hP1
    obtain ⟨hP2, hD2⟩ := va_join hP hD isC isR hC hR2 hnR hdis hk1 hF hP1 hD1
    exact K u hw1 H1 locs1 ls hP2 hD2 hS1 hl
theorem gp_callVIN (G : gk_G p s m args meth c own nL cc ret Ts D tys A) {post : S → Prop} {wo : S → va_W} {y : MethodName} {bytes : ByteArray} {maxL idx mc1 ms1 : Nat} {b : Nat}  {rt : Option FieldType} {ws ws' : List Cond} {rm : Room} {As : List Value} {wc wr : va_W} {E : (Nat → Prop) → State → Heap → Prop} {st0 : List Value}
    (hM : gk_V l y ws rm D tys E (.ref b :: As) wc mc1 ms1 post wo) (hT : GoodIn Ts ws) (hw : ws = Cond.code y bytes maxL none :: ws') (n : Nat) (hini : (Cond.initialized y.cls).before args s = true) {host : String} (hl1 : va_Nw (.methodLinkNest own idx y host) s) (hin : (Cond.instanceMethod y).before args s = true) (hy1 : y.name = "<init>") (hd : y.cls ≠ "java/lang/invoke/MethodHandle" ∧ y.cls ≠ "java/lang/invoke/VarHandle" ∧ (parseMethodDescriptor y.desc).map (fun d => d.parameters.length) = some n) (hrc : rm.cells = mc1) (hrs : rm.slots = ms1) (hR : rm.frames + 1 ≤ R.frames ∧ 8 + (maxL + 11) + rm.locals ≤ R.locals) (hn : As.length = n) 
    (hE : gk_Ok E) (hE1 : E A s s.heap) (hp : w.Perm (wr ++ wc)) (hst : st0 = As.reverse ++ .ref b :: st) (hroom : (st.map fun v => v.category).sum ≤ 8) (d : decode cc pc = .ok (.invokespecial idx, 3)) (hcs : cells + mc1 ≤ R.cells ∧ slots + ms1 ≤ R.slots)
    (K : ∀ (u : S), post u → gk_C p l e R s m args below meth c nL D A Q (cells + mc1) (slots + ms1) (wr ++ wo u) lv (pc + 3) (st)) : gk_C p l e R s m args below meth c nL D A Q cells slots w lv pc st0 :=
  gk_perm hp (gk_callVIN (rt := rt) G hM hT hw n hini hl1 hin hy1 hd hrc hrs hR hn hE hE1 _ (gk_isC wr wc) (gk_ndC _ _) _ (gk_isR wr wc) (gk_ndR _) (gk_dis _ _) hst hroom d hcs K)
end GB
/-- the private constructor, called by its nest mate -/
def gp_NM : (Nat → Prop) → State → Heap → Prop := fun _ U _ => va_Nw (.methodLinkNest RL 75 yX2_init "GustMillLaw") U
theorem gp_nm_ok : gk_Ok gp_NM := by
  intro A B u U H H1 _ hor _ _ _ h
  rcases hor with hW | e
  · exact va_Nw.warmM hW h
  · exact va_Nw.same (by decide +kernel) e.symm h
/-- all that the law knows besides its world -/
def gp_L (b L : Nat) (xs : Nat → Int32) : (Nat → Prop) → State → Heap → Prop := fun A U H => (gn_E A U H ∧ gp_AO A U H) ∧ (gp_X b L xs A U H ∧ gp_NM A U H)
theorem gp_l_ok (b L : Nat) (xs : Nat → Int32) : gk_Ok (gp_L b L xs) := gp_and_ok (gp_and_ok gn_ok gp_ao_ok) (gp_and_ok (gp_x_ok b L xs) gp_nm_ok)
/-- both mills are the store's -/
def gp_both (v : gp_Q) (u : gw_U) (M : gm_M) (h c : Nat) : Prop := gm_wf M ∧ gm_rest M ∧ gc_rep u.1.1 u.1.2 M ∧ gp_ok v M ∧ M 9 0 ≤ h ∧ M 13 0 ≤ c
theorem gp_both_post {v : gp_Q} {u : gw_U} {M M' : gm_M} {h c : Nat} (h0 : M 9 0 ≤ h) (c0 : M 13 0 ≤ c) (hp : gp_post M v u M') : gp_both v u M' (h + 60) (c + 240) :=
  ⟨hp.1, hp.2.1, hp.2.2.1, hp.2.2.2.1, by have := hp.2.2.2.2.1; omega, by have := hp.2.2.2.2.2; omega⟩
theorem gm_new_wf : gm_wf gm_new := by
  refine ⟨by decide, by decide, by decide, by decide, fun i _ => ?_, fun i h => absurd h (Nat.not_lt_zero i), fun i h => absurd h (Nat.not_lt_zero i), fun i j h => absurd h (Nat.not_lt_zero i)⟩
  show (if (0 : Nat) = 0 then 5 else 0) ≤ 20
  decide
theorem gm_new_rest : gm_rest gm_new := fun i h => absurd h (Nat.not_lt_zero i)
set_option maxRecDepth 100000 in
set_option maxHeartbeats 2000000 in
theorem c3_build (l : Launch) (D : va_G) (cI cZ cJ : ClassId) (g h1 h2 : Nat) (q1 q2 : Nat → Nat) (u : gw_U) (b L : Nat) (xs : Nat → Int32) (hr : gc_rep u.1.1 u.1.2 gm_new) (hL : L ≤ 260) : gk_R l yL_build wsL_build ({ frames := 6, cells := 5644, slots := 56420, locals := 148 } : Room) D (g_T cI cZ cJ) (gp_L b L xs) [.ref g, .ref b] (gw_X cI cZ g h1 h2 q1 q2 u) 5644 56420 (fun (u : (gp_Q × gw_U × gm_M)) => gp_both u.1 u.2.1 u.2.2 2820 11280) (fun u ra => (gw_X cI cZ g h1 h2 q1 q2 u.2.1 ++ gp_U cI cJ ra u.1)) := by
  refine gk_R_of (rt := (.object "GustMillLaw$Sim")) (cc := cL_build) (nL := 5) (Or.inl ⟨_, rfl⟩) (by decide +kernel) rfl (Nat.le_of_ble_eq_true rfl) ?_
  intro p e s m below meth c A Q hnm hE G RET
  have hinX2 : ∀ w ∈ wsX20, w ∈ wsL_build := fun w h9 => (List.mem_cons_of_mem _ (List.mem_append_left _ (List.mem_append_left _ (List.mem_append_left _ (List.mem_append_left _ (List.mem_append_left _ (List.mem_append_right _ h9)))))))
  refine gk_new (T := TX2) (N := 8) (ci := 2) (fs := [.int 0, .int 0, .int 0, .int 0, .int 0, .null, .null, .null]) G hinX2 (ty := tyX2) tyX2_ok (G.2.2.2.2.1 (.classLink RL 10 RX2) (List.mem_cons_of_mem _ (List.mem_append_left _ (List.mem_append_left _ (List.mem_append_left _ (List.mem_append_left _ (List.mem_append_left _ (List.mem_append_left _ (List.mem_append_left _ (List.mem_of_getElem? (i := 0) rfl)))))))))) (G.2.2.2.2.1 (.instantiable RX2 8) (List.mem_cons_of_mem _ (List.mem_append_left _ (List.mem_append_left _ (List.mem_append_left _ (List.mem_append_left _ (List.mem_append_left _ (List.mem_append_left _ (List.mem_append_left _ (List.mem_of_getElem? (i := 1) rfl)))))))))) (G.2.2.2.2.1 (.initialized RX2) (List.mem_cons_of_mem _ (List.mem_append_left _ (List.mem_append_left _ (List.mem_append_left _ (List.mem_append_left _ (List.mem_append_left _ (List.mem_append_left _ (List.mem_append_left _ (List.mem_of_getElem? (i := 2) rfl)))))))))) rfl (by decide +kernel) (Nat.le_of_ble_eq_true rfl) (Nat.le_of_ble_eq_true rfl) dL_build_0 (fun a => ?_)
  refine gk_dup G dL_build_3 rfl ?_
  refine gp_callVIN (rt := none) (wr := gw_X cI cZ g h1 h2 q1 q2 u) G (c2_init l D cI cZ cJ a) gL_build_X2_init_n75 rfl 0 (G.2.2.2.2.1 (.initialized RX2) (List.mem_cons_of_mem _ (List.mem_append_left _ (List.mem_append_left _ (List.mem_append_left _ (List.mem_append_left _ (List.mem_append_left _ (List.mem_append_left _ (List.mem_append_left _ (List.mem_of_getElem? (i := 2) rfl)))))))))) hE.2.2 (G.2.2.2.2.1 (.instanceMethod yX2_init) (List.mem_cons_of_mem _ (List.mem_append_left _ (List.mem_append_left _ (List.mem_append_left _ (List.mem_append_left _ (List.mem_append_left _ (List.mem_append_left _ (List.mem_append_left _ (List.mem_of_getElem? (i := 3) rfl)))))))))) rfl (by decide +kernel) rfl rfl ⟨(Nat.le_of_ble_eq_true rfl), (Nat.le_of_ble_eq_true rfl)⟩ rfl gp_ao_ok hE.1.2 (List.Perm.refl _) rfl (Nat.le_of_ble_eq_true rfl) dL_build_4 ⟨(Nat.le_of_ble_eq_true rfl), (Nat.le_of_ble_eq_true rfl)⟩ (fun v0 hv0 => ?_)
  show gk_C p l e ({ frames := 6, cells := 5644, slots := 56420, locals := 148 } : Room) s m ([.ref g, .ref b] : List Value).toArray below meth c 5 D A Q 4 20 (gw_X cI cZ g h1 h2 q1 q2 u ++ (gp_U cI cJ a v0)) [(0, .ref g), (1, .ref b)] 7 [.ref a]
  have hb40 := gp_bel_lt (gp_cel L xs 0) (show 0 < 40 by decide)
  have L25 : ∀ (n : Nat) (k : Nat) (v1 : gp_Q) (u1 : gw_U) (M1 : gm_M), 48 - k < n → (k ≤ 47) → (gp_both v1 u1 M1 (60 * k) (240 * k)) → gk_C p l e ({ frames := 6, cells := 5644, slots := 56420, locals := 148 } : Room) s m ([.ref g, .ref b] : List Value).toArray below meth c 5 D A Q (4 + 120 * k) (20 + 1200 * k) (gw_X cI cZ g h1 h2 q1 q2 u1 ++ (gp_U cI cJ a v1)) [(0, .ref g), (1, .ref b), (2, .ref a), (3, .int (nI (8 + gp_bel (gp_cel L xs 0) 40))), (4, .int (nI k))] 25 [] := by
    intro n
    induction n with
    | zero => intro k v1 u1 M1 h0; exact absurd h0 (Nat.not_lt_zero _)
    | succ n ih =>
      intro k v1 u1 M1 h0 w0 w1
      refine gk_iload G dL_build_25 4 rfl ?_
      refine gk_iload_n G dL_build_27 3 rfl ?_
      refine gk_icmp_ge (tgt := 71) G dL_build_28 (by decide) (fun c_28 => ?_) (fun c_28 => ?_)
      · replace c_28 := (nI_leI (a := 8 + gp_bel (gp_cel L xs 0) 40) (b := k) (by omega) (by omega)).mp c_28
        refine gk_aload_n G dL_build_71 2 rfl ?_
        exact RET _ _ _ _ _ _ (v1, u1, M1) [] dL_build_72 ⟨w1.1, w1.2.1, w1.2.2.1, w1.2.2.2.1, by have := w1.2.2.2.2.1; show M1 9 0 ≤ 2820; omega, by have := w1.2.2.2.2.2; show M1 13 0 ≤ 11280; omega⟩ (gk_pnil _) (by omega) (by omega)
      · replace c_28 := (not_congr (nI_leI (a := 8 + gp_bel (gp_cel L xs 0) 40) (b := k) (by omega) (by omega))).mp c_28
        refine gk_aload_n G dL_build_31 0 rfl ?_
        refine gk_aload_n G dL_build_32 2 rfl ?_
        refine gk_aload_n G dL_build_33 1 rfl ?_
        refine gk_iload G dL_build_34 4 rfl ?_
        refine gk_bipush (v := nI 16) G dL_build_36 (by decide) ?_
        refine gk_irem (v := nI (k % 16)) G dL_build_38 (by decide) (pk_rem (by omega) (by decide) (by decide)) ?_
        refine gp_cell (k := (k % 16)) G gL_build_L_cell hE.2.1 hL (by omega) ⟨(Nat.le_of_ble_eq_true rfl), (Nat.le_of_ble_eq_true rfl)⟩ ⟨by show (4 + 120 * k) ≤ 5644; omega, by show (20 + 1200 * k) ≤ 56420; omega⟩ (Nat.le_of_ble_eq_true rfl) dL_build_39 ?_
        show gk_C p l e ({ frames := 6, cells := 5644, slots := 56420, locals := 148 } : Room) s m ([.ref g, .ref b] : List Value).toArray below meth c 5 D A Q (4 + 120 * k) (20 + 1200 * k) (gw_X cI cZ g h1 h2 q1 q2 u1 ++ (gp_U cI cJ a v1)) [(0, .ref g), (1, .ref b), (2, .ref a), (3, .int (nI (8 + gp_bel (gp_cel L xs 0) 40))), (4, .int (nI k))] 42 [.int (gp_cel L xs (k % 16)), .ref a, .ref g]
        refine gk_iload G dL_build_42 4 rfl ?_
        refine gk_bipush (v := nI 16) G dL_build_44 (by decide) ?_
        refine gk_idiv (v := nI (k / 16)) G dL_build_46 (by decide) (pk_div (by omega) (by decide) (by decide)) ?_
        refine gk_iconst (v := nI 3) G dL_build_47 (by decide) ?_
        refine gk_imul (v := nI ((k / 16) * 3)) G dL_build_48 (pk_mul (k / 16) 3) ?_
        refine gk_ishr (v := (gp_cel L xs (k % 16)) >>> ((nI ((k / 16) * 3)) &&& 31)) G dL_build_49 rfl ?_
        refine gk_sipush (v := nI 733) G dL_build_50 (by decide) ?_
        refine gk_iload G dL_build_53 4 rfl ?_
        refine gk_imul (v := nI (733 * k)) G dL_build_55 (pk_mul 733 k) ?_
        refine gk_iadd (v := ((gp_cel L xs (k % 16)) >>> ((nI ((k / 16) * 3)) &&& 31)) + (nI (733 * k))) G dL_build_56 rfl ?_
        refine gp_callIS (wr := []) G (c3_act l D cI cZ cJ g h1 h2 q1 q2 u1 a v1.1 v1.2.1 v1.2.2.1 v1.2.2.2.1 v1.2.2.2.2.1 v1.2.2.2.2.2.1 v1.2.2.2.2.2.2.1 v1.2.2.2.2.2.2.2.1 v1.2.2.2.2.2.2.2.2.1 v1.2.2.2.2.2.2.2.2.2.1 v1.2.2.2.2.2.2.2.2.2.2 M1 (((gp_cel L xs (k % 16)) >>> ((nI ((k / 16) * 3)) &&& 31)) + (nI (733 * k))) w1.1 w1.2.1 w1.2.2.1 w1.2.2.2.1.1 w1.2.2.2.1.2.1 w1.2.2.2.1.2.2.1 w1.2.2.2.1.2.2.2.1 w1.2.2.2.1.2.2.2.2 (by have := w1.2.2.2.2.1; omega)) gL_build_L_act rfl 3 (by decide +kernel) rfl rfl ⟨(Nat.le_of_ble_eq_true rfl), (Nat.le_of_ble_eq_true rfl)⟩ rfl (gp_and_ok gn_ok gp_ao_ok) hE.1 (List.Perm.refl _) rfl (Nat.le_of_ble_eq_true rfl) dL_build_57 ⟨by show 4 + 120 * k + 120 ≤ 5644; omega, by show 20 + 1200 * k + 1200 ≤ 56420; omega⟩ (fun r57 w57 hp57 => ?_)
        obtain ⟨v57, u57, M57⟩ := w57
        rw [show r57 = nI 1 from hp57.1]
        have b57 := gp_both_post w1.2.2.2.2.1 w1.2.2.2.2.2 hp57.2
        show gk_C p l e ({ frames := 6, cells := 5644, slots := 56420, locals := 148 } : Room) s m ([.ref g, .ref b] : List Value).toArray below meth c 5 D A Q (4 + 120 * k + 120) (20 + 1200 * k + 1200) (gw_X cI cZ g h1 h2 q1 q2 u57 ++ (gp_U cI cJ a v57)) [(0, .ref g), (1, .ref b), (2, .ref a), (3, .int (nI (8 + gp_bel (gp_cel L xs 0) 40))), (4, .int (nI k))] 60 [.int (nI 1)]
        refine gk_if_ne (tgt := 65) G dL_build_60 (by decide) (fun c_60 => ?_) (fun c_60 => ?_)
        · replace c_60 := (not_congr (nI_eq (a := 1) (b := 0) (by omega) (by omega))).mp c_60
          refine gk_iinc (j := 4) (v := nI (k + 1)) (lv' := [(4, .int (nI (k + 1))), (0, .ref g), (1, .ref b), (2, .ref a), (3, .int (nI (8 + gp_bel (gp_cel L xs 0) 40)))]) G dL_build_65 rfl (nI_add k 1) (by decide) rfl ?_
          refine gk_goto (tgt := 25) G dL_build_68 (by decide) ?_
          exact gk_lsub [1,2,3,4,0] rfl (ih (k + 1) v57 u57 M57 (by omega) (by omega) b57)
        · replace c_60 := (nI_eq (a := 1) (b := 0) (by omega) (by omega)).mp c_60
          exact absurd c_60 (by decide)
  refine gk_astore_n (lv' := [(2, .ref a), (0, .ref g), (1, .ref b)]) G dL_build_7 rfl (by decide) rfl ?_
  refine gk_bipush (v := nI 8) G dL_build_8 (by decide) ?_
  refine gk_aload_n G dL_build_10 2 rfl ?_
  refine gk_iconst (v := nI 0) G dL_build_11 (by decide) ?_
  refine gp_cell (k := 0) G gL_build_L_cell hE.2.1 hL (by omega) ⟨(Nat.le_of_ble_eq_true rfl), (Nat.le_of_ble_eq_true rfl)⟩ ⟨by show 4 ≤ 5644; omega, by show 20 ≤ 56420; omega⟩ (Nat.le_of_ble_eq_true rfl) dL_build_12 ?_
  show gk_C p l e ({ frames := 6, cells := 5644, slots := 56420, locals := 148 } : Room) s m ([.ref g, .ref b] : List Value).toArray below meth c 5 D A Q 4 20 (gw_X cI cZ g h1 h2 q1 q2 u ++ (gp_U cI cJ a v0)) [(2, .ref a), (0, .ref g), (1, .ref b)] 15 [.int (gp_cel L xs 0), .int (nI 8)]
  refine gk_bipush (v := nI 40) G dL_build_15 (by decide) ?_
  refine gp_below (n := 40) (v := (gp_cel L xs 0)) G gL_build_L_below ⟨(Nat.le_of_ble_eq_true rfl), (Nat.le_of_ble_eq_true rfl)⟩ ⟨by show 4 ≤ 5644; omega, by show 20 ≤ 56420; omega⟩ (by omega) (by omega) (Nat.le_of_ble_eq_true rfl) dL_build_17 ?_
  show gk_C p l e ({ frames := 6, cells := 5644, slots := 56420, locals := 148 } : Room) s m ([.ref g, .ref b] : List Value).toArray below meth c 5 D A Q 4 20 (gw_X cI cZ g h1 h2 q1 q2 u ++ (gp_U cI cJ a v0)) [(2, .ref a), (0, .ref g), (1, .ref b)] 20 [.int (nI (gp_bel (gp_cel L xs 0) 40)), .int (nI 8)]
  refine gk_iadd (v := nI (8 + (gp_bel (gp_cel L xs 0) 40))) G dL_build_20 (nI_add 8 (gp_bel (gp_cel L xs 0) 40)) ?_
  refine gk_istore_n (lv' := [(3, .int (nI (8 + (gp_bel (gp_cel L xs 0) 40)))), (2, .ref a), (0, .ref g), (1, .ref b)]) G dL_build_21 rfl (by decide) rfl ?_
  refine gk_iconst (v := nI 0) G dL_build_22 (by decide) ?_
  refine gk_istore (lv' := [(4, .int (nI 0)), (3, .int (nI (8 + (gp_bel (gp_cel L xs 0) 40)))), (2, .ref a), (0, .ref g), (1, .ref b)]) G dL_build_23 (by decide) rfl ?_
  exact gk_lsub [3,4,2,1,0] rfl (L25 49 0 v0 u gm_new (by omega) (by omega) ⟨gm_new_wf, gm_new_rest, hr, hv0, by decide, by decide⟩)
