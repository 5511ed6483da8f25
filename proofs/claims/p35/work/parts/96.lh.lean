set_option maxRecDepth 100000 in
set_option maxHeartbeats 4000000 in
theorem ll_start {p : Program} {l : Launch} {e : Env} {s : State} {m : MethodId} {below : List Frame} {meth : Method} {c : Code} {D : va_G} {A : Nat → Prop} {Q : State → Prop} {cI cZ cJ : ClassId} {b L : Nat} {xs : Nat → Int32} (G : gk_G p s m ([.ref b] : List Value).toArray meth c RL 23 cL_law (some .boolean) wsL_law D (g_T cI cZ cJ) A) (hE : gp_L b L xs A s s.heap) (hL : L ≤ 260) (END : ∀ (cells slots : Nat) (w : va_W) (lv : List (Nat × Value)), cells ≤ 600130 → slots ≤ 7301080 → gk_C p l e room_1 s m ([.ref b] : List Value).toArray below meth c 23 D A Q cells slots w lv 1026 [.int (nI 1)]) : gk_C p l e room_1 s m ([.ref b] : List Value).toArray below meth c 23 D A Q 0 0 ([] : va_W) [(0, .ref b)] 0 [] := by
  have hinX1 : ∀ w ∈ wsX10, w ∈ wsL_law := fun w h9 => (List.mem_append_left _ (List.mem_append_left _ (List.mem_append_left _ (List.mem_append_left _ (List.mem_append_left _ (List.mem_append_left _ (List.mem_append_right _ h9)))))))
  refine gk_new (T := TX1) (N := 2) (ci := 1) (fs := [.null, .null]) G hinX1 (ty := tyX1) tyX1_ok (G.2.2.2.2.1 (.classLink RL 29 RX1) (List.mem_append_left _ (List.mem_append_left _ (List.mem_append_left _ (List.mem_append_left _ (List.mem_append_left _ (List.mem_append_left _ (List.mem_append_left _ (List.mem_append_left _ (List.mem_of_getElem? (i := 0) rfl)))))))))) (G.2.2.2.2.1 (.instantiable RX1 2) (List.mem_append_left _ (List.mem_append_left _ (List.mem_append_left _ (List.mem_append_left _ (List.mem_append_left _ (List.mem_append_left _ (List.mem_append_left _ (List.mem_append_left _ (List.mem_of_getElem? (i := 1) rfl)))))))))) (G.2.2.2.2.1 (.initialized RX1) (List.mem_append_left _ (List.mem_append_left _ (List.mem_append_left _ (List.mem_append_left _ (List.mem_append_left _ (List.mem_append_left _ (List.mem_append_left _ (List.mem_append_left _ (List.mem_of_getElem? (i := 2) rfl)))))))))) rfl (by decide +kernel) (Nat.le_of_ble_eq_true rfl) (Nat.le_of_ble_eq_true rfl) dL_law_0 (fun g => ?_)
  refine gk_dup G dL_law_3 rfl ?_
  refine gp_callVI (rt := none) (wr := []) G (c1_init l D cI cZ cJ g) gL_law_X1_init rfl 0 (G.2.2.2.2.1 (.initialized RX1) (List.mem_append_left _ (List.mem_append_left _ (List.mem_append_left _ (List.mem_append_left _ (List.mem_append_left _ (List.mem_append_left _ (List.mem_append_left _ (List.mem_append_left _ (List.mem_of_getElem? (i := 2) rfl)))))))))) (G.2.2.2.2.1 (.methodLink RL 84 yX1_init) (List.mem_append_left _ (List.mem_append_left _ (List.mem_append_left _ (List.mem_append_left _ (List.mem_append_left _ (List.mem_append_left _ (List.mem_append_left _ (List.mem_append_left _ (List.mem_of_getElem? (i := 5) rfl)))))))))) (G.2.2.2.2.1 (.instanceMethod yX1_init) (List.mem_append_left _ (List.mem_append_left _ (List.mem_append_left _ (List.mem_append_left _ (List.mem_append_left _ (List.mem_append_left _ (List.mem_append_left _ (List.mem_append_left _ (List.mem_of_getElem? (i := 6) rfl)))))))))) rfl (by decide +kernel) rfl rfl ⟨(Nat.le_of_ble_eq_true rfl), (Nat.le_of_ble_eq_true rfl)⟩ rfl gk_ok0 trivial (List.Perm.refl _) rfl (Nat.le_of_ble_eq_true rfl) dL_law_4 ⟨(Nat.le_of_ble_eq_true rfl), (Nat.le_of_ble_eq_true rfl)⟩ (fun u4 hp4 => ?_)
  obtain ⟨h1, h2, q1, q2, u0⟩ := u4
  have hr : gc_rep u0.1.1 u0.1.2 gm_new := hp4
  show gk_C p l e room_1 s m ([.ref b] : List Value).toArray below meth c 23 D A Q 21 242 (gw_X cI cZ g h1 h2 q1 q2 u0) [(0, .ref b)] 7 [.ref g]
  refine gk_astore_n (lv' := [(1, .ref g), (0, .ref b)]) G dL_law_7 rfl (by decide) rfl ?_
  refine gk_aload_n G dL_law_8 0 rfl ?_
  refine gk_aload_n G dL_law_9 1 rfl ?_
  refine gp_callRS (wr := []) G (c3_build l D cI cZ cJ g h1 h2 q1 q2 u0 b L xs hr hL) gL_law_L_build rfl 2 (by decide +kernel) rfl rfl ⟨(Nat.le_of_ble_eq_true rfl), (Nat.le_of_ble_eq_true rfl)⟩ rfl (gp_l_ok b L xs) hE (List.Perm.refl _) rfl (Nat.le_of_ble_eq_true rfl) dL_law_10 ⟨(Nat.le_of_ble_eq_true rfl), (Nat.le_of_ble_eq_true rfl)⟩ (fun w10 a hp10 => ?_)
  obtain ⟨v, u, M⟩ := w10
  have hb : gp_both v u M 2820 11280 := hp10
  show gk_C p l e room_1 s m ([.ref b] : List Value).toArray below meth c 23 D A Q 5665 56662 (gw_X cI cZ g h1 h2 q1 q2 u ++ gp_U cI cJ a v) [(1, .ref g), (0, .ref b)] 13 [.ref a]
  refine gk_astore_n (lv' := [(2, .ref a), (1, .ref g), (0, .ref b)]) G dL_law_13 rfl (by decide) rfl ?_
  refine gk_aload_n G dL_law_14 0 rfl ?_
  refine gk_ifnonnull (tgt := 20) G dL_law_15 (by decide) ?_
  refine gk_iconst (v := nI 0) G dL_law_20 (by decide) ?_
  refine gk_istore_n (lv' := [(3, .int (nI 0)), (2, .ref a), (1, .ref g), (0, .ref b)]) G dL_law_21 rfl (by decide) rfl ?_
  exact gk_lsub [3, 2, 1, 0] rfl (ll_loop G hE hL END v u M hb)
theorem gl_ws : ∀ w ∈ gn_ws, w ∈ lw_tbl := by decide +kernel
theorem gl_nm : Cond.methodLinkNest RL 75 yX2_init "GustMillLaw" ∈ lw_tbl := by decide +kernel
theorem gl_ao : Cond.arrayOver (.array .int) ∈ lw_tbl := by decide +kernel
theorem gl_arr {s : State} {args : Array Value} {ty : FieldType} (hp : ∀ C : String, ty ≠ .object C) (h : (Cond.arrayClass ty).before args s = true) : ∃ cA : ClassId, ArrOfT s cA ty ∧ va_RA s cA ty := by
  obtain ⟨cA, kA, comp, h1, h2, h3⟩ := Cond.arrayClass_spec h
  refine ⟨cA, fun n z => ⟨fun k h => (by cases h), kA, h2, comp, h3⟩, ?_⟩
  cases ty with
  | object C => exact absurd rfl (hp C)
  | _ => exact h1
theorem gl_arrA {s : State} {args : Array Value} (h : (Cond.arrayOver (.array .int)).before args s = true) : ∃ cA : ClassId, ArrOfT s cA (.array .int) ∧ va_RA s cA (.array .int) := by
  obtain ⟨comp, cA, kA, h1, h2, h3, h4, h5⟩ := arrayOverA_spec h
  exact ⟨cA, fun n z => ⟨fun k h => (by cases h), kA, h3, comp, h4⟩, h5⟩
theorem gl_E {p : Program} {s : State} {m : MethodId} {meth : Method} {c : Code} {b L : Nat} {xs : Nat → Int32} (C0 : lw_At p s m meth c b L xs) : gp_L b L xs (fun q : Nat => s.heap.size ≤ q) s s.heap := by
  obtain ⟨hx, hb, hr, hml, hown, hts, hX, hbl, hlocks, hgv⟩ := id C0
  exact ⟨⟨fun w hw => va_Nw.of (gn_tabs w hw) (hts w (gl_ws w hw)), hts _ gl_ao⟩, ⟨hX, Nat.not_le.mpr hbl, hbl⟩, va_Nw.of (by decide +kernel) (hts _ gl_nm)⟩
set_option maxRecDepth 100000 in
set_option maxHeartbeats 4000000 in
theorem whole_start {p : Program} {e : Env} {s : State} {m : MethodId} {below : List Frame} {meth : Method} {c : Code} (l : Launch) (hflags : l.flags = flags0) {b L : Nat} {xs : Nat → Int32} (hL : L ≤ 260) (C0 : lw_At p s m meth c b L xs) : W p l e room_1 s m #[Value.ref b] below meth c s.heap [] 0 0 (lw_Z below #[Value.ref b] s) (entryFrame m ([Value.ref b] : List Value).toArray 23) := by
  refine W.base ?_
  have hd0 := Drawn.sameBut.refl s.drawn lw_cs
  obtain ⟨hx, hb, hr, hml, hown, hts, hX, hbl, hlocks, hgv⟩ := id C0
  obtain ⟨cI, i1, i2⟩ := gl_arr (ty := .int) (fun C h => by cases h) (hts _ (wsL_law_in _ (show (.arrayClass .int : Cond) ∈ wsL_law from (List.mem_append_left _ (List.mem_append_left _ (List.mem_append_left _ (List.mem_append_left _ (List.mem_append_left _ (List.mem_append_left _ (List.mem_append_left _ (List.mem_append_left _ (List.mem_of_getElem? (i := 4) rfl))))))))))))
  obtain ⟨cZ, z1, z2⟩ := gl_arr (ty := .boolean) (fun C h => by cases h) (hts _ (wsL_law_in _ (show (.arrayClass .boolean : Cond) ∈ wsL_law from (List.mem_append_left _ (List.mem_append_left _ (List.mem_append_left _ (List.mem_append_left _ (List.mem_append_left _ (List.mem_append_left _ (List.mem_append_left _ (List.mem_append_left _ (List.mem_of_getElem? (i := 3) rfl))))))))))))
  obtain ⟨cJ, j1, j2⟩ := gl_arrA (hts _ gl_ao)
  obtain ⟨c0, iS0, hKn0⟩ := u_known (C := RX0) (T := TX0) (N := 16) (n := 16) hts inX0 (hts _ (wsL_law_in _ (show (.instantiable RX0 16 : Cond) ∈ wsL_law from (List.mem_append_left _ (List.mem_append_left _ (List.mem_append_left _ (List.mem_append_left _ (List.mem_append_left _ (List.mem_append_left _ (List.mem_append_left _ (List.mem_append_left _ (List.mem_of_getElem? (i := 12) rfl))))))))))))
  obtain ⟨c1, iS1, hKn1⟩ := u_known (C := RX1) (T := TX1) (N := 2) (n := 2) hts inX1 (hts _ (wsL_law_in _ (show (.instantiable RX1 2 : Cond) ∈ wsL_law from (List.mem_append_left _ (List.mem_append_left _ (List.mem_append_left _ (List.mem_append_left _ (List.mem_append_left _ (List.mem_append_left _ (List.mem_append_left _ (List.mem_append_left _ (List.mem_of_getElem? (i := 1) rfl))))))))))))
  obtain ⟨c2, iS2, hKn2⟩ := u_known (C := RX2) (T := TX2) (N := 8) (n := 8) hts inX2 (hts _ (wsL_law_in _ (show (.instantiable RX2 8 : Cond) ∈ wsL_law from (List.mem_append_left _ (List.mem_append_left _ (List.mem_append_left _ (List.mem_append_left _ (List.mem_append_left _ (List.mem_append_left _ (List.mem_append_left _ (List.mem_append_right _ (List.mem_append_left _ (List.mem_of_getElem? (i := 17) rfl)))))))))))))
  obtain ⟨D, hKc⟩ : ∃ D : va_G, ∀ (k : Nat) (q : vw_C), vwCl[k]? = some q → u_Kn s q.1 q.2.1 q.2.2 (D.1 k) (D.2 k) := by
    refine ⟨(fun k => if k = 0 then c0 else if k = 1 then c1 else c2, fun k => if k = 0 then iS0 else if k = 1 then iS1 else iS2), ?_⟩
    intro k q hq
    match k, hq with
    | 0, hq => cases hq; exact hKn0
    | 1, hq => cases hq; exact hKn1
    | 2, hq => cases hq; exact hKn2
    | k + 3, hq => simp [vwCl] at hq
  have hK : va_K D vwCl (g_T cI cZ cJ) s := by
    refine ⟨hKc, ?_⟩
    intro k q hq
    match k, hq with
    | 0, hq => cases hq; exact ⟨i1, i2⟩
    | 1, hq => cases hq; exact ⟨z1, z2⟩
    | 2, hq => cases hq; exact ⟨j1, j2⟩
    | k + 3, hq => simp [g_T] at hq
  have hA : ∀ q : Nat, s.heap.size ≤ q → (fun q : Nat => s.heap.size ≤ q) q := fun _ h => h
  have G : gk_G p s m #[Value.ref b] meth c RL 23 cL_law (some .boolean) wsL_law D (g_T cI cZ cJ) (fun q : Nat => s.heap.size ≤ q) := ⟨hx, hb, hml, hown, fun w h => hts w (wsL_law_in w h), hK, hA, hr, hlocks⟩
  have END : ∀ (cells slots : Nat) (w : va_W) (lv : List (Nat × Value)), cells ≤ 600130 → slots ≤ 7301080 → gk_C p l e room_1 s m #[Value.ref b] below meth c 23 D (fun q : Nat => s.heap.size ≤ q) (lw_Z below #[Value.ref b] s) cells slots w lv 1026 [.int (nI 1)] := by
    intro cells slots w lv h1 h2
    refine gk_steq (st' := [.int 1]) (congrArg (fun z => [Value.int z]) (by decide)) ?_
    intro H locs ls hP hD hS hl
    refine va_forget (fun q hq => hS.2.2 q hq) ?_
    refine W.widen (k := 600130) (n := 7301080) (by omega) (by omega) ?_
    exact lw_ret hd0 hx hb hr hlocks dL_law_1026
  have hP : va_P D vwCl [] s.heap := fun k q h => by simp at h
  have hD : va_D (fun q : Nat => s.heap.size ≤ q) [] := ⟨fun i j p q h => by simp at h, fun k q h => by simp at h⟩
  have hl := lv_entry ([.ref b]) (n := 23) (Nat.le_of_ble_eq_true rfl)
  rw [lg_entry_eq]
  exact ll_start G (gl_E C0) hL END s.heap [] _ hP hD va_S.rf hl
