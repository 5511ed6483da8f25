theorem gp_les_inc (X : gm_M) (s a : Nat) : gm_les (gm_inc X) s a = gm_inc (gm_les X s a) := by
  funext k i
  by_cases h9 : k = 9
  · subst h9
    rw [gm_les_ne _ _ _ _ (by decide) (by decide)]
    unfold gm_inc
    by_cases hi : i = 0
    · subst hi; rw [gm_set_at, gm_set_at, gm_les_ne _ _ _ _ (by decide) (by decide)]
    · rw [gm_set_i _ _ hi, gm_set_i _ _ hi, gm_les_ne _ _ _ _ (by decide) (by decide)]
  · rw [gm_inc_ne _ _ h9]
    unfold gm_les
    rw [gm_inc_ne X s (k := 5) (by decide), gm_inc_ne X 0 (k := 16) (by decide)]
    by_cases a1 : k = 16 ∧ i = 0
    · obtain ⟨rfl, rfl⟩ := a1; rw [gm_set_at, gm_set_at]
    · rw [gm_set_ne _ a1, gm_set_ne _ a1]
      by_cases a2 : k = 5 ∧ i = s
      · obtain ⟨rfl, rfl⟩ := a2; rw [gm_set_at, gm_set_at]
      · rw [gm_set_ne _ a2, gm_set_ne _ a2, gm_inc_ne _ _ h9]
theorem gp_gs_inc (b : Nat) (X : gm_M) (m : Nat) : gm_gs b (gm_inc X) m = gm_inc (gm_gs b X m) := by
  have ew : gm_who (gm_inc X) m (gm_inc X 11 0) = gm_who X m (X 11 0) := by
    rw [gm_inc_ne X 0 (by decide)]
    exact gm_who_congr _ (fun k _ => gm_inc_ne X k (by decide))
  by_cases h : gm_who X m (X 11 0) = 0
  · rw [gm_gs_0 h, gm_gs_0 (by rw [ew]; exact h)]
  · rw [gm_gs_1 h, gm_gs_1 (by rw [ew]; exact h), ew, gp_les_inc]
    unfold gm_amt
    rw [gm_inc_ne X m (k := 1) (by decide), gm_inc_ne X m (k := 3) (by decide), gm_inc_ne X _ (k := 5) (by decide), gm_inc_ne X 0 (k := 16) (by decide)]
theorem gp_grd_inc (b : Nat) (X : gm_M) : ∀ k : Nat, gm_grd b (gm_inc X) k = gm_inc (gm_grd b X k)
  | 0 => rfl
  | k + 1 => by
    show gm_gs b (gm_grd b (gm_inc X) k) k = gm_inc (gm_gs b (gm_grd b X k) k)
    rw [gp_grd_inc b X k, gp_gs_inc]
set_option maxRecDepth 100000 in
set_option maxHeartbeats 2000000 in
theorem sp_3 {p : Program} {l : Launch} {e : Env} {s : State} {m : MethodId} {below : List Frame} {meth : Method} {c : Code} {D : va_G} {A : Nat → Prop} {Q : State → Prop} {cI cZ cJ : ClassId} {a : Nat} {q : Nat → Nat} {F W0 : Nat → Int32} {nm nk : Nat} {fS fK : Nat → Option Nat} {Sx Kx : Nat → Nat} {T V : Nat → Nat → Int32} {M : gm_M}  (G : gk_G p s m ([.ref a] : List Value).toArray meth c RX2 9 cX2_pass none wsX2_pass D (g_T cI cZ cJ) A) (o ls : Nat) (fo fl : Nat → Int32) (hr : gp_rep F W0 T V (gm_h1 M)) (hfl : ∀ i, i < nm → fl i = nI (gm_h1 M 3 i)) (wf : gm_wf M) (hm : M 10 0 = nm) (hk : M 11 0 = nk) (hfS : gp_rows fS Sx nm) (hfK : gp_rows fK Kx nk) (hh : M 9 0 < 2000000) (K : ∀ (F1 : Nat → Int32) (V1 : Nat → Nat → Int32), gp_rep F1 W0 T V1 (gm_inc (gm_h2 M)) → gk_C p l e ({ frames := 1, cells := 2, slots := 20, locals := 25 } : Room) s m ([.ref a] : List Value).toArray below meth c 9 D A Q 2 20 (gw_R cI ls nm fl ++ (gw_R cI o (gp_un M nk) fo ++ (gp_W cI cJ a q F1 W0 nm nk fS fK Sx Kx T V1))) [(0, .ref a)] 348 []) : gk_C p l e ({ frames := 1, cells := 2, slots := 20, locals := 25 } : Room) s m ([.ref a] : List Value).toArray below meth c 9 D A Q 2 20 (gw_R cI ls nm fl ++ (gw_R cI o (gp_un M nk) fo ++ (gp_W cI cJ a q F W0 nm nk fS fK Sx Kx T V))) [(0, .ref a), (2, .int (nI (gm_wnd M))), (3, .ref ls)] 223 [] := by
  obtain ⟨hz1, hz2, hz3, hz4, hz5, hz6, hz7, hz8⟩ := id wf
  have hwnd : gm_wnd M ≤ 20 := hz5 _ (Nat.mod_lt _ (by decide))
  have hinX2 : ∀ w ∈ wsX20, w ∈ wsX2_pass := fun w h9 => (List.mem_cons_of_mem _ (List.mem_append_right _ h9))
  have k14 := G.2.2.2.2.1 (.fieldLink RX2 14 "GustMillLaw$Sim" "stones" "[[I") (List.mem_cons_of_mem _ (List.mem_append_left _ (List.mem_of_getElem? (i := 0) rfl)))
  have k18 := G.2.2.2.2.1 (.fieldLink RX2 18 "GustMillLaw$Sim" "sacks" "[[I") (List.mem_cons_of_mem _ (List.mem_append_left _ (List.mem_of_getElem? (i := 6) rfl)))
  have k33 := G.2.2.2.2.1 (.fieldLink RX2 33 "GustMillLaw$Sim" "hour" "I") (List.mem_cons_of_mem _ (List.mem_append_left _ (List.mem_of_getElem? (i := 3) rfl)))
  have k43 := G.2.2.2.2.1 (.fieldLink RX2 43 "GustMillLaw$Sim" "milled" "I") (List.mem_cons_of_mem _ (List.mem_append_left _ (List.mem_of_getElem? (i := 7) rfl)))
  have L236 : ∀ (n : Nat) (k : Nat) (F1 : Nat → Int32) (V1 : Nat → Nat → Int32), nm - k < n → (k ≤ nm) → (gp_rep F1 W0 T V1 (gm_grd (M 16 0 + gm_wnd M) (gm_inc (gm_h1 M)) k)) → gk_C p l e ({ frames := 1, cells := 2, slots := 20, locals := 25 } : Room) s m ([.ref a] : List Value).toArray below meth c 9 D A Q 2 20 (gw_R cI ls nm fl ++ (gw_R cI o (gp_un M nk) fo ++ (gp_W cI cJ a q F1 W0 nm nk fS fK Sx Kx T V1))) [(0, .ref a), (2, .int (nI ((M 16 0 + gm_wnd M) - (gm_grd (M 16 0 + gm_wnd M) (gm_inc (gm_h1 M)) k) 16 0))), (3, .ref ls), (5, .int (nI k))] 236 [] := by
    intro n
    induction n with
    | zero => intro k F1 V1 h0; exact absurd h0 (Nat.not_lt_zero _)
    | succ n ih =>
      intro k F1 V1 h0 w0 w1
      refine gk_iload G dX2_pass_236 3 rfl ?_
      refine gk_aload_n G dX2_pass_238 0 rfl ?_
      refine gk_get (v' := .ref (q 1)) G hinX2 (q0 := 2) rfl rfl 6 (by decide) k14 rfl rfl dX2_pass_239 ?_
      refine gk_alen (v := nI nm) G (q0 := 4) (t0 := 2) rfl rfl rfl dX2_pass_242 ?_
      refine gk_icmp_ge (tgt := 348) G dX2_pass_243 (by decide) (fun c_243 => ?_) (fun c_243 => ?_)
      · replace c_243 := (nI_leI (a := nm) (b := k) (by omega) (by omega)).mp c_243
        have ek : (gm_grd (M 16 0 + gm_wnd M) (gm_inc (gm_h1 M)) k) = gm_inc (gm_h2 M) := by
          rw [gp_grd_inc]
          unfold gm_h2
          rw [show M 10 0 = k by omega]
        rw [ek] at w1
        exact gk_lsub [0] rfl (K F1 V1 w1)
      · replace c_243 := (not_congr (nI_leI (a := nm) (b := k) (by omega) (by omega))).mp c_243
        have z10 : (gm_grd (M 16 0 + gm_wnd M) (gm_inc (gm_h1 M)) k) 10 0 = nm := (gm_grd_ne _ _ 0 (by decide) (by decide) k).trans ((gm_inc_ne _ 0 (by decide)).trans ((gm_h1_ne M 0 (by decide) (by decide) (by decide)).trans hm))
        have z11 : (gm_grd (M 16 0 + gm_wnd M) (gm_inc (gm_h1 M)) k) 11 0 = nk := (gm_grd_ne _ _ 0 (by decide) (by decide) k).trans ((gm_inc_ne _ 0 (by decide)).trans ((gm_h1_ne M 0 (by decide) (by decide) (by decide)).trans hk))
        have z1 : (gm_grd (M 16 0 + gm_wnd M) (gm_inc (gm_h1 M)) k) 1 k = M 1 k := (gm_grd_ne _ _ k (by decide) (by decide) k).trans ((gm_inc_ne _ k (by decide)).trans (gm_h1_ne M k (by decide) (by decide) (by decide)))
        have z3 : (gm_grd (M 16 0 + gm_wnd M) (gm_inc (gm_h1 M)) k) 3 k = gm_h1 M 3 k := (gm_grd_ne _ _ k (by decide) (by decide) k).trans (gm_inc_ne _ k (by decide))
        have h16 : gm_inc (gm_h1 M) 16 0 = M 16 0 := (gm_inc_ne _ 0 (by decide)).trans (gm_h1_ne M 0 (by decide) (by decide) (by decide))
        have z16 := gm_grd_16 (M 16 0 + gm_wnd M) (gm_inc (gm_h1 M)) (by omega) k
        have wfZ : gm_wf (gm_grd (M 16 0 + gm_wnd M) (gm_inc (gm_h1 M)) k) := gm_grd_wf (gm_inc_wf (gm_h1_wf wf)) k
        have hwl := gm_who_le (gm_grd (M 16 0 + gm_wnd M) (gm_inc (gm_h1 M)) k) k ((gm_grd (M 16 0 + gm_wnd M) (gm_inc (gm_h1 M)) k) 11 0)
        have hfk : gm_h1 M 3 k ≤ 1 := gm_fil_3 (gm_tk M) (M 10 0) k (by omega)
        have h1k := hz6 k (by omega)
        refine gk_aload_n G dX2_pass_246 0 rfl ?_
        refine gk_get (v' := .ref (q 1)) G hinX2 (q0 := 2) rfl rfl 6 (by decide) k14 rfl rfl dX2_pass_247 ?_
        refine gk_iload G dX2_pass_250 3 rfl ?_
        refine gk_aald (v := Sx k) G (q0 := 4) (t0 := 2) rfl rfl k rfl (by omega) (by omega) (hfS k (by omega)) dX2_pass_252 ?_
        refine gk_iconst (v := nI 1) G dX2_pass_253 (by decide) ?_
        refine gk_iald (v := gm_e (gm_who (gm_grd (M 16 0 + gm_wnd M) (gm_inc (gm_h1 M)) k) k ((gm_grd (M 16 0 + gm_wnd M) (gm_inc (gm_h1 M)) k) 11 0))) G (q0 := (k + 4 + 1 + 1)) (t0 := 0) (gp_s1 (gp_s1 (gp_atS (by omega)))) rfl 1 rfl (by decide) (by decide) (w1.2.2.2.1 k (by omega)) dX2_pass_254 ?_
        refine gk_if_ge (tgt := 261) G dX2_pass_255 (by decide) (fun c_255 => ?_) (fun c_255 => ?_)
        · replace c_255 := (gp_e_ge (n := gm_who (gm_grd (M 16 0 + gm_wnd M) (gm_inc (gm_h1 M)) k) k ((gm_grd (M 16 0 + gm_wnd M) (gm_inc (gm_h1 M)) k) 11 0)) (by omega)).mp c_255
          have hlk := (wfZ.2.2.2.2.2.2.1 (gm_who (gm_grd (M 16 0 + gm_wnd M) (gm_inc (gm_h1 M)) k) k ((gm_grd (M 16 0 + gm_wnd M) (gm_inc (gm_h1 M)) k) 11 0) - 1) (by omega)).2.1
          have hal : gm_amt (M 16 0 + gm_wnd M) (gm_grd (M 16 0 + gm_wnd M) (gm_inc (gm_h1 M)) k) k (gm_who (gm_grd (M 16 0 + gm_wnd M) (gm_inc (gm_h1 M)) k) k ((gm_grd (M 16 0 + gm_wnd M) (gm_inc (gm_h1 M)) k) 11 0) - 1) ≤ (gm_grd (M 16 0 + gm_wnd M) (gm_inc (gm_h1 M)) k) 5 (gm_who (gm_grd (M 16 0 + gm_wnd M) (gm_inc (gm_h1 M)) k) k ((gm_grd (M 16 0 + gm_wnd M) (gm_inc (gm_h1 M)) k) 11 0) - 1) := by unfold gm_amt; omega
          have hal2 : gm_amt (M 16 0 + gm_wnd M) (gm_grd (M 16 0 + gm_wnd M) (gm_inc (gm_h1 M)) k) k (gm_who (gm_grd (M 16 0 + gm_wnd M) (gm_inc (gm_h1 M)) k) k ((gm_grd (M 16 0 + gm_wnd M) (gm_inc (gm_h1 M)) k) 11 0) - 1) ≤ (M 16 0 + gm_wnd M) - (gm_grd (M 16 0 + gm_wnd M) (gm_inc (gm_h1 M)) k) 16 0 := by unfold gm_amt; omega
          have ge : gm_grd (M 16 0 + gm_wnd M) (gm_inc (gm_h1 M)) (k + 1) = gm_les (gm_grd (M 16 0 + gm_wnd M) (gm_inc (gm_h1 M)) k) (gm_who (gm_grd (M 16 0 + gm_wnd M) (gm_inc (gm_h1 M)) k) k ((gm_grd (M 16 0 + gm_wnd M) (gm_inc (gm_h1 M)) k) 11 0) - 1) (gm_amt (M 16 0 + gm_wnd M) (gm_grd (M 16 0 + gm_wnd M) (gm_inc (gm_h1 M)) k) k (gm_who (gm_grd (M 16 0 + gm_wnd M) (gm_inc (gm_h1 M)) k) k ((gm_grd (M 16 0 + gm_wnd M) (gm_inc (gm_h1 M)) k) 11 0) - 1)) := gm_gs_1 (by omega)
          have J317 : gk_C p l e ({ frames := 1, cells := 2, slots := 20, locals := 25 } : Room) s m ([.ref a] : List Value).toArray below meth c 9 D A Q 2 20 (gw_R cI ls nm fl ++ (gw_R cI o (gp_un M nk) fo ++ (gp_W cI cJ a q F1 W0 nm nk fS fK Sx Kx T V1))) [(0, .ref a), (2, .int (nI ((M 16 0 + gm_wnd M) - (gm_grd (M 16 0 + gm_wnd M) (gm_inc (gm_h1 M)) k) 16 0))), (3, .ref ls), (5, .int (nI k)), (6, .ref (Kx (gm_who (gm_grd (M 16 0 + gm_wnd M) (gm_inc (gm_h1 M)) k) k ((gm_grd (M 16 0 + gm_wnd M) (gm_inc (gm_h1 M)) k) 11 0) - 1))), (7, .int (nI (gm_amt (M 16 0 + gm_wnd M) (gm_grd (M 16 0 + gm_wnd M) (gm_inc (gm_h1 M)) k) k (gm_who (gm_grd (M 16 0 + gm_wnd M) (gm_inc (gm_h1 M)) k) k ((gm_grd (M 16 0 + gm_wnd M) (gm_inc (gm_h1 M)) k) 11 0) - 1))))] 317 [] := by
            refine gk_aload G dX2_pass_317 4 rfl ?_
            refine gk_iconst (v := nI 1) G dX2_pass_319 (by decide) ?_
            refine gk_dup2 G dX2_pass_320 rfl rfl ?_
            refine gk_iald (v := nI ((gm_grd (M 16 0 + gm_wnd M) (gm_inc (gm_h1 M)) k) 5 (gm_who (gm_grd (M 16 0 + gm_wnd M) (gm_inc (gm_h1 M)) k) k ((gm_grd (M 16 0 + gm_wnd M) (gm_inc (gm_h1 M)) k) 11 0) - 1))) G (q0 := (nm + (gm_who (gm_grd (M 16 0 + gm_wnd M) (gm_inc (gm_h1 M)) k) k ((gm_grd (M 16 0 + gm_wnd M) (gm_inc (gm_h1 M)) k) 11 0) - 1) + 4 + 1 + 1)) (t0 := 0) (gp_s1 (gp_s1 (gp_atK (by omega)))) rfl 1 rfl (by decide) (by decide) (w1.2.2.2.2.2.1 (gm_who (gm_grd (M 16 0 + gm_wnd M) (gm_inc (gm_h1 M)) k) k ((gm_grd (M 16 0 + gm_wnd M) (gm_inc (gm_h1 M)) k) 11 0) - 1) (by omega)) dX2_pass_321 ?_
            refine gk_iload G dX2_pass_322 5 rfl ?_
            refine gk_isub (v := nI ((gm_grd (M 16 0 + gm_wnd M) (gm_inc (gm_h1 M)) k) 5 (gm_who (gm_grd (M 16 0 + gm_wnd M) (gm_inc (gm_h1 M)) k) k ((gm_grd (M 16 0 + gm_wnd M) (gm_inc (gm_h1 M)) k) 11 0) - 1) - gm_amt (M 16 0 + gm_wnd M) (gm_grd (M 16 0 + gm_wnd M) (gm_inc (gm_h1 M)) k) k (gm_who (gm_grd (M 16 0 + gm_wnd M) (gm_inc (gm_h1 M)) k) k ((gm_grd (M 16 0 + gm_wnd M) (gm_inc (gm_h1 M)) k) 11 0) - 1))) G dX2_pass_324 (pk_sub hal) ?_
            refine gk_topi (fun v325 ev325 => ?_)
            refine gk_iast (w' := (gw_R cI ls nm fl ++ (gw_R cI o (gp_un M nk) fo ++ (gp_W cI cJ a q F1 W0 nm nk fS fK Sx Kx T (gc_up V1 (gm_who (gm_grd (M 16 0 + gm_wnd M) (gm_inc (gm_h1 M)) k) k ((gm_grd (M 16 0 + gm_wnd M) (gm_inc (gm_h1 M)) k) 11 0) - 1) (upd (V1 (gm_who (gm_grd (M 16 0 + gm_wnd M) (gm_inc (gm_h1 M)) k) k ((gm_grd (M 16 0 + gm_wnd M) (gm_inc (gm_h1 M)) k) 11 0) - 1)) 1 v325)))))) G (q0 := (nm + (gm_who (gm_grd (M 16 0 + gm_wnd M) (gm_inc (gm_h1 M)) k) k ((gm_grd (M 16 0 + gm_wnd M) (gm_inc (gm_h1 M)) k) 11 0) - 1) + 4 + 1 + 1)) (t0 := 0) (gp_s1 (gp_s1 (gp_atK (by omega)))) rfl 1 rfl (by decide) (by decide) (gp_t1 (gp_t1 (gp_setK _))) dX2_pass_325 ?_
            generalize eV325 : gc_up V1 (gm_who (gm_grd (M 16 0 + gm_wnd M) (gm_inc (gm_h1 M)) k) k ((gm_grd (M 16 0 + gm_wnd M) (gm_inc (gm_h1 M)) k) 11 0) - 1) (upd (V1 (gm_who (gm_grd (M 16 0 + gm_wnd M) (gm_inc (gm_h1 M)) k) k ((gm_grd (M 16 0 + gm_wnd M) (gm_inc (gm_h1 M)) k) 11 0) - 1)) 1 v325) = V325
            refine gk_iload_n G dX2_pass_326 1 rfl ?_
            refine gk_iload G dX2_pass_327 5 rfl ?_
            refine gk_isub (v := nI ((M 16 0 + gm_wnd M) - (gm_grd (M 16 0 + gm_wnd M) (gm_inc (gm_h1 M)) k) 16 0 - gm_amt (M 16 0 + gm_wnd M) (gm_grd (M 16 0 + gm_wnd M) (gm_inc (gm_h1 M)) k) k (gm_who (gm_grd (M 16 0 + gm_wnd M) (gm_inc (gm_h1 M)) k) k ((gm_grd (M 16 0 + gm_wnd M) (gm_inc (gm_h1 M)) k) 11 0) - 1))) G dX2_pass_329 (pk_sub hal2) ?_
            refine gk_istore_n (lv' := [(2, .int (nI ((M 16 0 + gm_wnd M) - (gm_grd (M 16 0 + gm_wnd M) (gm_inc (gm_h1 M)) k) 16 0 - gm_amt (M 16 0 + gm_wnd M) (gm_grd (M 16 0 + gm_wnd M) (gm_inc (gm_h1 M)) k) k (gm_who (gm_grd (M 16 0 + gm_wnd M) (gm_inc (gm_h1 M)) k) k ((gm_grd (M 16 0 + gm_wnd M) (gm_inc (gm_h1 M)) k) 11 0) - 1)))), (0, .ref a), (3, .ref ls), (5, .int (nI k)), (6, .ref (Kx (gm_who (gm_grd (M 16 0 + gm_wnd M) (gm_inc (gm_h1 M)) k) k ((gm_grd (M 16 0 + gm_wnd M) (gm_inc (gm_h1 M)) k) 11 0) - 1))), (7, .int (nI (gm_amt (M 16 0 + gm_wnd M) (gm_grd (M 16 0 + gm_wnd M) (gm_inc (gm_h1 M)) k) k (gm_who (gm_grd (M 16 0 + gm_wnd M) (gm_inc (gm_h1 M)) k) k ((gm_grd (M 16 0 + gm_wnd M) (gm_inc (gm_h1 M)) k) 11 0) - 1))))]) G dX2_pass_330 rfl (by decide) rfl ?_
            refine gk_aload_n G dX2_pass_331 1 rfl ?_
            refine gk_dup G dX2_pass_332 rfl ?_
            refine gk_get (v' := .int (nI ((gm_grd (M 16 0 + gm_wnd M) (gm_inc (gm_h1 M)) k) 16 0))) G hinX2 (q0 := 2) rfl rfl 4 (by decide) k43 rfl (congrArg Value.int (w1.1.2.2.2.2)) dX2_pass_333 ?_
            refine gk_iload G dX2_pass_336 5 rfl ?_
            refine gk_iadd (v := nI (((gm_grd (M 16 0 + gm_wnd M) (gm_inc (gm_h1 M)) k) 16 0) + (gm_amt (M 16 0 + gm_wnd M) (gm_grd (M 16 0 + gm_wnd M) (gm_inc (gm_h1 M)) k) k (gm_who (gm_grd (M 16 0 + gm_wnd M) (gm_inc (gm_h1 M)) k) k ((gm_grd (M 16 0 + gm_wnd M) (gm_inc (gm_h1 M)) k) 11 0) - 1)))) G dX2_pass_338 (nI_add ((gm_grd (M 16 0 + gm_wnd M) (gm_inc (gm_h1 M)) k) 16 0) (gm_amt (M 16 0 + gm_wnd M) (gm_grd (M 16 0 + gm_wnd M) (gm_inc (gm_h1 M)) k) k (gm_who (gm_grd (M 16 0 + gm_wnd M) (gm_inc (gm_h1 M)) k) k ((gm_grd (M 16 0 + gm_wnd M) (gm_inc (gm_h1 M)) k) 11 0) - 1))) ?_
            refine gk_topi (fun v339 ev339 => ?_)
            refine gk_put (w' := (gw_R cI ls nm fl ++ (gw_R cI o (gp_un M nk) fo ++ (gp_W cI cJ a q (upd F1 4 v339) W0 nm nk fS fK Sx Kx T V325)))) G hinX2 tyX2_ok nmX2 (q0 := 2) rfl rfl 4 (by decide) k43 rfl rfl rfl (Nat.le_of_ble_eq_true rfl) rfl dX2_pass_339 ?_
            generalize eF339 : upd F1 4 v339 = F339
            refine gk_iinc (j := 3) (v := nI (k + 1)) (lv' := [(5, .int (nI (k + 1))), (2, .int (nI ((M 16 0 + gm_wnd M) - (gm_grd (M 16 0 + gm_wnd M) (gm_inc (gm_h1 M)) k) 16 0 - gm_amt (M 16 0 + gm_wnd M) (gm_grd (M 16 0 + gm_wnd M) (gm_inc (gm_h1 M)) k) k (gm_who (gm_grd (M 16 0 + gm_wnd M) (gm_inc (gm_h1 M)) k) k ((gm_grd (M 16 0 + gm_wnd M) (gm_inc (gm_h1 M)) k) 11 0) - 1)))), (0, .ref a), (3, .ref ls), (6, .ref (Kx (gm_who (gm_grd (M 16 0 + gm_wnd M) (gm_inc (gm_h1 M)) k) k ((gm_grd (M 16 0 + gm_wnd M) (gm_inc (gm_h1 M)) k) 11 0) - 1))), (7, .int (nI (gm_amt (M 16 0 + gm_wnd M) (gm_grd (M 16 0 + gm_wnd M) (gm_inc (gm_h1 M)) k) k (gm_who (gm_grd (M 16 0 + gm_wnd M) (gm_inc (gm_h1 M)) k) k ((gm_grd (M 16 0 + gm_wnd M) (gm_inc (gm_h1 M)) k) 11 0) - 1))))]) G dX2_pass_342 rfl (nI_add k 1) (by decide) rfl ?_
            refine gk_goto (tgt := 236) G dX2_pass_345 (by decide) ?_
            have r9 : gp_rep F339 W0 T V325 (gm_grd (M 16 0 + gm_wnd M) (gm_inc (gm_h1 M)) (k + 1)) := by rw [ge]; subst eV325; subst ev325; subst eF339; subst ev339; exact gp_rep_les w1
            have v9 : (M 16 0 + gm_wnd M) - (gm_grd (M 16 0 + gm_wnd M) (gm_inc (gm_h1 M)) k) 16 0 - gm_amt (M 16 0 + gm_wnd M) (gm_grd (M 16 0 + gm_wnd M) (gm_inc (gm_h1 M)) k) k (gm_who (gm_grd (M 16 0 + gm_wnd M) (gm_inc (gm_h1 M)) k) k ((gm_grd (M 16 0 + gm_wnd M) (gm_inc (gm_h1 M)) k) 11 0) - 1) = (M 16 0 + gm_wnd M) - gm_grd (M 16 0 + gm_wnd M) (gm_inc (gm_h1 M)) (k + 1) 16 0 := by rw [ge, gm_les_16]; omega
            have t9 := ih (k + 1) _ _ (by omega) (by omega) r9
            rw [← v9] at t9
            exact gk_lsub [2,1,3,0] rfl t9
          have J308 : gk_C p l e ({ frames := 1, cells := 2, slots := 20, locals := 25 } : Room) s m ([.ref a] : List Value).toArray below meth c 9 D A Q 2 20 (gw_R cI ls nm fl ++ (gw_R cI o (gp_un M nk) fo ++ (gp_W cI cJ a q F1 W0 nm nk fS fK Sx Kx T V1))) [(0, .ref a), (2, .int (nI ((M 16 0 + gm_wnd M) - (gm_grd (M 16 0 + gm_wnd M) (gm_inc (gm_h1 M)) k) 16 0))), (3, .ref ls), (5, .int (nI k)), (6, .ref (Kx (gm_who (gm_grd (M 16 0 + gm_wnd M) (gm_inc (gm_h1 M)) k) k ((gm_grd (M 16 0 + gm_wnd M) (gm_inc (gm_h1 M)) k) 11 0) - 1))), (7, .int (nI (min ((gm_grd (M 16 0 + gm_wnd M) (gm_inc (gm_h1 M)) k) 1 k - (gm_grd (M 16 0 + gm_wnd M) (gm_inc (gm_h1 M)) k) 3 k) ((gm_grd (M 16 0 + gm_wnd M) (gm_inc (gm_h1 M)) k) 5 (gm_who (gm_grd (M 16 0 + gm_wnd M) (gm_inc (gm_h1 M)) k) k ((gm_grd (M 16 0 + gm_wnd M) (gm_inc (gm_h1 M)) k) 11 0) - 1)))))] 308 [] := by
            refine gk_iload G dX2_pass_308 5 rfl ?_
            refine gk_iload_n G dX2_pass_310 1 rfl ?_
            refine gk_icmp_le (tgt := 317) G dX2_pass_311 (by decide) (fun c_311 => ?_) (fun c_311 => ?_)
            · replace c_311 := (nI_leI (a := min ((gm_grd (M 16 0 + gm_wnd M) (gm_inc (gm_h1 M)) k) 1 k - (gm_grd (M 16 0 + gm_wnd M) (gm_inc (gm_h1 M)) k) 3 k) ((gm_grd (M 16 0 + gm_wnd M) (gm_inc (gm_h1 M)) k) 5 (gm_who (gm_grd (M 16 0 + gm_wnd M) (gm_inc (gm_h1 M)) k) k ((gm_grd (M 16 0 + gm_wnd M) (gm_inc (gm_h1 M)) k) 11 0) - 1))) (b := (M 16 0 + gm_wnd M) - (gm_grd (M 16 0 + gm_wnd M) (gm_inc (gm_h1 M)) k) 16 0) (by omega) (by omega)).mp c_311
              have t9 := J317
              rw [show gm_amt (M 16 0 + gm_wnd M) (gm_grd (M 16 0 + gm_wnd M) (gm_inc (gm_h1 M)) k) k (gm_who (gm_grd (M 16 0 + gm_wnd M) (gm_inc (gm_h1 M)) k) k ((gm_grd (M 16 0 + gm_wnd M) (gm_inc (gm_h1 M)) k) 11 0) - 1) = min ((gm_grd (M 16 0 + gm_wnd M) (gm_inc (gm_h1 M)) k) 1 k - (gm_grd (M 16 0 + gm_wnd M) (gm_inc (gm_h1 M)) k) 3 k) ((gm_grd (M 16 0 + gm_wnd M) (gm_inc (gm_h1 M)) k) 5 (gm_who (gm_grd (M 16 0 + gm_wnd M) (gm_inc (gm_h1 M)) k) k ((gm_grd (M 16 0 + gm_wnd M) (gm_inc (gm_h1 M)) k) 11 0) - 1)) by unfold gm_amt; omega] at t9
              exact gk_lsub [0,1,2,3,4,5] rfl t9
            · replace c_311 := (not_congr (nI_leI (a := min ((gm_grd (M 16 0 + gm_wnd M) (gm_inc (gm_h1 M)) k) 1 k - (gm_grd (M 16 0 + gm_wnd M) (gm_inc (gm_h1 M)) k) 3 k) ((gm_grd (M 16 0 + gm_wnd M) (gm_inc (gm_h1 M)) k) 5 (gm_who (gm_grd (M 16 0 + gm_wnd M) (gm_inc (gm_h1 M)) k) k ((gm_grd (M 16 0 + gm_wnd M) (gm_inc (gm_h1 M)) k) 11 0) - 1))) (b := (M 16 0 + gm_wnd M) - (gm_grd (M 16 0 + gm_wnd M) (gm_inc (gm_h1 M)) k) 16 0) (by omega) (by omega))).mp c_311
              refine gk_iload_n G dX2_pass_314 1 rfl ?_
              refine gk_istore (lv' := [(7, .int (nI ((M 16 0 + gm_wnd M) - (gm_grd (M 16 0 + gm_wnd M) (gm_inc (gm_h1 M)) k) 16 0))), (0, .ref a), (2, .int (nI ((M 16 0 + gm_wnd M) - (gm_grd (M 16 0 + gm_wnd M) (gm_inc (gm_h1 M)) k) 16 0))), (3, .ref ls), (5, .int (nI k)), (6, .ref (Kx (gm_who (gm_grd (M 16 0 + gm_wnd M) (gm_inc (gm_h1 M)) k) k ((gm_grd (M 16 0 + gm_wnd M) (gm_inc (gm_h1 M)) k) 11 0) - 1)))]) G dX2_pass_315 (by decide) rfl ?_
              have t9 := J317
              rw [show gm_amt (M 16 0 + gm_wnd M) (gm_grd (M 16 0 + gm_wnd M) (gm_inc (gm_h1 M)) k) k (gm_who (gm_grd (M 16 0 + gm_wnd M) (gm_inc (gm_h1 M)) k) k ((gm_grd (M 16 0 + gm_wnd M) (gm_inc (gm_h1 M)) k) 11 0) - 1) = (M 16 0 + gm_wnd M) - (gm_grd (M 16 0 + gm_wnd M) (gm_inc (gm_h1 M)) k) 16 0 by unfold gm_amt; omega] at t9
              exact gk_lsub [1,2,3,4,5,0] rfl t9
          refine gk_aload_n G dX2_pass_261 0 rfl ?_
          refine gk_get (v' := .ref (q 2)) G hinX2 (q0 := 2) rfl rfl 7 (by decide) k18 rfl rfl dX2_pass_262 ?_
          refine gk_aload_n G dX2_pass_265 0 rfl ?_
          refine gk_get (v' := .ref (q 1)) G hinX2 (q0 := 2) rfl rfl 6 (by decide) k14 rfl rfl dX2_pass_266 ?_
          refine gk_iload G dX2_pass_269 3 rfl ?_
          refine gk_aald (v := Sx k) G (q0 := 4) (t0 := 2) rfl rfl k rfl (by omega) (by omega) (hfS k (by omega)) dX2_pass_271 ?_
          refine gk_iconst (v := nI 1) G dX2_pass_272 (by decide) ?_
          refine gk_iald (v := gm_e (gm_who (gm_grd (M 16 0 + gm_wnd M) (gm_inc (gm_h1 M)) k) k ((gm_grd (M 16 0 + gm_wnd M) (gm_inc (gm_h1 M)) k) 11 0))) G (q0 := (k + 4 + 1 + 1)) (t0 := 0) (gp_s1 (gp_s1 (gp_atS (by omega)))) rfl 1 rfl (by decide) (by decide) (w1.2.2.2.1 k (by omega)) dX2_pass_273 ?_
          refine gk_aald (v := Kx (gm_who (gm_grd (M 16 0 + gm_wnd M) (gm_inc (gm_h1 M)) k) k ((gm_grd (M 16 0 + gm_wnd M) (gm_inc (gm_h1 M)) k) 11 0) - 1)) G (q0 := 5) (t0 := 2) rfl rfl (gm_who (gm_grd (M 16 0 + gm_wnd M) (gm_inc (gm_h1 M)) k) k ((gm_grd (M 16 0 + gm_wnd M) (gm_inc (gm_h1 M)) k) 11 0) - 1) (gm_e_pred (by omega)) (by omega) (by omega) (hfK (gm_who (gm_grd (M 16 0 + gm_wnd M) (gm_inc (gm_h1 M)) k) k ((gm_grd (M 16 0 + gm_wnd M) (gm_inc (gm_h1 M)) k) 11 0) - 1) (by omega)) dX2_pass_274 ?_
          refine gk_astore (lv' := [(6, .ref (Kx (gm_who (gm_grd (M 16 0 + gm_wnd M) (gm_inc (gm_h1 M)) k) k ((gm_grd (M 16 0 + gm_wnd M) (gm_inc (gm_h1 M)) k) 11 0) - 1))), (0, .ref a), (2, .int (nI ((M 16 0 + gm_wnd M) - (gm_grd (M 16 0 + gm_wnd M) (gm_inc (gm_h1 M)) k) 16 0))), (3, .ref ls), (5, .int (nI k))]) G dX2_pass_275 (by decide) rfl ?_
          refine gk_aload_n G dX2_pass_277 1 rfl ?_
          refine gk_get (v' := .ref (q 1)) G hinX2 (q0 := 2) rfl rfl 6 (by decide) k14 rfl rfl dX2_pass_278 ?_
          refine gk_iload G dX2_pass_281 4 rfl ?_
          refine gk_aald (v := Sx k) G (q0 := 4) (t0 := 2) rfl rfl k rfl (by omega) (by omega) (hfS k (by omega)) dX2_pass_283 ?_
          refine gk_iconst (v := nI 0) G dX2_pass_284 (by decide) ?_
          refine gk_iald (v := nI ((gm_grd (M 16 0 + gm_wnd M) (gm_inc (gm_h1 M)) k) 1 k)) G (q0 := (k + 4 + 1 + 1)) (t0 := 0) (gp_s1 (gp_s1 (gp_atS (by omega)))) rfl 0 rfl (by decide) (by decide) (w1.2.2.1 k (by omega)) dX2_pass_285 ?_
          refine gk_aload_n G dX2_pass_286 3 rfl ?_
          refine gk_iload G dX2_pass_287 4 rfl ?_
          refine gk_iald (v := nI (gm_h1 M 3 k)) G (q0 := 0) (t0 := 0) rfl rfl k rfl (by omega) (by omega) (hfl k (by omega)) dX2_pass_289 ?_
          refine gk_isub (v := nI ((gm_grd (M 16 0 + gm_wnd M) (gm_inc (gm_h1 M)) k) 1 k - (gm_grd (M 16 0 + gm_wnd M) (gm_inc (gm_h1 M)) k) 3 k)) G dX2_pass_290 (by rw [z3]; exact pk_sub (by omega)) ?_
          refine gk_istore (lv' := [(7, .int (nI ((gm_grd (M 16 0 + gm_wnd M) (gm_inc (gm_h1 M)) k) 1 k - (gm_grd (M 16 0 + gm_wnd M) (gm_inc (gm_h1 M)) k) 3 k))), (6, .ref (Kx (gm_who (gm_grd (M 16 0 + gm_wnd M) (gm_inc (gm_h1 M)) k) k ((gm_grd (M 16 0 + gm_wnd M) (gm_inc (gm_h1 M)) k) 11 0) - 1))), (0, .ref a), (2, .int (nI ((M 16 0 + gm_wnd M) - (gm_grd (M 16 0 + gm_wnd M) (gm_inc (gm_h1 M)) k) 16 0))), (3, .ref ls), (5, .int (nI k))]) G dX2_pass_291 (by decide) rfl ?_
          refine gk_iload G dX2_pass_293 0 rfl ?_
          refine gk_aload G dX2_pass_295 1 rfl ?_
          refine gk_iconst (v := nI 1) G dX2_pass_297 (by decide) ?_
          refine gk_iald (v := nI ((gm_grd (M 16 0 + gm_wnd M) (gm_inc (gm_h1 M)) k) 5 (gm_who (gm_grd (M 16 0 + gm_wnd M) (gm_inc (gm_h1 M)) k) k ((gm_grd (M 16 0 + gm_wnd M) (gm_inc (gm_h1 M)) k) 11 0) - 1))) G (q0 := (nm + (gm_who (gm_grd (M 16 0 + gm_wnd M) (gm_inc (gm_h1 M)) k) k ((gm_grd (M 16 0 + gm_wnd M) (gm_inc (gm_h1 M)) k) 11 0) - 1) + 4 + 1 + 1)) (t0 := 0) (gp_s1 (gp_s1 (gp_atK (by omega)))) rfl 1 rfl (by decide) (by decide) (w1.2.2.2.2.2.1 (gm_who (gm_grd (M 16 0 + gm_wnd M) (gm_inc (gm_h1 M)) k) k ((gm_grd (M 16 0 + gm_wnd M) (gm_inc (gm_h1 M)) k) 11 0) - 1) (by omega)) dX2_pass_298 ?_
          refine gk_icmp_le (tgt := 308) G dX2_pass_299 (by decide) (fun c_299 => ?_) (fun c_299 => ?_)
          · replace c_299 := (nI_leI (a := (gm_grd (M 16 0 + gm_wnd M) (gm_inc (gm_h1 M)) k) 1 k - (gm_grd (M 16 0 + gm_wnd M) (gm_inc (gm_h1 M)) k) 3 k) (b := (gm_grd (M 16 0 + gm_wnd M) (gm_inc (gm_h1 M)) k) 5 (gm_who (gm_grd (M 16 0 + gm_wnd M) (gm_inc (gm_h1 M)) k) k ((gm_grd (M 16 0 + gm_wnd M) (gm_inc (gm_h1 M)) k) 11 0) - 1)) (by omega) (by omega)).mp c_299
            have t9 := J308
            rw [show min ((gm_grd (M 16 0 + gm_wnd M) (gm_inc (gm_h1 M)) k) 1 k - (gm_grd (M 16 0 + gm_wnd M) (gm_inc (gm_h1 M)) k) 3 k) ((gm_grd (M 16 0 + gm_wnd M) (gm_inc (gm_h1 M)) k) 5 (gm_who (gm_grd (M 16 0 + gm_wnd M) (gm_inc (gm_h1 M)) k) k ((gm_grd (M 16 0 + gm_wnd M) (gm_inc (gm_h1 M)) k) 11 0) - 1)) = (gm_grd (M 16 0 + gm_wnd M) (gm_inc (gm_h1 M)) k) 1 k - (gm_grd (M 16 0 + gm_wnd M) (gm_inc (gm_h1 M)) k) 3 k by omega] at t9
            exact gk_lsub [2,3,4,5,1,0] rfl t9
          · replace c_299 := (not_congr (nI_leI (a := (gm_grd (M 16 0 + gm_wnd M) (gm_inc (gm_h1 M)) k) 1 k - (gm_grd (M 16 0 + gm_wnd M) (gm_inc (gm_h1 M)) k) 3 k) (b := (gm_grd (M 16 0 + gm_wnd M) (gm_inc (gm_h1 M)) k) 5 (gm_who (gm_grd (M 16 0 + gm_wnd M) (gm_inc (gm_h1 M)) k) k ((gm_grd (M 16 0 + gm_wnd M) (gm_inc (gm_h1 M)) k) 11 0) - 1)) (by omega) (by omega))).mp c_299
            refine gk_aload G dX2_pass_302 1 rfl ?_
            refine gk_iconst (v := nI 1) G dX2_pass_304 (by decide) ?_
            refine gk_iald (v := nI ((gm_grd (M 16 0 + gm_wnd M) (gm_inc (gm_h1 M)) k) 5 (gm_who (gm_grd (M 16 0 + gm_wnd M) (gm_inc (gm_h1 M)) k) k ((gm_grd (M 16 0 + gm_wnd M) (gm_inc (gm_h1 M)) k) 11 0) - 1))) G (q0 := (nm + (gm_who (gm_grd (M 16 0 + gm_wnd M) (gm_inc (gm_h1 M)) k) k ((gm_grd (M 16 0 + gm_wnd M) (gm_inc (gm_h1 M)) k) 11 0) - 1) + 4 + 1 + 1)) (t0 := 0) (gp_s1 (gp_s1 (gp_atK (by omega)))) rfl 1 rfl (by decide) (by decide) (w1.2.2.2.2.2.1 (gm_who (gm_grd (M 16 0 + gm_wnd M) (gm_inc (gm_h1 M)) k) k ((gm_grd (M 16 0 + gm_wnd M) (gm_inc (gm_h1 M)) k) 11 0) - 1) (by omega)) dX2_pass_305 ?_
            refine gk_istore (lv' := [(7, .int (nI ((gm_grd (M 16 0 + gm_wnd M) (gm_inc (gm_h1 M)) k) 5 (gm_who (gm_grd (M 16 0 + gm_wnd M) (gm_inc (gm_h1 M)) k) k ((gm_grd (M 16 0 + gm_wnd M) (gm_inc (gm_h1 M)) k) 11 0) - 1)))), (6, .ref (Kx (gm_who (gm_grd (M 16 0 + gm_wnd M) (gm_inc (gm_h1 M)) k) k ((gm_grd (M 16 0 + gm_wnd M) (gm_inc (gm_h1 M)) k) 11 0) - 1))), (0, .ref a), (2, .int (nI ((M 16 0 + gm_wnd M) - (gm_grd (M 16 0 + gm_wnd M) (gm_inc (gm_h1 M)) k) 16 0))), (3, .ref ls), (5, .int (nI k))]) G dX2_pass_306 (by decide) rfl ?_
            have t9 := J308
            rw [show min ((gm_grd (M 16 0 + gm_wnd M) (gm_inc (gm_h1 M)) k) 1 k - (gm_grd (M 16 0 + gm_wnd M) (gm_inc (gm_h1 M)) k) 3 k) ((gm_grd (M 16 0 + gm_wnd M) (gm_inc (gm_h1 M)) k) 5 (gm_who (gm_grd (M 16 0 + gm_wnd M) (gm_inc (gm_h1 M)) k) k ((gm_grd (M 16 0 + gm_wnd M) (gm_inc (gm_h1 M)) k) 11 0) - 1)) = (gm_grd (M 16 0 + gm_wnd M) (gm_inc (gm_h1 M)) k) 5 (gm_who (gm_grd (M 16 0 + gm_wnd M) (gm_inc (gm_h1 M)) k) k ((gm_grd (M 16 0 + gm_wnd M) (gm_inc (gm_h1 M)) k) 11 0) - 1) by omega] at t9
            exact gk_lsub [2,3,4,5,1,0] rfl t9
        · replace c_255 := (not_congr (gp_e_ge (n := gm_who (gm_grd (M 16 0 + gm_wnd M) (gm_inc (gm_h1 M)) k) k ((gm_grd (M 16 0 + gm_wnd M) (gm_inc (gm_h1 M)) k) 11 0)) (by omega))).mp c_255
          have ge : gm_grd (M 16 0 + gm_wnd M) (gm_inc (gm_h1 M)) (k + 1) = (gm_grd (M 16 0 + gm_wnd M) (gm_inc (gm_h1 M)) k) := gm_gs_0 (by omega)
          refine gk_goto (tgt := 342) G dX2_pass_258 (by decide) ?_
          refine gk_iinc (j := 3) (v := nI (k + 1)) (lv' := [(5, .int (nI (k + 1))), (0, .ref a), (2, .int (nI ((M 16 0 + gm_wnd M) - (gm_grd (M 16 0 + gm_wnd M) (gm_inc (gm_h1 M)) k) 16 0))), (3, .ref ls)]) G dX2_pass_342 rfl (nI_add k 1) (by decide) rfl ?_
          refine gk_goto (tgt := 236) G dX2_pass_345 (by decide) ?_
          rw [← ge] at w1
          have t9 := ih (k + 1) F1 V1 (by omega) (by omega) w1
          rw [ge] at t9
          exact gk_lsub [1,2,3,0] rfl t9
  refine gk_aload_n G dX2_pass_223 0 rfl ?_
  refine gk_dup G dX2_pass_224 rfl ?_
  refine gk_get (v' := .int (nI ((gm_h1 M) 9 0))) G hinX2 (q0 := 2) rfl rfl 0 (by decide) k33 rfl (congrArg Value.int (hr.1.1)) dX2_pass_225 ?_
  refine gk_iconst (v := nI 1) G dX2_pass_228 (by decide) ?_
  refine gk_iadd (v := nI (((gm_h1 M) 9 0) + 1)) G dX2_pass_229 (nI_add ((gm_h1 M) 9 0) 1) ?_
  refine gk_topi (fun v230 ev230 => ?_)
  refine gk_put (w' := (gw_R cI ls nm fl ++ (gw_R cI o (gp_un M nk) fo ++ (gp_W cI cJ a q (upd F 0 v230) W0 nm nk fS fK Sx Kx T V)))) G hinX2 tyX2_ok nmX2 (q0 := 2) rfl rfl 0 (by decide) k33 rfl rfl rfl (Nat.le_of_ble_eq_true rfl) rfl dX2_pass_230 ?_
  generalize eF230 : upd F 0 v230 = F230
  refine gk_iconst (v := nI 0) G dX2_pass_233 (by decide) ?_
  refine gk_istore (lv' := [(5, .int (nI 0)), (0, .ref a), (2, .int (nI (gm_wnd M))), (3, .ref ls)]) G dX2_pass_234 (by decide) rfl ?_
  have h16 : gm_inc (gm_h1 M) 16 0 = M 16 0 := (gm_inc_ne _ 0 (by decide)).trans (gm_h1_ne M 0 (by decide) (by decide) (by decide))
  have r9 : gp_rep F230 W0 T V (gm_inc (gm_h1 M)) := by subst eF230; subst ev230; exact gp_rep_inc hr
  have t9 := L236 (nm + 1) 0 _ _ (by omega) (Nat.zero_le _) r9
  rw [show (M 16 0 + gm_wnd M) - gm_grd (M 16 0 + gm_wnd M) (gm_inc (gm_h1 M)) 0 16 0 = gm_wnd M by show (M 16 0 + gm_wnd M) - gm_inc (gm_h1 M) 16 0 = gm_wnd M; omega] at t9
  exact gk_lsub [1,2,3,0] rfl t9
