theorem gk_pd3 (A B C : va_W) : (A ++ (B ++ C)).Perm (C ++ (A ++ B)) := by rw [← List.append_assoc]; exact List.perm_append_comm
set_option maxRecDepth 100000 in
set_option maxHeartbeats 2000000 in
theorem sp_4 {p : Program} {l : Launch} {e : Env} {s : State} {m : MethodId} {below : List Frame} {meth : Method} {c : Code} {D : va_G} {A : Nat → Prop} {Q : State → Prop} {cI cZ cJ : ClassId} {a : Nat} {q : Nat → Nat} {F W0 : Nat → Int32} {nm nk : Nat} {fS fK : Nat → Option Nat} {Sx Kx : Nat → Nat} {T V : Nat → Nat → Int32} {M : gm_M}  (G : gk_G p s m ([.ref a] : List Value).toArray meth c RX2 9 cX2_pass none wsX2_pass D (g_T cI cZ cJ) A) (o ls : Nat) (fo fl : Nat → Int32) (hr : gp_rep F W0 T V (gm_inc (gm_h2 M))) (wf : gm_wf M) (hm : M 10 0 = nm) (hk : M 11 0 = nk) (hfS : gp_rows fS Sx nm) (hfK : gp_rows fK Kx nk) (hh : M 9 0 < 2000000) (K : ∀ T1 V1 : Nat → Nat → Int32, gp_rep F W0 T1 V1 (gm_hour M) → gk_C p l e ({ frames := 1, cells := 2, slots := 20, locals := 25 } : Room) s m ([.ref a] : List Value).toArray below meth c 9 D A Q 2 20 (gp_W cI cJ a q F W0 nm nk fS fK Sx Kx T1 V1) [(0, .ref a)] 426 []) : gk_C p l e ({ frames := 1, cells := 2, slots := 20, locals := 25 } : Room) s m ([.ref a] : List Value).toArray below meth c 9 D A Q 2 20 (gw_R cI ls nm fl ++ (gw_R cI o (gp_un M nk) fo ++ (gp_W cI cJ a q F W0 nm nk fS fK Sx Kx T V))) [(0, .ref a)] 348 [] := by
  obtain ⟨hz1, hz2, hz3, hz4, hz5, hz6, hz7, hz8⟩ := id wf
  have x10 : (gm_inc (gm_h2 M)) 10 0 = nm := (gm_inc_ne _ 0 (by decide)).trans ((gm_h2_ne M 0 (by decide) (by decide) (by decide) (by decide) (by decide)).trans hm)
  have x11 : (gm_inc (gm_h2 M)) 11 0 = nk := (gm_inc_ne _ 0 (by decide)).trans ((gm_h2_ne M 0 (by decide) (by decide) (by decide) (by decide) (by decide)).trans hk)
  have wfX : gm_wf (gm_inc (gm_h2 M)) := gm_inc_wf (gm_h2_wf wf)
  have hinX2 : ∀ w ∈ wsX20, w ∈ wsX2_pass := fun w h9 => (List.mem_cons_of_mem _ (List.mem_append_right _ h9))
  have k14 := G.2.2.2.2.1 (.fieldLink RX2 14 "GustMillLaw$Sim" "stones" "[[I") (List.mem_cons_of_mem _ (List.mem_append_left _ (List.mem_of_getElem? (i := 0) rfl)))
  have k18 := G.2.2.2.2.1 (.fieldLink RX2 18 "GustMillLaw$Sim" "sacks" "[[I") (List.mem_cons_of_mem _ (List.mem_append_left _ (List.mem_of_getElem? (i := 6) rfl)))
  have k33 := G.2.2.2.2.1 (.fieldLink RX2 33 "GustMillLaw$Sim" "hour" "I") (List.mem_cons_of_mem _ (List.mem_append_left _ (List.mem_of_getElem? (i := 3) rfl)))
  have L362 : ∀ (n : Nat) (k : Nat) (T1 V1 : Nat → Nat → Int32), nm - k < n → (k ≤ nm) → (gp_rep F W0 T1 V1 (gm_fnc (gm_inc (gm_h2 M)) k)) → gk_C p l e ({ frames := 1, cells := 2, slots := 20, locals := 25 } : Room) s m ([.ref a] : List Value).toArray below meth c 9 D A Q 2 20 (gw_R cI ls nm fl ++ (gw_R cI o (gp_un M nk) fo ++ (gp_W cI cJ a q F W0 nm nk fS fK Sx Kx T1 V1))) [(0, .ref a), (5, .ref (q 1)), (6, .int (nI nm)), (7, .int (nI k))] 362 [] := by
    intro n
    induction n with
    | zero => intro k T1 V1 h0; exact absurd h0 (Nat.not_lt_zero _)
    | succ n ih =>
      intro k T1 V1 h0 w0 w1
      refine gk_iload G dX2_pass_362 3 rfl ?_
      refine gk_iload G dX2_pass_364 2 rfl ?_
      refine gk_icmp_ge (tgt := 426) G dX2_pass_366 (by decide) (fun c_366 => ?_) (fun c_366 => ?_)
      · replace c_366 := (nI_leI (a := nm) (b := k) (by omega) (by omega)).mp c_366
        refine gk_lsub (lv' := [(0, .ref a)]) [0] rfl ?_
        refine gk_drop (w' := (gp_W cI cJ a q F W0 nm nk fS fK Sx Kx T1 V1)) (r := gw_R cI ls nm fl ++ gw_R cI o (gp_un M nk) fo) (gk_pd3 _ _ _) ?_
        exact K T1 V1 (by rw [← gm_hour_eq]; exact gp_rep_same w1 (by rw [show k = (gm_inc (gm_h2 M)) 10 0 by omega]; exact gm_fnc_all (fun i hi => (wfX.2.2.2.2.2.2.1 i hi).2.2.2.2.1)))
      · replace c_366 := (not_congr (nI_leI (a := nm) (b := k) (by omega) (by omega))).mp c_366
        have z10 : (gm_fnc (gm_inc (gm_h2 M)) k) 10 0 = nm := (gm_fnc_ne _ k 0 (by decide) (by decide)).trans x10
        have z11 : (gm_fnc (gm_inc (gm_h2 M)) k) 11 0 = nk := (gm_fnc_ne _ k 0 (by decide) (by decide)).trans x11
        have z9 : (gm_fnc (gm_inc (gm_h2 M)) k) 9 0 = (gm_inc (gm_h2 M)) 9 0 := gm_fnc_ne _ k 0 (by decide) (by decide)
        have hwl := gm_who_le (gm_fnc (gm_inc (gm_h2 M)) k) k ((gm_fnc (gm_inc (gm_h2 M)) k) 11 0)
        have ew : gm_who (gm_fnc (gm_inc (gm_h2 M)) k) k ((gm_fnc (gm_inc (gm_h2 M)) k) 11 0) = gm_who (gm_inc (gm_h2 M)) k ((gm_inc (gm_h2 M)) 11 0) := by rw [z11, gm_fnc_who, x11]
        refine gk_aload G dX2_pass_369 1 rfl ?_
        refine gk_iload G dX2_pass_371 3 rfl ?_
        refine gk_aald (v := Sx k) G (q0 := 4) (t0 := 2) rfl rfl k rfl (by omega) (by omega) (hfS k (by omega)) dX2_pass_373 ?_
        refine gk_astore (lv' := [(8, .ref (Sx k)), (0, .ref a), (5, .ref (q 1)), (6, .int (nI nm)), (7, .int (nI k))]) G dX2_pass_374 (by decide) rfl ?_
        refine gk_aload G dX2_pass_376 0 rfl ?_
        refine gk_iconst (v := nI 1) G dX2_pass_378 (by decide) ?_
        refine gk_iald (v := gm_e (gm_who (gm_fnc (gm_inc (gm_h2 M)) k) k ((gm_fnc (gm_inc (gm_h2 M)) k) 11 0))) G (q0 := (k + 4 + 1 + 1)) (t0 := 0) (gp_s1 (gp_s1 (gp_atS (by omega)))) rfl 1 rfl (by decide) (by decide) (w1.2.2.2.1 k (by omega)) dX2_pass_379 ?_
        refine gk_if_lt (tgt := 420) G dX2_pass_380 (by decide) (fun c_380 => ?_) (fun c_380 => ?_)
        · replace c_380 := (gp_e_lt (n := gm_who (gm_fnc (gm_inc (gm_h2 M)) k) k ((gm_fnc (gm_inc (gm_h2 M)) k) 11 0)) (by omega)).mp c_380
          have hsame := gm_fnc_skip (X := (gm_inc (gm_h2 M))) (m := k) (fun i hi h7 => absurd h7 (gm_who_no _ (show gm_who (gm_inc (gm_h2 M)) k ((gm_inc (gm_h2 M)) 11 0) = 0 by omega) i hi))
          refine gk_iinc (j := 4) (v := nI (k + 1)) (lv' := [(7, .int (nI (k + 1))), (8, .ref (Sx k)), (0, .ref a), (5, .ref (q 1)), (6, .int (nI nm))]) G dX2_pass_420 rfl (nI_add k 1) (by decide) rfl ?_
          refine gk_goto (tgt := 362) G dX2_pass_423 (by decide) ?_
          exact gk_lsub [2,3,4,0] rfl (ih (k + 1) T1 V1 (by omega) (by omega) (gp_rep_same w1 hsame))
        · replace c_380 := (not_congr (gp_e_lt (n := gm_who (gm_fnc (gm_inc (gm_h2 M)) k) k ((gm_fnc (gm_inc (gm_h2 M)) k) 11 0)) (by omega))).mp c_380
          have hon := gm_who_on (M := (gm_inc (gm_h2 M))) (m := k) ((gm_inc (gm_h2 M)) 11 0) (by omega)
          have only : ∀ i, i < (gm_inc (gm_h2 M)) 11 0 → (gm_inc (gm_h2 M)) 7 i = k + 1 → i = (gm_who (gm_fnc (gm_inc (gm_h2 M)) k) k ((gm_fnc (gm_inc (gm_h2 M)) k) 11 0) - 1) := fun i hi h7 => by rw [ew]; exact gm_wf_ap wfX i _ hi (by omega) (by rw [h7, hon]) (by omega)
          have e5 : (gm_fnc (gm_inc (gm_h2 M)) k) 5 (gm_who (gm_fnc (gm_inc (gm_h2 M)) k) k ((gm_fnc (gm_inc (gm_h2 M)) k) 11 0) - 1) = (gm_inc (gm_h2 M)) 5 (gm_who (gm_fnc (gm_inc (gm_h2 M)) k) k ((gm_fnc (gm_inc (gm_h2 M)) k) 11 0) - 1) := gm_fnc_ne _ k _ (by decide) (by decide)
          have hlk := (wfX.2.2.2.2.2.2.1 (gm_who (gm_fnc (gm_inc (gm_h2 M)) k) k ((gm_fnc (gm_inc (gm_h2 M)) k) 11 0) - 1) (by omega)).2.1
          refine gk_aload_n G dX2_pass_383 1 rfl ?_
          refine gk_get (v' := .ref (q 2)) G hinX2 (q0 := 2) rfl rfl 7 (by decide) k18 rfl rfl dX2_pass_384 ?_
          refine gk_aload G dX2_pass_387 0 rfl ?_
          refine gk_iconst (v := nI 1) G dX2_pass_389 (by decide) ?_
          refine gk_iald (v := gm_e (gm_who (gm_fnc (gm_inc (gm_h2 M)) k) k ((gm_fnc (gm_inc (gm_h2 M)) k) 11 0))) G (q0 := (k + 4 + 1 + 1)) (t0 := 0) (gp_s1 (gp_s1 (gp_atS (by omega)))) rfl 1 rfl (by decide) (by decide) (w1.2.2.2.1 k (by omega)) dX2_pass_390 ?_
          refine gk_aald (v := Kx (gm_who (gm_fnc (gm_inc (gm_h2 M)) k) k ((gm_fnc (gm_inc (gm_h2 M)) k) 11 0) - 1)) G (q0 := 5) (t0 := 2) rfl rfl (gm_who (gm_fnc (gm_inc (gm_h2 M)) k) k ((gm_fnc (gm_inc (gm_h2 M)) k) 11 0) - 1) (gm_e_pred (by omega)) (by omega) (by omega) (hfK (gm_who (gm_fnc (gm_inc (gm_h2 M)) k) k ((gm_fnc (gm_inc (gm_h2 M)) k) 11 0) - 1) (by omega)) dX2_pass_391 ?_
          refine gk_iconst (v := nI 1) G dX2_pass_392 (by decide) ?_
          refine gk_iald (v := nI ((gm_fnc (gm_inc (gm_h2 M)) k) 5 (gm_who (gm_fnc (gm_inc (gm_h2 M)) k) k ((gm_fnc (gm_inc (gm_h2 M)) k) 11 0) - 1))) G (q0 := (nm + (gm_who (gm_fnc (gm_inc (gm_h2 M)) k) k ((gm_fnc (gm_inc (gm_h2 M)) k) 11 0) - 1) + 4 + 1 + 1)) (t0 := 0) (gp_s1 (gp_s1 (gp_atK (by omega)))) rfl 1 rfl (by decide) (by decide) (w1.2.2.2.2.2.1 (gm_who (gm_fnc (gm_inc (gm_h2 M)) k) k ((gm_fnc (gm_inc (gm_h2 M)) k) 11 0) - 1) (by omega)) dX2_pass_393 ?_
          refine gk_if_le (tgt := 400) G dX2_pass_394 (by decide) (fun c_394 => ?_) (fun c_394 => ?_)
          · replace c_394 := (nI_leI (a := (gm_fnc (gm_inc (gm_h2 M)) k) 5 (gm_who (gm_fnc (gm_inc (gm_h2 M)) k) k ((gm_fnc (gm_inc (gm_h2 M)) k) 11 0) - 1)) (b := 0) (by omega) (by omega)).mp c_394
            refine gk_aload_n G dX2_pass_400 1 rfl ?_
            refine gk_get (v' := .ref (q 2)) G hinX2 (q0 := 2) rfl rfl 7 (by decide) k18 rfl rfl dX2_pass_401 ?_
            refine gk_aload G dX2_pass_404 0 rfl ?_
            refine gk_iconst (v := nI 1) G dX2_pass_406 (by decide) ?_
            refine gk_iald (v := gm_e (gm_who (gm_fnc (gm_inc (gm_h2 M)) k) k ((gm_fnc (gm_inc (gm_h2 M)) k) 11 0))) G (q0 := (k + 4 + 1 + 1)) (t0 := 0) (gp_s1 (gp_s1 (gp_atS (by omega)))) rfl 1 rfl (by decide) (by decide) (w1.2.2.2.1 k (by omega)) dX2_pass_407 ?_
            refine gk_aald (v := Kx (gm_who (gm_fnc (gm_inc (gm_h2 M)) k) k ((gm_fnc (gm_inc (gm_h2 M)) k) 11 0) - 1)) G (q0 := 5) (t0 := 2) rfl rfl (gm_who (gm_fnc (gm_inc (gm_h2 M)) k) k ((gm_fnc (gm_inc (gm_h2 M)) k) 11 0) - 1) (gm_e_pred (by omega)) (by omega) (by omega) (hfK (gm_who (gm_fnc (gm_inc (gm_h2 M)) k) k ((gm_fnc (gm_inc (gm_h2 M)) k) 11 0) - 1) (by omega)) dX2_pass_408 ?_
            refine gk_iconst (v := nI 3) G dX2_pass_409 (by decide) ?_
            refine gk_aload_n G dX2_pass_410 1 rfl ?_
            refine gk_get (v' := .int (nI ((gm_fnc (gm_inc (gm_h2 M)) k) 9 0))) G hinX2 (q0 := 2) rfl rfl 0 (by decide) k33 rfl (congrArg Value.int (w1.1.1)) dX2_pass_411 ?_
            refine gk_topi (fun v414 ev414 => ?_)
            refine gk_iast (w' := (gw_R cI ls nm fl ++ (gw_R cI o (gp_un M nk) fo ++ (gp_W cI cJ a q F W0 nm nk fS fK Sx Kx T1 (gc_up V1 (gm_who (gm_fnc (gm_inc (gm_h2 M)) k) k ((gm_fnc (gm_inc (gm_h2 M)) k) 11 0) - 1) (upd (V1 (gm_who (gm_fnc (gm_inc (gm_h2 M)) k) k ((gm_fnc (gm_inc (gm_h2 M)) k) 11 0) - 1)) 3 v414)))))) G (q0 := (nm + (gm_who (gm_fnc (gm_inc (gm_h2 M)) k) k ((gm_fnc (gm_inc (gm_h2 M)) k) 11 0) - 1) + 4 + 1 + 1)) (t0 := 0) (gp_s1 (gp_s1 (gp_atK (by omega)))) rfl 3 rfl (by decide) (by decide) (gp_t1 (gp_t1 (gp_setK _))) dX2_pass_414 ?_
            generalize eV414 : gc_up V1 (gm_who (gm_fnc (gm_inc (gm_h2 M)) k) k ((gm_fnc (gm_inc (gm_h2 M)) k) 11 0) - 1) (upd (V1 (gm_who (gm_fnc (gm_inc (gm_h2 M)) k) k ((gm_fnc (gm_inc (gm_h2 M)) k) 11 0) - 1)) 3 v414) = V414
            refine gk_aload G dX2_pass_415 0 rfl ?_
            refine gk_iconst (v := nI 1) G dX2_pass_417 (by decide) ?_
            refine gk_iconst (v := -1) G dX2_pass_418 (by decide) ?_
            refine gk_topi (fun v419 ev419 => ?_)
            refine gk_iast (w' := (gw_R cI ls nm fl ++ (gw_R cI o (gp_un M nk) fo ++ (gp_W cI cJ a q F W0 nm nk fS fK Sx Kx (gc_up T1 k (upd (T1 k) 1 v419)) V414)))) G (q0 := (k + 4 + 1 + 1)) (t0 := 0) (gp_s1 (gp_s1 (gp_atS (by omega)))) rfl 1 rfl (by decide) (by decide) (gp_t1 (gp_t1 (gp_setS (by omega) _))) dX2_pass_419 ?_
            generalize eT419 : gc_up T1 k (upd (T1 k) 1 v419) = T419
            refine gk_iinc (j := 4) (v := nI (k + 1)) (lv' := [(7, .int (nI (k + 1))), (8, .ref (Sx k)), (0, .ref a), (5, .ref (q 1)), (6, .int (nI nm))]) G dX2_pass_420 rfl (nI_add k 1) (by decide) rfl ?_
            refine gk_goto (tgt := 362) G dX2_pass_423 (by decide) ?_
            have r9 : gp_rep F W0 T419 V414 (gm_fnc (gm_inc (gm_h2 M)) (k + 1)) := by
              refine gp_rep_same ?_ (gm_fnc_do (X := (gm_inc (gm_h2 M))) (m := k) (s := (gm_who (gm_fnc (gm_inc (gm_h2 M)) k) k ((gm_fnc (gm_inc (gm_h2 M)) k) 11 0) - 1)) (by omega) (by rw [ew]; exact hon) (by omega) (gm_wf_ap wfX))
              subst eT419; subst eV414; subst ev419; subst ev414
              have := gp_rep_clr (m := k) (gp_rep_set8 (s := (gm_who (gm_fnc (gm_inc (gm_h2 M)) k) k ((gm_fnc (gm_inc (gm_h2 M)) k) 11 0) - 1)) (v := (gm_inc (gm_h2 M)) 9 0) w1)
              rw [← z9] at this ⊢; exact this
            exact gk_lsub [2,3,4,0] rfl (ih (k + 1) _ _ (by omega) (by omega) r9)
          · replace c_394 := (not_congr (nI_leI (a := (gm_fnc (gm_inc (gm_h2 M)) k) 5 (gm_who (gm_fnc (gm_inc (gm_h2 M)) k) k ((gm_fnc (gm_inc (gm_h2 M)) k) 11 0) - 1)) (b := 0) (by omega) (by omega))).mp c_394
            have hsame := gm_fnc_skip (X := (gm_inc (gm_h2 M))) (m := k) (fun i hi h7 h5 => by rw [only i hi h7] at h5; omega)
            refine gk_goto (tgt := 420) G dX2_pass_397 (by decide) ?_
            refine gk_iinc (j := 4) (v := nI (k + 1)) (lv' := [(7, .int (nI (k + 1))), (8, .ref (Sx k)), (0, .ref a), (5, .ref (q 1)), (6, .int (nI nm))]) G dX2_pass_420 rfl (nI_add k 1) (by decide) rfl ?_
            refine gk_goto (tgt := 362) G dX2_pass_423 (by decide) ?_
            exact gk_lsub [2,3,4,0] rfl (ih (k + 1) T1 V1 (by omega) (by omega) (gp_rep_same w1 hsame))
  refine gk_aload_n G dX2_pass_348 0 rfl ?_
  refine gk_get (v' := .ref (q 1)) G hinX2 (q0 := 2) rfl rfl 6 (by decide) k14 rfl rfl dX2_pass_349 ?_
  refine gk_astore (lv' := [(5, .ref (q 1)), (0, .ref a)]) G dX2_pass_352 (by decide) rfl ?_
  refine gk_aload G dX2_pass_354 0 rfl ?_
  refine gk_alen (v := nI nm) G (q0 := 4) (t0 := 2) rfl rfl rfl dX2_pass_356 ?_
  refine gk_istore (lv' := [(6, .int (nI nm)), (5, .ref (q 1)), (0, .ref a)]) G dX2_pass_357 (by decide) rfl ?_
  refine gk_iconst (v := nI 0) G dX2_pass_359 (by decide) ?_
  refine gk_istore (lv' := [(7, .int (nI 0)), (6, .int (nI nm)), (5, .ref (q 1)), (0, .ref a)]) G dX2_pass_360 (by decide) rfl ?_
  exact gk_lsub [3,2,1,0] rfl (L362 (nm + 1) 0 T V (by omega) (Nat.zero_le _) (gp_rep_same hr (gm_fnc_0 _)))
