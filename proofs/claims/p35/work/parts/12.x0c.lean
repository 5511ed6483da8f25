set_option maxRecDepth 100000 in
set_option maxHeartbeats 1000000 in
theorem c0_clearStone (l : Launch) (D : va_G) (cI cZ cJ : ClassId) (h : Nat) (q : Nat → Nat) (F : Nat → Int32) (B : Nat → Nat → Int32) (M : gm_M) (j : Nat) (h10 : M 10 0 ≤ 4) (h11 : M 11 0 ≤ 16) (hap : gm_ap M) (hr : gc_rep F B M) (hj : j < M 10 0) : gk_V l yX0_clearStone wsX0_clearStone ({ frames := 0, cells := 0, slots := 0, locals := 0 } : Room) D (g_T cI cZ cJ) gk_E0 [.ref h, .int (nI j)] (gs_W cI cZ h q F B) 0 0 (fun (u : (Nat → Int32) × (Nat → Nat → Int32)) => gc_rep u.1 u.2 (gm_clr M j)) (fun u => (gs_W cI cZ h q u.1 u.2)) := by
  refine gk_V_of (cc := cX0_clearStone) (nL := 3) (by decide +kernel) rfl (Nat.le_of_ble_eq_true rfl) ?_
  intro p e s m below meth c A Q hnm hE G RET
  have hwl := gm_who_le M j (M 11 0)
  have hinX0 : ∀ w ∈ wsX00, w ∈ wsX0_clearStone := fun w h9 => (List.mem_cons_of_mem _ (List.mem_append_right _ h9))
  have k18 := G.2.2.2.2.1 (.fieldLink RX0 18 "GustMill$State" "sacksUpon" "[I") (List.mem_cons_of_mem _ (List.mem_append_left _ (List.mem_of_getElem? (i := 0) rfl)))
  have k34 := G.2.2.2.2.1 (.fieldLink RX0 34 "GustMill$State" "stonesUnder" "[I") (List.mem_cons_of_mem _ (List.mem_append_left _ (List.mem_of_getElem? (i := 1) rfl)))
  refine gk_aload_n G dX0_clearStone_0 0 rfl ?_
  refine gk_get (v' := .ref (q 2)) G hinX0 (q0 := 0) rfl rfl 2 (by decide) k18 rfl rfl dX0_clearStone_1 ?_
  refine gk_iload_n G dX0_clearStone_4 1 rfl ?_
  refine gk_iald (v := gm_e (gm_who M j (M 11 0))) G (q0 := 3) (t0 := 0) rfl rfl j rfl (by omega) (by decide) (hr.2.2.2.1 j (by omega)) dX0_clearStone_5 ?_
  refine gk_istore_n (lv' := [(2, .int (gm_e (gm_who M j (M 11 0)))), (0, .ref h), (1, .int (nI j))]) G dX0_clearStone_6 rfl (by decide) rfl ?_
  refine gk_iload_n G dX0_clearStone_7 0 rfl ?_
  refine gk_iconst (v := -1) G dX0_clearStone_8 (by decide) ?_
  refine gk_icmp_eq (tgt := 26) G dX0_clearStone_9 (by decide) (fun c_9 => ?_) (fun c_9 => ?_)
  · replace c_9 := (gm_e_none (a := gm_who M j (M 11 0)) (by omega)).mp c_9
    exact RET _ _ _ _ _ (F, B) dX0_clearStone_26 (gc_rep_clr0 hr c_9) rfl (Nat.le_of_ble_eq_true rfl) (Nat.le_of_ble_eq_true rfl)
  · replace c_9 := (not_congr (gm_e_none (a := gm_who M j (M 11 0)) (by omega))).mp c_9
    refine gk_aload_n G dX0_clearStone_12 1 rfl ?_
    refine gk_get (v' := .ref (q 7)) G hinX0 (q0 := 0) rfl rfl 7 (by decide) k34 rfl rfl dX0_clearStone_13 ?_
    refine gk_iload_n G dX0_clearStone_16 0 rfl ?_
    refine gk_iconst (v := -1) G dX0_clearStone_17 (by decide) ?_
    refine gk_topi (fun v18 ev18 => ?_)
    refine gk_iast (w' := (gs_W cI cZ h q F (gc_up B 7 (upd (B 7) (gm_who M j (M 11 0) - 1) v18)))) G (q0 := 8) (t0 := 0) rfl rfl (gm_who M j (M 11 0) - 1) (gm_e_pred c_9) (by omega) (by decide) rfl dX0_clearStone_18 ?_
    generalize eB18 : gc_up B 7 (upd (B 7) (gm_who M j (M 11 0) - 1) v18) = B18
    refine gk_aload_n G dX0_clearStone_19 1 rfl ?_
    refine gk_get (v' := .ref (q 2)) G hinX0 (q0 := 0) rfl rfl 2 (by decide) k18 rfl rfl dX0_clearStone_20 ?_
    refine gk_iload_n G dX0_clearStone_23 2 rfl ?_
    refine gk_iconst (v := -1) G dX0_clearStone_24 (by decide) ?_
    refine gk_topi (fun v25 ev25 => ?_)
    refine gk_iast (w' := (gs_W cI cZ h q F (gc_up B18 2 (upd (B18 2) j v25)))) G (q0 := 3) (t0 := 0) rfl rfl j rfl (by omega) (by decide) rfl dX0_clearStone_25 ?_
    generalize eB25 : gc_up B18 2 (upd (B18 2) j v25) = B25
    exact RET _ _ _ _ _ (F, B25) dX0_clearStone_26 (by subst eB25; subst eB18; subst ev25; subst ev18; rw [gc_up_ne _ _ (show (2 : Nat) ≠ 7 by decide)]; exact gc_rep_clr hap hr hj c_9) rfl (Nat.le_of_ble_eq_true rfl) (Nat.le_of_ble_eq_true rfl)
