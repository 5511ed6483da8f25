set_option maxRecDepth 100000 in
set_option maxHeartbeats 1000000 in
theorem c0_placeStone (l : Launch) (D : va_G) (cI cZ cJ : ClassId) (h : Nat) (q : Nat → Nat) (F : Nat → Int32) (B : Nat → Nat → Int32) (M : gm_M) (v : Nat) (wf : gm_wf M) (hr : gc_rep F B M) (h4 : M 10 0 < 4) : gk_I l yX0_placeStone wsX0_placeStone ({ frames := 0, cells := 0, slots := 0, locals := 0 } : Room) D (g_T cI cZ cJ) gk_E0 [.ref h, .int (nI v)] (gs_W cI cZ h q F B) 0 0 (fun (r : Int32) (u : (Nat → Int32) × (Nat → Nat → Int32)) => r = nI (M 10 0) ∧ gc_rep u.1 u.2 (gm_adds M v)) (fun u => (gs_W cI cZ h q u.1 u.2)) := by
  refine gk_I_of (ty := .int) (cc := cX0_placeStone) (nL := 3) (by decide +kernel) rfl (Nat.le_of_ble_eq_true rfl) ?_
  intro p e s m below meth c A Q hnm hE G RET
  obtain ⟨hz1, hz2, hz3, hz4, hz5, hz6, hz7, hz8⟩ := id wf
  have hinX0 : ∀ w ∈ wsX00, w ∈ wsX0_placeStone := fun w h9 => (List.mem_cons_of_mem _ (List.mem_append_right _ h9))
  have k15 := G.2.2.2.2.1 (.fieldLink RX0 15 "GustMill$State" "sizes" "[I") (List.mem_cons_of_mem _ (List.mem_append_left _ (List.mem_of_getElem? (i := 1) rfl)))
  have k18 := G.2.2.2.2.1 (.fieldLink RX0 18 "GustMill$State" "sacksUpon" "[I") (List.mem_cons_of_mem _ (List.mem_append_left _ (List.mem_of_getElem? (i := 2) rfl)))
  have k44 := G.2.2.2.2.1 (.fieldLink RX0 44 "GustMill$State" "stoneCount" "I") (List.mem_cons_of_mem _ (List.mem_append_left _ (List.mem_of_getElem? (i := 0) rfl)))
  refine gk_aload_n G dX0_placeStone_0 0 rfl ?_
  refine gk_get (v' := .int (nI (M 10 0))) G hinX0 (q0 := 0) rfl rfl 10 (by decide) k44 rfl (congrArg Value.int (hr.1.2.1)) dX0_placeStone_1 ?_
  refine gk_istore_n (lv' := [(2, .int (nI (M 10 0))), (0, .ref h), (1, .int (nI v))]) G dX0_placeStone_4 rfl (by decide) rfl ?_
  refine gk_aload_n G dX0_placeStone_5 1 rfl ?_
  refine gk_get (v' := .ref (q 1)) G hinX0 (q0 := 0) rfl rfl 1 (by decide) k15 rfl rfl dX0_placeStone_6 ?_
  refine gk_iload_n G dX0_placeStone_9 0 rfl ?_
  refine gk_iload_n G dX0_placeStone_10 2 rfl ?_
  refine gk_topi (fun v11 ev11 => ?_)
  refine gk_iast (w' := (gs_W cI cZ h q F (gc_up B 1 (upd (B 1) (M 10 0) v11)))) G (q0 := 2) (t0 := 0) rfl rfl (M 10 0) rfl (by omega) (by decide) rfl dX0_placeStone_11 ?_
  generalize eB11 : gc_up B 1 (upd (B 1) (M 10 0) v11) = B11
  refine gk_aload_n G dX0_placeStone_12 1 rfl ?_
  refine gk_get (v' := .ref (q 2)) G hinX0 (q0 := 0) rfl rfl 2 (by decide) k18 rfl rfl dX0_placeStone_13 ?_
  refine gk_iload_n G dX0_placeStone_16 0 rfl ?_
  refine gk_iconst (v := -1) G dX0_placeStone_17 (by decide) ?_
  refine gk_topi (fun v18 ev18 => ?_)
  refine gk_iast (w' := (gs_W cI cZ h q F (gc_up B11 2 (upd (B11 2) (M 10 0) v18)))) G (q0 := 3) (t0 := 0) rfl rfl (M 10 0) rfl (by omega) (by decide) rfl dX0_placeStone_18 ?_
  generalize eB18 : gc_up B11 2 (upd (B11 2) (M 10 0) v18) = B18
  refine gk_aload_n G dX0_placeStone_19 1 rfl ?_
  refine gk_iload_n G dX0_placeStone_20 0 rfl ?_
  refine gk_iconst (v := nI 1) G dX0_placeStone_21 (by decide) ?_
  refine gk_iadd (v := nI ((M 10 0) + 1)) G dX0_placeStone_22 (nI_add (M 10 0) 1) ?_
  refine gk_topi (fun v23 ev23 => ?_)
  refine gk_put (w' := (gs_W cI cZ h q (upd F 10 v23) B18)) G hinX0 tyX0_ok nmX0 (q0 := 0) rfl rfl 10 (by decide) k44 rfl rfl rfl (Nat.le_of_ble_eq_true rfl) rfl dX0_placeStone_23 ?_
  generalize eF23 : upd F 10 v23 = F23
  refine gk_iload_n G dX0_placeStone_26 0 rfl ?_
  exact RET _ _ _ _ _ _ (F23, B18) dX0_placeStone_27 rfl (by subst eF23; subst ev23; subst eB18; subst ev18; subst eB11; subst ev11; rw [gc_up_ne _ _ (show (2 : Nat) ≠ 1 by decide)]; exact ⟨rfl, gc_rep_adds wf hr⟩) rfl (Nat.le_of_ble_eq_true rfl) (Nat.le_of_ble_eq_true rfl)
set_option maxRecDepth 100000 in
set_option maxHeartbeats 1000000 in
theorem c0_storeSack (l : Launch) (D : va_G) (cI cZ cJ : ClassId) (h : Nat) (q : Nat → Nat) (F : Nat → Int32) (B : Nat → Nat → Int32) (M : gm_M) (b g t : Nat) (wf : gm_wf M) (hr : gc_rep F B M) (h16 : M 11 0 < 16) : gk_I l yX0_storeSack wsX0_storeSack ({ frames := 0, cells := 0, slots := 0, locals := 0 } : Room) D (g_T cI cZ cJ) gk_E0 [.ref h, .int (nI b), .int (nI g), .int (nI t)] (gs_W cI cZ h q F B) 0 0 (fun (r : Int32) (u : (Nat → Int32) × (Nat → Nat → Int32)) => r = nI (M 11 0) ∧ gc_rep u.1 u.2 (gm_add M b g t)) (fun u => (gs_W cI cZ h q u.1 u.2)) := by
  refine gk_I_of (ty := .int) (cc := cX0_storeSack) (nL := 5) (by decide +kernel) rfl (Nat.le_of_ble_eq_true rfl) ?_
  intro p e s m below meth c A Q hnm hE G RET
  obtain ⟨hz1, hz2, hz3, hz4, hz5, hz6, hz7, hz8⟩ := id wf
  have hinX0 : ∀ w ∈ wsX00, w ∈ wsX0_storeSack := fun w h9 => (List.mem_cons_of_mem _ (List.mem_append_right _ h9))
  have k25 := G.2.2.2.2.1 (.fieldLink RX0 25 "GustMill$State" "bakers" "[I") (List.mem_cons_of_mem _ (List.mem_append_left _ (List.mem_of_getElem? (i := 1) rfl)))
  have k28 := G.2.2.2.2.1 (.fieldLink RX0 28 "GustMill$State" "lefts" "[I") (List.mem_cons_of_mem _ (List.mem_append_left _ (List.mem_of_getElem? (i := 2) rfl)))
  have k31 := G.2.2.2.2.1 (.fieldLink RX0 31 "GustMill$State" "untils" "[I") (List.mem_cons_of_mem _ (List.mem_append_left _ (List.mem_of_getElem? (i := 3) rfl)))
  have k34 := G.2.2.2.2.1 (.fieldLink RX0 34 "GustMill$State" "stonesUnder" "[I") (List.mem_cons_of_mem _ (List.mem_append_left _ (List.mem_of_getElem? (i := 4) rfl)))
  have k37 := G.2.2.2.2.1 (.fieldLink RX0 37 "GustMill$State" "groundHours" "[I") (List.mem_cons_of_mem _ (List.mem_append_left _ (List.mem_of_getElem? (i := 5) rfl)))
  have k47 := G.2.2.2.2.1 (.fieldLink RX0 47 "GustMill$State" "sackCount" "I") (List.mem_cons_of_mem _ (List.mem_append_left _ (List.mem_of_getElem? (i := 0) rfl)))
  refine gk_aload_n G dX0_storeSack_0 0 rfl ?_
  refine gk_get (v' := .int (nI (M 11 0))) G hinX0 (q0 := 0) rfl rfl 11 (by decide) k47 rfl (congrArg Value.int (hr.1.2.2.1)) dX0_storeSack_1 ?_
  refine gk_istore (lv' := [(4, .int (nI (M 11 0))), (0, .ref h), (1, .int (nI b)), (2, .int (nI g)), (3, .int (nI t))]) G dX0_storeSack_4 (by decide) rfl ?_
  refine gk_aload_n G dX0_storeSack_6 1 rfl ?_
  refine gk_get (v' := .ref (q 4)) G hinX0 (q0 := 0) rfl rfl 4 (by decide) k25 rfl rfl dX0_storeSack_7 ?_
  refine gk_iload G dX0_storeSack_10 0 rfl ?_
  refine gk_iload_n G dX0_storeSack_12 2 rfl ?_
  refine gk_topi (fun v13 ev13 => ?_)
  refine gk_iast (w' := (gs_W cI cZ h q F (gc_up B 4 (upd (B 4) (M 11 0) v13)))) G (q0 := 5) (t0 := 0) rfl rfl (M 11 0) rfl (by omega) (by decide) rfl dX0_storeSack_13 ?_
  generalize eB13 : gc_up B 4 (upd (B 4) (M 11 0) v13) = B13
  refine gk_aload_n G dX0_storeSack_14 1 rfl ?_
  refine gk_get (v' := .ref (q 5)) G hinX0 (q0 := 0) rfl rfl 5 (by decide) k28 rfl rfl dX0_storeSack_15 ?_
  refine gk_iload G dX0_storeSack_18 0 rfl ?_
  refine gk_iload_n G dX0_storeSack_20 3 rfl ?_
  refine gk_topi (fun v21 ev21 => ?_)
  refine gk_iast (w' := (gs_W cI cZ h q F (gc_up B13 5 (upd (B13 5) (M 11 0) v21)))) G (q0 := 6) (t0 := 0) rfl rfl (M 11 0) rfl (by omega) (by decide) rfl dX0_storeSack_21 ?_
  generalize eB21 : gc_up B13 5 (upd (B13 5) (M 11 0) v21) = B21
  refine gk_aload_n G dX0_storeSack_22 1 rfl ?_
  refine gk_get (v' := .ref (q 6)) G hinX0 (q0 := 0) rfl rfl 6 (by decide) k31 rfl rfl dX0_storeSack_23 ?_
  refine gk_iload G dX0_storeSack_26 0 rfl ?_
  refine gk_iload_n G dX0_storeSack_28 4 rfl ?_
  refine gk_topi (fun v29 ev29 => ?_)
  refine gk_iast (w' := (gs_W cI cZ h q F (gc_up B21 6 (upd (B21 6) (M 11 0) v29)))) G (q0 := 7) (t0 := 0) rfl rfl (M 11 0) rfl (by omega) (by decide) rfl dX0_storeSack_29 ?_
  generalize eB29 : gc_up B21 6 (upd (B21 6) (M 11 0) v29) = B29
  refine gk_aload_n G dX0_storeSack_30 1 rfl ?_
  refine gk_get (v' := .ref (q 7)) G hinX0 (q0 := 0) rfl rfl 7 (by decide) k34 rfl rfl dX0_storeSack_31 ?_
  refine gk_iload G dX0_storeSack_34 0 rfl ?_
  refine gk_iconst (v := -1) G dX0_storeSack_36 (by decide) ?_
  refine gk_topi (fun v37 ev37 => ?_)
  refine gk_iast (w' := (gs_W cI cZ h q F (gc_up B29 7 (upd (B29 7) (M 11 0) v37)))) G (q0 := 8) (t0 := 0) rfl rfl (M 11 0) rfl (by omega) (by decide) rfl dX0_storeSack_37 ?_
  generalize eB37 : gc_up B29 7 (upd (B29 7) (M 11 0) v37) = B37
  refine gk_aload_n G dX0_storeSack_38 1 rfl ?_
  refine gk_get (v' := .ref (q 8)) G hinX0 (q0 := 0) rfl rfl 8 (by decide) k37 rfl rfl dX0_storeSack_39 ?_
  refine gk_iload G dX0_storeSack_42 0 rfl ?_
  refine gk_iconst (v := -1) G dX0_storeSack_44 (by decide) ?_
  refine gk_topi (fun v45 ev45 => ?_)
  refine gk_iast (w' := (gs_W cI cZ h q F (gc_up B37 8 (upd (B37 8) (M 11 0) v45)))) G (q0 := 9) (t0 := 0) rfl rfl (M 11 0) rfl (by omega) (by decide) rfl dX0_storeSack_45 ?_
  generalize eB45 : gc_up B37 8 (upd (B37 8) (M 11 0) v45) = B45
  refine gk_aload_n G dX0_storeSack_46 1 rfl ?_
  refine gk_iload G dX0_storeSack_47 0 rfl ?_
  refine gk_iconst (v := nI 1) G dX0_storeSack_49 (by decide) ?_
  refine gk_iadd (v := nI ((M 11 0) + 1)) G dX0_storeSack_50 (nI_add (M 11 0) 1) ?_
  refine gk_topi (fun v51 ev51 => ?_)
  refine gk_put (w' := (gs_W cI cZ h q (upd F 11 v51) B45)) G hinX0 tyX0_ok nmX0 (q0 := 0) rfl rfl 11 (by decide) k47 rfl rfl rfl (Nat.le_of_ble_eq_true rfl) rfl dX0_storeSack_51 ?_
  generalize eF51 : upd F 11 v51 = F51
  refine gk_iload G dX0_storeSack_54 0 rfl ?_
  exact RET _ _ _ _ _ _ (F51, B45) dX0_storeSack_56 rfl (by subst eF51; subst ev51; subst eB45; subst ev45; subst eB37; subst ev37; subst eB29; subst ev29; subst eB21; subst ev21; subst eB13; subst ev13; rw [gc_up_ne _ _ (show (8 : Nat) ≠ 7 by decide), gc_up_ne _ _ (show (8 : Nat) ≠ 6 by decide), gc_up_ne _ _ (show (8 : Nat) ≠ 5 by decide), gc_up_ne _ _ (show (8 : Nat) ≠ 4 by decide), gc_up_ne _ _ (show (7 : Nat) ≠ 6 by decide), gc_up_ne _ _ (show (7 : Nat) ≠ 5 by decide), gc_up_ne _ _ (show (7 : Nat) ≠ 4 by decide), gc_up_ne _ _ (show (6 : Nat) ≠ 5 by decide), gc_up_ne _ _ (show (6 : Nat) ≠ 4 by decide), gc_up_ne _ _ (show (5 : Nat) ≠ 4 by decide)]; exact ⟨rfl, gc_rep_add hr⟩) rfl (Nat.le_of_ble_eq_true rfl) (Nat.le_of_ble_eq_true rfl)
