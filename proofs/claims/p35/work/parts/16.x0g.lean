set_option maxRecDepth 100000 in
set_option maxHeartbeats 1000000 in
theorem c0_finishSacks (l : Launch) (D : va_G) (cI cZ cJ : ClassId) (h : Nat) (q : Nat → Nat) (F : Nat → Int32) (B : Nat → Nat → Int32) (M : gm_M) (wf : gm_wf M) (hr : gc_rep F B M) : gk_V l yX0_finishSacks wsX0_finishSacks ({ frames := 1, cells := 0, slots := 0, locals := 22 } : Room) D (g_T cI cZ cJ) gk_E0 [.ref h] (gs_W cI cZ h q F B) 0 0 (fun (u : (Nat → Int32) × (Nat → Nat → Int32)) => gc_rep u.1 u.2 (gm_fnp M (M 11 0))) (fun u => (gs_W cI cZ h q u.1 u.2)) := by
  refine gk_V_of (cc := cX0_finishSacks) (nL := 3) (by decide +kernel) rfl (Nat.le_of_ble_eq_true rfl) ?_
  intro p e s m below meth c A Q hnm hE G RET
  obtain ⟨hz1, hz2, hz3, hz4, hz5, hz6, hz7, hz8⟩ := id wf
  have hinX0 : ∀ w ∈ wsX00, w ∈ wsX0_finishSacks := fun w h9 => (List.mem_cons_of_mem _ (List.mem_append_right _ h9))
  have k18 := G.2.2.2.2.1 (.fieldLink RX0 18 "GustMill$State" "sacksUpon" "[I") (List.mem_cons_of_mem _ (List.mem_append_left _ (List.mem_of_getElem? (i := 1) rfl)))
  have k37 := G.2.2.2.2.1 (.fieldLink RX0 37 "GustMill$State" "groundHours" "[I") (List.mem_cons_of_mem _ (List.mem_append_left _ (List.mem_of_getElem? (i := 2) rfl)))
  have k40 := G.2.2.2.2.1 (.fieldLink RX0 40 "GustMill$State" "hour" "I") (List.mem_cons_of_mem _ (List.mem_append_left _ (List.mem_of_getElem? (i := 3) rfl)))
  have k44 := G.2.2.2.2.1 (.fieldLink RX0 44 "GustMill$State" "stoneCount" "I") (List.mem_cons_of_mem _ (List.mem_append_left _ (List.mem_of_getElem? (i := 0) rfl)))
  have k50 := G.2.2.2.2.1 (.fieldLink RX0 50 "GustMill$State" "groundCount" "I") (List.mem_cons_of_mem _ (List.mem_append_left _ (List.mem_of_getElem? (i := 4) rfl)))
  have L2 : ∀ (n : Nat) (k : Nat) (F1 : Nat → Int32) (B1 : Nat → Nat → Int32), M 10 0 - k < n → (k ≤ M 10 0) → (gc_rep F1 B1 (gm_fnc M k)) → gk_C p l e ({ frames := 1, cells := 0, slots := 0, locals := 22 } : Room) s m ([.ref h] : List Value).toArray below meth c 3 D A Q 0 0 (gs_W cI cZ h q F1 B1) [(0, .ref h), (1, .int (nI k))] 2 [] := by
    intro n
    induction n with
    | zero => intro k F1 B1 h0; exact absurd h0 (Nat.not_lt_zero _)
    | succ n ih =>
      intro k F1 B1 h0 w0 w1
      have hr1 := w1
      have wf1 := gm_fnc_wf wf k
      have ap1 := gm_fnc_ap k (gm_wf_ap wf)
      have e10 : gm_fnc M k 10 0 = M 10 0 := gm_fnc_ne M k 0 (by decide) (by decide)
      have e11 : gm_fnc M k 11 0 = M 11 0 := gm_fnc_ne M k 0 (by decide) (by decide)
      have e9 : gm_fnc M k 9 0 = M 9 0 := gm_fnc_ne M k 0 (by decide) (by decide)
      have hwl := gm_who_le (gm_fnc M k) k (gm_fnc M k 11 0)
      have ew : gm_who (gm_fnc M k) k (gm_fnc M k 11 0) = gm_who M k (M 11 0) := by rw [e11, gm_fnc_who]
      refine gk_iload_n G dX0_finishSacks_2 1 rfl ?_
      refine gk_aload_n G dX0_finishSacks_3 0 rfl ?_
      refine gk_get (v' := .int (nI ((gm_fnc M k) 10 0))) G hinX0 (q0 := 0) rfl rfl 10 (by decide) k44 rfl (congrArg Value.int (hr1.1.2.1)) dX0_finishSacks_4 ?_
      refine gk_icmp_ge (tgt := 61) G dX0_finishSacks_7 (by decide) (fun c_7 => ?_) (fun c_7 => ?_)
      · replace c_7 := (nI_leI (a := (gm_fnc M k) 10 0) (b := k) (by omega) (by omega)).mp c_7
        exact RET _ _ _ _ _ (F1, B1) dX0_finishSacks_61 (gc_rep_same (by rw [show M 10 0 = k by omega]; exact hr1) (gm_fnc_all (fun i hi => (hz7 i hi).2.2.2.2.1))) rfl (Nat.le_of_ble_eq_true rfl) (Nat.le_of_ble_eq_true rfl)
      · replace c_7 := (not_congr (nI_leI (a := (gm_fnc M k) 10 0) (b := k) (by omega) (by omega))).mp c_7
        refine gk_aload_n G dX0_finishSacks_10 0 rfl ?_
        refine gk_get (v' := .ref (q 2)) G hinX0 (q0 := 0) rfl rfl 2 (by decide) k18 rfl rfl dX0_finishSacks_11 ?_
        refine gk_iload_n G dX0_finishSacks_14 1 rfl ?_
        refine gk_iald (v := gm_e (gm_who (gm_fnc M k) k ((gm_fnc M k) 11 0))) G (q0 := 3) (t0 := 0) rfl rfl k rfl (by omega) (by decide) (hr1.2.2.2.1 k (by omega)) dX0_finishSacks_15 ?_
        refine gk_istore_n (lv' := [(2, .int (gm_e (gm_who (gm_fnc M k) k ((gm_fnc M k) 11 0)))), (0, .ref h), (1, .int (nI k))]) G dX0_finishSacks_16 rfl (by decide) rfl ?_
        refine gk_iload_n G dX0_finishSacks_17 0 rfl ?_
        refine gk_iconst (v := -1) G dX0_finishSacks_18 (by decide) ?_
        refine gk_icmp_eq (tgt := 55) G dX0_finishSacks_19 (by decide) (fun c_19 => ?_) (fun c_19 => ?_)
        · replace c_19 := (gm_e_none (a := gm_who (gm_fnc M k) k ((gm_fnc M k) 11 0)) (by omega)).mp c_19
          have w00 : gm_who M k (M 11 0) = 0 := by rw [← ew]; exact c_19
          have r9 := gc_rep_same hr1 (gm_fnc_skip (fun i hi h7 => absurd h7 (gm_who_no _ w00 i hi)))
          refine gk_iinc (j := 2) (v := nI (k + 1)) (lv' := [(1, .int (nI (k + 1))), (2, .int (gm_e (gm_who (gm_fnc M k) k ((gm_fnc M k) 11 0)))), (0, .ref h)]) G dX0_finishSacks_55 rfl (nI_add k 1) (by decide) rfl ?_
          refine gk_goto (tgt := 2) G dX0_finishSacks_58 (by decide) ?_
          exact gk_lsub [2,0] rfl (ih (k + 1) _ _ (by omega) (by omega) r9)
        · replace c_19 := (not_congr (gm_e_none (a := gm_who (gm_fnc M k) k ((gm_fnc M k) 11 0)) (by omega))).mp c_19
          have w00 : gm_who M k (M 11 0) ≠ 0 := by rw [← ew]; exact c_19
          have hon := gm_who_on _ w00
          have only : ∀ i, i < M 11 0 → M 7 i = k + 1 → i = gm_who M k (M 11 0) - 1 := fun i hi h7 => hz8 i _ hi (by omega) (by omega) (by omega)
          have e5 : (gm_fnc M k) 5 (gm_who (gm_fnc M k) k ((gm_fnc M k) 11 0) - 1) = M 5 (gm_who M k (M 11 0) - 1) := by rw [ew]; exact gm_fnc_ne M k _ (by decide) (by decide)
          have hw7 := hz7 (gm_who M k (M 11 0) - 1) (by omega)
          refine gk_aload_n G dX0_finishSacks_22 1 rfl ?_
          refine gk_iload_n G dX0_finishSacks_23 0 rfl ?_
          refine gk_callIV (wr := []) G (c0_isGround l D cI cZ cJ h q F1 B1 (gm_fnc M k) (gm_who (gm_fnc M k) k ((gm_fnc M k) 11 0) - 1) wf1 hr1 (by omega)) gX0_finishSacks_X0_isGround rfl 1 (by decide +kernel) rfl rfl ⟨(Nat.le_of_ble_eq_true rfl), (Nat.le_of_ble_eq_true rfl)⟩ rfl (q0 := 0) rfl (T := TX0) (N := 16) rfl gk_ok0 trivial [0, 1, 2, 3, 4, 5, 6, 7, 8, 9] rfl (by decide) [] rfl (by decide) (by decide) (by rw [gm_e_pred c_19]; rfl) (Nat.le_of_ble_eq_true rfl) dX0_finishSacks_24 ⟨(Nat.le_of_ble_eq_true rfl), (Nat.le_of_ble_eq_true rfl)⟩ (fun r24 u24 hp24 => ?_)
          obtain rfl : r24 = gm_b ((gm_fnc M k) 5 (gm_who (gm_fnc M k) k ((gm_fnc M k) 11 0) - 1) = 0) := hp24
          show gk_C p l e ({ frames := 1, cells := 0, slots := 0, locals := 22 } : Room) s m ([.ref h] : List Value).toArray below meth c 3 D A Q 0 0 (gs_W cI cZ h q F1 B1) [(2, .int (gm_e (gm_who (gm_fnc M k) k ((gm_fnc M k) 11 0)))), (0, .ref h), (1, .int (nI k))] 27 [.int (gm_b ((gm_fnc M k) 5 (gm_who (gm_fnc M k) k ((gm_fnc M k) 11 0) - 1) = 0))]
          refine gk_if_eq (tgt := 55) G dX0_finishSacks_27 (by decide) (fun c_27 => ?_) (fun c_27 => ?_)
          · replace c_27 := gm_b_eq.mp c_27
            have r9 := gc_rep_same hr1 (gm_fnc_skip (fun i hi h7 h5 => c_27 (by rw [e5, ← only i hi h7]; exact h5)))
            refine gk_iinc (j := 2) (v := nI (k + 1)) (lv' := [(1, .int (nI (k + 1))), (2, .int (gm_e (gm_who (gm_fnc M k) k ((gm_fnc M k) 11 0)))), (0, .ref h)]) G dX0_finishSacks_55 rfl (nI_add k 1) (by decide) rfl ?_
            refine gk_goto (tgt := 2) G dX0_finishSacks_58 (by decide) ?_
            exact gk_lsub [2,0] rfl (ih (k + 1) _ _ (by omega) (by omega) r9)
          · replace c_27 := gm_b_ne.mp c_27
            have h50 : M 5 (gm_who M k (M 11 0) - 1) = 0 := by rw [← e5]; exact c_27
            have h80 : (gm_fnc M k) 8 (gm_who (gm_fnc M k) k ((gm_fnc M k) 11 0) - 1) = 0 := by
              rw [ew, gm_fnc_8, if_neg (by omega)]
              by_cases h9 : M 8 (gm_who M k (M 11 0) - 1) = 0
              · exact h9
              · have := (hw7.2.2.2.2.2.1 h9).1; omega
            refine gk_aload_n G dX0_finishSacks_30 1 rfl ?_
            refine gk_get (v' := .ref (q 8)) G hinX0 (q0 := 0) rfl rfl 8 (by decide) k37 rfl rfl dX0_finishSacks_31 ?_
            refine gk_iload_n G dX0_finishSacks_34 0 rfl ?_
            refine gk_aload_n G dX0_finishSacks_35 1 rfl ?_
            refine gk_get (v' := .int (nI ((gm_fnc M k) 9 0))) G hinX0 (q0 := 0) rfl rfl 9 (by decide) k40 rfl (congrArg Value.int (hr1.1.1)) dX0_finishSacks_36 ?_
            refine gk_topi (fun v39 ev39 => ?_)
            refine gk_iast (w' := (gs_W cI cZ h q F1 (gc_up B1 8 (upd (B1 8) (gm_who (gm_fnc M k) k ((gm_fnc M k) 11 0) - 1) v39)))) G (q0 := 9) (t0 := 0) rfl rfl (gm_who (gm_fnc M k) k ((gm_fnc M k) 11 0) - 1) (gm_e_pred c_19) (by omega) (by decide) rfl dX0_finishSacks_39 ?_
            generalize eB39 : gc_up B1 8 (upd (B1 8) (gm_who (gm_fnc M k) k ((gm_fnc M k) 11 0) - 1) v39) = B39
            refine gk_aload_n G dX0_finishSacks_40 1 rfl ?_
            refine gk_dup G dX0_finishSacks_41 rfl ?_
            refine gk_get (v' := .int (nI (gm_gct (gm_fnc M k) ((gm_fnc M k) 11 0)))) G hinX0 (q0 := 0) rfl rfl 12 (by decide) k50 rfl (congrArg Value.int (hr1.1.2.2.2.1)) dX0_finishSacks_42 ?_
            refine gk_iconst (v := nI 1) G dX0_finishSacks_45 (by decide) ?_
            refine gk_iadd (v := nI ((gm_gct (gm_fnc M k) ((gm_fnc M k) 11 0)) + 1)) G dX0_finishSacks_46 (nI_add (gm_gct (gm_fnc M k) ((gm_fnc M k) 11 0)) 1) ?_
            refine gk_topi (fun v47 ev47 => ?_)
            refine gk_put (w' := (gs_W cI cZ h q (upd F1 12 v47) B39)) G hinX0 tyX0_ok nmX0 (q0 := 0) rfl rfl 12 (by decide) k50 rfl rfl rfl (Nat.le_of_ble_eq_true rfl) rfl dX0_finishSacks_47 ?_
            generalize eF47 : upd F1 12 v47 = F47
            refine gk_aload_n G dX0_finishSacks_50 1 rfl ?_
            refine gk_iload_n G dX0_finishSacks_51 2 rfl ?_
            have hr5 : gc_rep F47 B39 (gm_set (gm_fnc M k) 8 (gm_who (gm_fnc M k) k ((gm_fnc M k) 11 0) - 1) ((gm_fnc M k) 9 0 + 1)) := by subst eF47; subst eB39; subst ev47; subst ev39; exact gc_rep_set8 hr1 (by omega) h80
            have y10 : (gm_set (gm_fnc M k) 8 (gm_who (gm_fnc M k) k ((gm_fnc M k) 11 0) - 1) ((gm_fnc M k) 9 0 + 1)) 10 0 = M 10 0 := (gm_set_k _ _ (by decide)).trans e10
            have y11 : (gm_set (gm_fnc M k) 8 (gm_who (gm_fnc M k) k ((gm_fnc M k) 11 0) - 1) ((gm_fnc M k) 9 0 + 1)) 11 0 = M 11 0 := (gm_set_k _ _ (by decide)).trans e11
            have ap5 : gm_ap (gm_set (gm_fnc M k) 8 (gm_who (gm_fnc M k) k ((gm_fnc M k) 11 0) - 1) ((gm_fnc M k) 9 0 + 1)) := fun i j hi hj => by
              rw [y11] at hi hj
              rw [gm_set_k _ _ (by decide), gm_set_k _ _ (by decide)]
              exact ap1 i j (by omega) (by omega)
            refine gk_callVV (wr := []) G (c0_clearStone l D cI cZ cJ h q F47 B39 (gm_set (gm_fnc M k) 8 (gm_who (gm_fnc M k) k ((gm_fnc M k) 11 0) - 1) ((gm_fnc M k) 9 0 + 1)) k (by omega) (by omega) ap5 hr5 (by omega)) gX0_finishSacks_X0_clearStone rfl 1 (by decide +kernel) rfl rfl ⟨(Nat.le_of_ble_eq_true rfl), (Nat.le_of_ble_eq_true rfl)⟩ rfl (q0 := 0) rfl (T := TX0) (N := 16) rfl gk_ok0 trivial [0, 1, 2, 3, 4, 5, 6, 7, 8, 9] rfl (by decide) [] rfl (by decide) (by decide) rfl (Nat.le_of_ble_eq_true rfl) dX0_finishSacks_52 ⟨(Nat.le_of_ble_eq_true rfl), (Nat.le_of_ble_eq_true rfl)⟩ (fun u52 hp52 => ?_)
            obtain ⟨F52, B52⟩ := u52
            have hr52 : gc_rep F52 B52 (gm_clr (gm_set (gm_fnc M k) 8 (gm_who (gm_fnc M k) k ((gm_fnc M k) 11 0) - 1) ((gm_fnc M k) 9 0 + 1)) k) := hp52
            show gk_C p l e ({ frames := 1, cells := 0, slots := 0, locals := 22 } : Room) s m ([.ref h] : List Value).toArray below meth c 3 D A Q 0 0 (gs_W cI cZ h q F52 B52) [(2, .int (gm_e (gm_who (gm_fnc M k) k ((gm_fnc M k) 11 0)))), (0, .ref h), (1, .int (nI k))] 55 []
            refine gk_iinc (j := 2) (v := nI (k + 1)) (lv' := [(1, .int (nI (k + 1))), (2, .int (gm_e (gm_who (gm_fnc M k) k ((gm_fnc M k) 11 0)))), (0, .ref h)]) G dX0_finishSacks_55 rfl (nI_add k 1) (by decide) rfl ?_
            refine gk_goto (tgt := 2) G dX0_finishSacks_58 (by decide) ?_
            have r9 : gc_rep F52 B52 (gm_fnc M (k + 1)) := gc_rep_same hr52 (by rw [e9, ew]; exact gm_fnc_do (by omega) hon h50 (gm_wf_ap wf))
            exact gk_lsub [2,0] rfl (ih (k + 1) _ _ (by omega) (by omega) r9)
  refine gk_iconst (v := nI 0) G dX0_finishSacks_0 (by decide) ?_
  refine gk_istore_n (lv' := [(1, .int (nI 0)), (0, .ref h)]) G dX0_finishSacks_1 rfl (by decide) rfl ?_
  exact gk_lsub [1,0] rfl (L2 (M 10 0 + 1) 0 F B (by omega) (by omega) (gc_rep_same hr (gm_fnc_0 M)))
