theorem gm_cnt_le (M : gm_M) (s : Nat) : ∀ n : Nat, gm_cnt M s n ≤ n
  | 0 => Nat.le_refl 0
  | n + 1 => by
    have := gm_cnt_le M s n
    show gm_cnt M s n + (if M 8 n = 0 ∧ gm_trn M n < gm_trn M s then 1 else 0) ≤ n + 1
    split <;> omega
set_option maxRecDepth 100000 in
set_option maxHeartbeats 1000000 in
theorem c0_takeOffUnwanted (l : Launch) (D : va_G) (cI cZ cJ : ClassId) (h : Nat) (q : Nat → Nat) (F : Nat → Int32) (B : Nat → Nat → Int32) (M : gm_M) (wf : gm_wf M) (hr : gc_rep F B M) (hrest : gm_rest M) : gk_V l yX0_takeOffUnwanted wsX0_takeOffUnwanted ({ frames := 2, cells := 0, slots := 0, locals := 46 } : Room) D (g_T cI cZ cJ) gk_E0 [.ref h] (gs_W cI cZ h q F B) 0 0 (fun (u : (Nat → Int32) × (Nat → Nat → Int32)) => gc_rep u.1 u.2 (gm_tkp M (M 11 0))) (fun u => (gs_W cI cZ h q u.1 u.2)) := by
  refine gk_V_of (cc := cX0_takeOffUnwanted) (nL := 3) (by decide +kernel) rfl (Nat.le_of_ble_eq_true rfl) ?_
  intro p e s m below meth c A Q hnm hE G RET
  obtain ⟨hz1, hz2, hz3, hz4, hz5, hz6, hz7, hz8⟩ := id wf
  have hinX0 : ∀ w ∈ wsX00, w ∈ wsX0_takeOffUnwanted := fun w h9 => (List.mem_cons_of_mem _ (List.mem_append_right _ h9))
  have k18 := G.2.2.2.2.1 (.fieldLink RX0 18 "GustMill$State" "sacksUpon" "[I") (List.mem_cons_of_mem _ (List.mem_append_left _ (List.mem_of_getElem? (i := 1) rfl)))
  have k44 := G.2.2.2.2.1 (.fieldLink RX0 44 "GustMill$State" "stoneCount" "I") (List.mem_cons_of_mem _ (List.mem_append_left _ (List.mem_of_getElem? (i := 0) rfl)))
  have L2 : ∀ (n : Nat) (k : Nat) (F1 : Nat → Int32) (B1 : Nat → Nat → Int32), M 10 0 - k < n → (k ≤ M 10 0) → (gc_rep F1 B1 (gm_tkc M k)) → gk_C p l e ({ frames := 2, cells := 0, slots := 0, locals := 46 } : Room) s m ([.ref h] : List Value).toArray below meth c 3 D A Q 0 0 (gs_W cI cZ h q F1 B1) [(0, .ref h), (1, .int (nI k))] 2 [] := by
    intro n
    induction n with
    | zero => intro k F1 B1 h0; exact absurd h0 (Nat.not_lt_zero _)
    | succ n ih =>
      intro k F1 B1 h0 w0 w1
      have hr1 := w1
      have wf1 := gm_tkc_wf k wf
      have rest1 := gm_tkc_rest k hrest
      have e10 : gm_tkc M k 10 0 = M 10 0 := gm_tkc_ne M k 0 (by decide)
      have e11 : gm_tkc M k 11 0 = M 11 0 := gm_tkc_ne M k 0 (by decide)
      have hwl := gm_who_le (gm_tkc M k) k (gm_tkc M k 11 0)
      have ew : gm_who (gm_tkc M k) k (gm_tkc M k 11 0) = gm_who M k (M 11 0) := by rw [e11, gm_tkc_who]
      refine gk_iload_n G dX0_takeOffUnwanted_2 1 rfl ?_
      refine gk_aload_n G dX0_takeOffUnwanted_3 0 rfl ?_
      refine gk_get (v' := .int (nI ((gm_tkc M k) 10 0))) G hinX0 (q0 := 0) rfl rfl 10 (by decide) k44 rfl (congrArg Value.int (hr1.1.2.1)) dX0_takeOffUnwanted_4 ?_
      refine gk_icmp_ge (tgt := 45) G dX0_takeOffUnwanted_7 (by decide) (fun c_7 => ?_) (fun c_7 => ?_)
      · replace c_7 := (nI_leI (a := (gm_tkc M k) 10 0) (b := k) (by omega) (by omega)).mp c_7
        exact RET _ _ _ _ _ (F1, B1) dX0_takeOffUnwanted_45 (gc_rep_same (by rw [show M 10 0 = k by omega]; exact hr1) (gm_tkc_all wf)) rfl (Nat.le_of_ble_eq_true rfl) (Nat.le_of_ble_eq_true rfl)
      · replace c_7 := (not_congr (nI_leI (a := (gm_tkc M k) 10 0) (b := k) (by omega) (by omega))).mp c_7
        refine gk_aload_n G dX0_takeOffUnwanted_10 0 rfl ?_
        refine gk_get (v' := .ref (q 2)) G hinX0 (q0 := 0) rfl rfl 2 (by decide) k18 rfl rfl dX0_takeOffUnwanted_11 ?_
        refine gk_iload_n G dX0_takeOffUnwanted_14 1 rfl ?_
        refine gk_iald (v := gm_e (gm_who (gm_tkc M k) k ((gm_tkc M k) 11 0))) G (q0 := 3) (t0 := 0) rfl rfl k rfl (by omega) (by decide) (hr1.2.2.2.1 k (by omega)) dX0_takeOffUnwanted_15 ?_
        refine gk_istore_n (lv' := [(2, .int (gm_e (gm_who (gm_tkc M k) k ((gm_tkc M k) 11 0)))), (0, .ref h), (1, .int (nI k))]) G dX0_takeOffUnwanted_16 rfl (by decide) rfl ?_
        refine gk_iload_n G dX0_takeOffUnwanted_17 0 rfl ?_
        refine gk_iconst (v := -1) G dX0_takeOffUnwanted_18 (by decide) ?_
        refine gk_icmp_eq (tgt := 39) G dX0_takeOffUnwanted_19 (by decide) (fun c_19 => ?_) (fun c_19 => ?_)
        · replace c_19 := (gm_e_none (a := gm_who (gm_tkc M k) k ((gm_tkc M k) 11 0)) (by omega)).mp c_19
          have w0 : gm_who M k (M 11 0) = 0 := by rw [← ew]; exact c_19
          have r9 := gc_rep_same hr1 (gm_tkc_skip (fun i hi h7 => absurd h7 (gm_who_no _ w0 i hi)))
          refine gk_iinc (j := 2) (v := nI (k + 1)) (lv' := [(1, .int (nI (k + 1))), (2, .int (gm_e (gm_who (gm_tkc M k) k ((gm_tkc M k) 11 0)))), (0, .ref h)]) G dX0_takeOffUnwanted_39 rfl (nI_add k 1) (by decide) rfl ?_
          refine gk_goto (tgt := 2) G dX0_takeOffUnwanted_42 (by decide) ?_
          exact gk_lsub [2,0] rfl (ih (k + 1) _ _ (by omega) (by omega) r9)
        · replace c_19 := (not_congr (gm_e_none (a := gm_who (gm_tkc M k) k ((gm_tkc M k) 11 0)) (by omega))).mp c_19
          have w0 : gm_who M k (M 11 0) ≠ 0 := by rw [← ew]; exact c_19
          have hon := gm_who_on _ w0
          have only : ∀ i, i < M 11 0 → M 7 i = k + 1 → i = gm_who M k (M 11 0) - 1 := fun i hi h7 => hz8 i _ hi (by omega) (by omega) (by omega)
          have hcnt : gm_cnt (gm_tkc M k) (gm_who (gm_tkc M k) k (gm_tkc M k 11 0) - 1) (gm_tkc M k 11 0) = gm_cnt M (gm_who M k (M 11 0) - 1) (M 11 0) := by rw [gm_tkc_cnt, ew, e11]
          have hcl := gm_cnt_le M (gm_who M k (M 11 0) - 1) (M 11 0)
          refine gk_aload_n G dX0_takeOffUnwanted_22 1 rfl ?_
          refine gk_iload_n G dX0_takeOffUnwanted_23 0 rfl ?_
          refine gk_callIV (wr := []) G (c0_countAhead l D cI cZ cJ h q F1 B1 (gm_tkc M k) (gm_who (gm_tkc M k) k ((gm_tkc M k) 11 0) - 1) wf1 hr1 rest1 (by omega)) gX0_takeOffUnwanted_X0_countAhead rfl 1 (by decide +kernel) rfl rfl ⟨(Nat.le_of_ble_eq_true rfl), (Nat.le_of_ble_eq_true rfl)⟩ rfl (q0 := 0) rfl (T := TX0) (N := 16) rfl gk_ok0 trivial [0, 1, 2, 3, 4, 5, 6, 7, 8, 9] rfl (by decide) [] rfl (by decide) (by decide) (by rw [gm_e_pred c_19]; rfl) (Nat.le_of_ble_eq_true rfl) dX0_takeOffUnwanted_24 ⟨(Nat.le_of_ble_eq_true rfl), (Nat.le_of_ble_eq_true rfl)⟩ (fun r24 u24 hp24 => ?_)
          obtain rfl : r24 = nI (gm_cnt (gm_tkc M k) (gm_who (gm_tkc M k) k ((gm_tkc M k) 11 0) - 1) ((gm_tkc M k) 11 0)) := hp24
          show gk_C p l e ({ frames := 2, cells := 0, slots := 0, locals := 46 } : Room) s m ([.ref h] : List Value).toArray below meth c 3 D A Q 0 0 (gs_W cI cZ h q F1 B1) [(2, .int (gm_e (gm_who (gm_tkc M k) k ((gm_tkc M k) 11 0)))), (0, .ref h), (1, .int (nI k))] 27 [.int (nI (gm_cnt (gm_tkc M k) (gm_who (gm_tkc M k) k ((gm_tkc M k) 11 0) - 1) ((gm_tkc M k) 11 0)))]
          refine gk_aload_n G dX0_takeOffUnwanted_27 1 rfl ?_
          refine gk_get (v' := .int (nI ((gm_tkc M k) 10 0))) G hinX0 (q0 := 0) rfl rfl 10 (by decide) k44 rfl (congrArg Value.int (hr1.1.2.1)) dX0_takeOffUnwanted_28 ?_
          refine gk_icmp_lt (tgt := 39) G dX0_takeOffUnwanted_31 (by decide) (fun c_31 => ?_) (fun c_31 => ?_)
          · replace c_31 := (nI_ltI (a := gm_cnt (gm_tkc M k) (gm_who (gm_tkc M k) k ((gm_tkc M k) 11 0) - 1) ((gm_tkc M k) 11 0)) (b := (gm_tkc M k) 10 0) (by omega) (by omega)).mp c_31
            have r9 := gc_rep_same hr1 (gm_tkc_skip (fun i hi h7 => by rw [only i hi h7]; omega))
            refine gk_iinc (j := 2) (v := nI (k + 1)) (lv' := [(1, .int (nI (k + 1))), (2, .int (gm_e (gm_who (gm_tkc M k) k ((gm_tkc M k) 11 0)))), (0, .ref h)]) G dX0_takeOffUnwanted_39 rfl (nI_add k 1) (by decide) rfl ?_
            refine gk_goto (tgt := 2) G dX0_takeOffUnwanted_42 (by decide) ?_
            exact gk_lsub [2,0] rfl (ih (k + 1) _ _ (by omega) (by omega) r9)
          · replace c_31 := (not_congr (nI_ltI (a := gm_cnt (gm_tkc M k) (gm_who (gm_tkc M k) k ((gm_tkc M k) 11 0) - 1) ((gm_tkc M k) 11 0)) (b := (gm_tkc M k) 10 0) (by omega) (by omega))).mp c_31
            refine gk_aload_n G dX0_takeOffUnwanted_34 1 rfl ?_
            refine gk_iload_n G dX0_takeOffUnwanted_35 2 rfl ?_
            have hcn := c_31
            refine gk_callVV (wr := []) G (c0_clearStone l D cI cZ cJ h q F1 B1 (gm_tkc M k) k (by omega) (by omega) (gm_wf_ap wf1) hr1 (by omega)) gX0_takeOffUnwanted_X0_clearStone rfl 1 (by decide +kernel) rfl rfl ⟨(Nat.le_of_ble_eq_true rfl), (Nat.le_of_ble_eq_true rfl)⟩ rfl (q0 := 0) rfl (T := TX0) (N := 16) rfl gk_ok0 trivial [0, 1, 2, 3, 4, 5, 6, 7, 8, 9] rfl (by decide) [] rfl (by decide) (by decide) rfl (Nat.le_of_ble_eq_true rfl) dX0_takeOffUnwanted_36 ⟨(Nat.le_of_ble_eq_true rfl), (Nat.le_of_ble_eq_true rfl)⟩ (fun u36 hp36 => ?_)
            obtain ⟨F36, B36⟩ := u36
            have hr36 : gc_rep F36 B36 (gm_clr (gm_tkc M k) k) := hp36
            show gk_C p l e ({ frames := 2, cells := 0, slots := 0, locals := 46 } : Room) s m ([.ref h] : List Value).toArray below meth c 3 D A Q 0 0 (gs_W cI cZ h q F36 B36) [(2, .int (gm_e (gm_who (gm_tkc M k) k ((gm_tkc M k) 11 0)))), (0, .ref h), (1, .int (nI k))] 39 []
            refine gk_iinc (j := 2) (v := nI (k + 1)) (lv' := [(1, .int (nI (k + 1))), (2, .int (gm_e (gm_who (gm_tkc M k) k ((gm_tkc M k) 11 0)))), (0, .ref h)]) G dX0_takeOffUnwanted_39 rfl (nI_add k 1) (by decide) rfl ?_
            refine gk_goto (tgt := 2) G dX0_takeOffUnwanted_42 (by decide) ?_
            have r9 := gc_rep_same hr36 (gm_tkc_clr (fun i hi h7 => by rw [only i hi h7]; omega))
            exact gk_lsub [2,0] rfl (ih (k + 1) _ _ (by omega) (by omega) r9)
  refine gk_iconst (v := nI 0) G dX0_takeOffUnwanted_0 (by decide) ?_
  refine gk_istore_n (lv' := [(1, .int (nI 0)), (0, .ref h)]) G dX0_takeOffUnwanted_1 rfl (by decide) rfl ?_
  exact gk_lsub [1,0] rfl (L2 (M 10 0 + 1) 0 F B (by omega) (by omega) (gc_rep_same hr (gm_tkc_0 M)))
