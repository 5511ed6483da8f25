set_option maxRecDepth 100000 in
set_option maxHeartbeats 1000000 in
theorem c1_meanLeft (l : Launch) (D : va_G) (cI cZ cJ : ClassId) (g h1 h2 : Nat) (q : Nat → Nat) (F : Nat → Int32) (B : Nat → Nat → Int32) (q2 : Nat → Nat) (F2 : Nat → Int32) (B2 : Nat → Nat → Int32) (M : gm_M) (wf : gm_wf M) (hr : gc_rep F B M) : gk_D l yX1_meanLeft wsX1_meanLeft ({ frames := 0, cells := 0, slots := 0, locals := 0 } : Room) D (g_T cI cZ cJ) gn_E [.ref g] (gw_G g h1 h2 ++ (gs_W cI cZ h1 q F B ++ (gs_W cI cZ h2 q2 F2 B2))) 0 0 (fun (r : UInt64) (u : gw_U) => r = gm_ml M ∧ gc_rep u.1.1 u.1.2 M) (fun u => (gw_X cI cZ g h1 h2 q q2 u)) := by
  refine gk_D_of (cc := cX1_meanLeft) (nL := 4) (by decide +kernel) rfl (Nat.le_of_ble_eq_true rfl) ?_
  intro p e s m below meth c A Q hnm hE G RET
  obtain ⟨hz1, hz2, hz3, hz4, hz5, hz6, hz7, hz8⟩ := id wf
  have hg9 := gm_gct_le M (M 11 0)
  have hinX0 : ∀ w ∈ wsX00, w ∈ wsX1_meanLeft := fun w h9 => (List.mem_cons_of_mem _ (List.mem_append_right _ h9))
  have hinX1 : ∀ w ∈ wsX10, w ∈ wsX1_meanLeft := fun w h9 => (List.mem_cons_of_mem _ (List.mem_append_left _ (List.mem_append_right _ h9)))
  have k10 := G.2.2.2.2.1 (.fieldLink RX1 10 "GustMill" "now" "LGustMill$State;") (List.mem_cons_of_mem _ (List.mem_append_left _ (List.mem_append_left _ (List.mem_of_getElem? (i := 0) rfl))))
  have kN70 := gn_70 (args := ([.ref g] : List Value).toArray) hE
  have kN111 := gn_111 (args := ([.ref g] : List Value).toArray) hE
  have kN117 := gn_117 (args := ([.ref g] : List Value).toArray) hE
  refine gk_aload_n G dX1_meanLeft_0 0 rfl ?_
  refine gk_get (v' := .ref h1) G hinX1 (q0 := 0) rfl rfl 0 (by decide) k10 rfl rfl dX1_meanLeft_1 ?_
  refine gk_getN (v' := .int (nI (M 11 0))) G hinX0 (q0 := 1) rfl rfl 11 (by decide) kN70 rfl (congrArg Value.int (hr.1.2.2.1)) dX1_meanLeft_4 ?_
  refine gk_aload_n G dX1_meanLeft_7 0 rfl ?_
  refine gk_get (v' := .ref h1) G hinX1 (q0 := 0) rfl rfl 0 (by decide) k10 rfl rfl dX1_meanLeft_8 ?_
  refine gk_getN (v' := .int (nI (gm_gct M (M 11 0)))) G hinX0 (q0 := 1) rfl rfl 12 (by decide) kN117 rfl (congrArg Value.int (hr.1.2.2.2.1)) dX1_meanLeft_11 ?_
  refine gk_isub (v := nI ((M 11 0) - (gm_gct M (M 11 0)))) G dX1_meanLeft_14 (pk_sub (by omega)) ?_
  refine gk_istore_n (lv' := [(1, .int (nI ((M 11 0) - (gm_gct M (M 11 0))))), (0, .ref g)]) G dX1_meanLeft_15 rfl (by decide) rfl ?_
  refine gk_iload_n G dX1_meanLeft_16 0 rfl ?_
  refine gk_if_gt (tgt := 22) G dX1_meanLeft_17 (by decide) (fun c_17 => ?_) (fun c_17 => ?_)
  · replace c_17 := (nI_ltI (a := 0) (b := (M 11 0) - (gm_gct M (M 11 0))) (by omega) (by omega)).mp c_17
    refine gk_iconst (v := nI 0) G dX1_meanLeft_22 (by decide) ?_
    refine gk_istore_n (lv' := [(2, .int (nI 0)), (1, .int (nI ((M 11 0) - (gm_gct M (M 11 0))))), (0, .ref g)]) G dX1_meanLeft_23 rfl (by decide) rfl ?_
    refine gk_iconst (v := nI 0) G dX1_meanLeft_24 (by decide) ?_
    refine gk_istore_n (lv' := [(3, .int (nI 0)), (2, .int (nI 0)), (1, .int (nI ((M 11 0) - (gm_gct M (M 11 0))))), (0, .ref g)]) G dX1_meanLeft_25 rfl (by decide) rfl ?_
    have L26 : ∀ (n : Nat) (k : Nat), M 11 0 - k < n → (k ≤ M 11 0) → gk_C p l e ({ frames := 0, cells := 0, slots := 0, locals := 0 } : Room) s m ([.ref g] : List Value).toArray below meth c 4 D A Q 0 0 (gw_G g h1 h2 ++ (gs_W cI cZ h1 q F B ++ (gs_W cI cZ h2 q2 F2 B2))) [(0, .ref g), (1, .int (nI (M 11 0 - gm_gct M (M 11 0)))), (2, .int (nI (gm_sum M k))), (3, .int (nI k))] 26 [] := by
      intro n
      induction n with
      | zero => intro k h0; exact absurd h0 (Nat.not_lt_zero _)
      | succ n ih =>
        intro k h0 w0
        refine gk_iload_n G dX1_meanLeft_26 3 rfl ?_
        refine gk_aload_n G dX1_meanLeft_27 0 rfl ?_
        refine gk_get (v' := .ref h1) G hinX1 (q0 := 0) rfl rfl 0 (by decide) k10 rfl rfl dX1_meanLeft_28 ?_
        refine gk_getN (v' := .int (nI (M 11 0))) G hinX0 (q0 := 1) rfl rfl 11 (by decide) kN70 rfl (congrArg Value.int (hr.1.2.2.1)) dX1_meanLeft_31 ?_
        refine gk_icmp_ge (tgt := 55) G dX1_meanLeft_34 (by decide) (fun c_34 => ?_) (fun c_34 => ?_)
        · replace c_34 := (nI_leI (a := M 11 0) (b := k) (by omega) (by omega)).mp c_34
          refine gk_iload_n G dX1_meanLeft_55 2 rfl ?_
          refine gk_i2d G dX1_meanLeft_56 ?_
          refine gk_iload_n G dX1_meanLeft_57 1 rfl ?_
          refine gk_i2d G dX1_meanLeft_58 ?_
          refine gk_ddiv G dX1_meanLeft_59 (gm_mean_nn (fun q9 => by rw [gm_0 (by omega)] at q9; omega)) ?_
          exact RET _ _ _ _ _ _ ((F, B), (F2, B2)) dX1_meanLeft_60 ⟨(by rw [show k = M 11 0 by omega]; unfold gm_ml; rw [if_neg (by omega)]), hr⟩ rfl (Nat.le_of_ble_eq_true rfl) (Nat.le_of_ble_eq_true rfl)
        · replace c_34 := (not_congr (nI_leI (a := M 11 0) (b := k) (by omega) (by omega))).mp c_34
          have hk7 := hz7 k (by omega)
          have hsk := gm_sum_le wf k (by omega)
          refine gk_iload_n G dX1_meanLeft_37 2 rfl ?_
          refine gk_aload_n G dX1_meanLeft_38 0 rfl ?_
          refine gk_get (v' := .ref h1) G hinX1 (q0 := 0) rfl rfl 0 (by decide) k10 rfl rfl dX1_meanLeft_39 ?_
          refine gk_getN (v' := .ref (q 5)) G hinX0 (q0 := 1) rfl rfl 5 (by decide) kN111 rfl rfl dX1_meanLeft_42 ?_
          refine gk_iload_n G dX1_meanLeft_45 3 rfl ?_
          refine gk_iald (v := nI (M 5 k)) G (q0 := 7) (t0 := 0) rfl rfl k rfl (by omega) (by decide) (hr.2.2.2.2.2.1 k (by omega)) dX1_meanLeft_46 ?_
          refine gk_iadd (v := nI ((gm_sum M k) + (M 5 k))) G dX1_meanLeft_47 (nI_add (gm_sum M k) (M 5 k)) ?_
          refine gk_istore_n (lv' := [(2, .int (nI ((gm_sum M k) + (M 5 k)))), (0, .ref g), (1, .int (nI (M 11 0 - gm_gct M (M 11 0)))), (3, .int (nI k))]) G dX1_meanLeft_48 rfl (by decide) rfl ?_
          refine gk_iinc (j := 3) (v := nI (k + 1)) (lv' := [(3, .int (nI (k + 1))), (2, .int (nI ((gm_sum M k) + (M 5 k)))), (0, .ref g), (1, .int (nI (M 11 0 - gm_gct M (M 11 0))))]) G dX1_meanLeft_49 rfl (nI_add k 1) (by decide) rfl ?_
          refine gk_goto (tgt := 26) G dX1_meanLeft_52 (by decide) ?_
          exact gk_lsub [2,3,1,0] rfl (ih (k + 1) (by omega) (by omega))
    exact gk_lsub [3,2,1,0] rfl (L26 (M 11 0 + 1) 0 (by omega) (by omega))
  · replace c_17 := (not_congr (nI_ltI (a := 0) (b := (M 11 0) - (gm_gct M (M 11 0))) (by omega) (by omega))).mp c_17
    refine gk_dconst0 G dX1_meanLeft_20 ?_
    exact RET _ _ _ _ _ _ ((F, B), (F2, B2)) dX1_meanLeft_21 ⟨(by unfold gm_ml; rw [if_pos (by omega)]), hr⟩ rfl (Nat.le_of_ble_eq_true rfl) (Nat.le_of_ble_eq_true rfl)
