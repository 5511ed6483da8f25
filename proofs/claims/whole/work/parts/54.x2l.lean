set_option maxRecDepth 100000 in
set_option maxHeartbeats 1000000 in
theorem c2_meanLeft (l : Launch) (D : va_G) (cI cZ cJ : ClassId) (h : Nat) (q : Nat → Nat) (F : Nat → Int32) (B : Nat → Nat → Int32) (f kp g : Nat → Int32) (M : gm_M) (wf : gm_wf M) (hs : gr_st F B M) (hn : gr_now f M) (hh : M 9 0 < 2000000) : gk_D l yX2_meanLeft wsX2_meanLeft ({ frames := 2, cells := 0, slots := 0, locals := 43 } : Room) D (g_T cI cZ cJ) gk_E0 [.ref h] (gd_W cI h q F B f kp g) 0 0 (fun (r : UInt64) (u : gd_U) => r = gm_ml M ∧ gd_R u M 0) (fun u => (gd_X cI h q u)) := by
  refine gk_D_of (cc := cX2_meanLeft) (nL := 3) (by decide +kernel) rfl (Nat.le_of_ble_eq_true rfl) ?_
  intro p e s m below meth c A Q hnm hE G RET
  obtain ⟨hz1, hz2, hz3, hz4, hz5, hz6, hz7, hz8⟩ := id wf
  have hg9 := gm_gct_le M (M 11 0)
  have hinX2 : ∀ w ∈ wsX20, w ∈ wsX2_meanLeft := fun w h9 => (List.mem_cons_of_mem _ (List.mem_append_right _ h9))
  have k22 := G.2.2.2.2.1 (.fieldLink RX2 22 "GustMillModel" "now" "[I") (List.mem_cons_of_mem _ (List.mem_append_left _ (List.mem_of_getElem? (i := 2) rfl)))
  have k31 := G.2.2.2.2.1 (.fieldLink RX2 31 "GustMillModel" "thrown" "I") (List.mem_cons_of_mem _ (List.mem_append_left _ (List.mem_of_getElem? (i := 0) rfl)))
  have k42 := G.2.2.2.2.1 (.fieldLink RX2 42 "GustMillModel" "sacks" "I") (List.mem_cons_of_mem _ (List.mem_append_left _ (List.mem_of_getElem? (i := 1) rfl)))
  refine gk_aload_n G dX2_meanLeft_0 0 rfl ?_
  refine gk_iconst (v := nI 0) G dX2_meanLeft_1 (by decide) ?_
  refine gk_topi (fun v2 ev2 => ?_)
  refine gk_put (w' := (gd_W cI h q (upd F 0 v2) B f kp g)) G hinX2 tyX2_ok nmX2 (q0 := 0) rfl rfl 0 (by decide) k31 rfl rfl rfl (Nat.le_of_ble_eq_true rfl) rfl dX2_meanLeft_2 ?_
  generalize eF2 : upd F 0 v2 = F2
  have hsT : gr_st F2 B M := by rw [← eF2]; exact gr_st_0 hs
  have hT : F2 0 = nI 0 := by rw [← eF2, pk_us]; exact ev2
  refine gk_iconst (v := nI 0) G dX2_meanLeft_5 (by decide) ?_
  refine gk_istore_n (lv' := [(1, .int (nI 0)), (0, .ref h)]) G dX2_meanLeft_6 rfl (by decide) rfl ?_
  refine gk_iconst (v := nI 0) G dX2_meanLeft_7 (by decide) ?_
  refine gk_istore_n (lv' := [(2, .int (nI 0)), (1, .int (nI 0)), (0, .ref h)]) G dX2_meanLeft_8 rfl (by decide) rfl ?_
  have L9 : ∀ (n : Nat) (k : Nat), M 11 0 - k < n → (k ≤ M 11 0) → gk_C p l e ({ frames := 2, cells := 0, slots := 0, locals := 43 } : Room) s m ([.ref h] : List Value).toArray below meth c 3 D A Q 0 0 (gd_W cI h q F2 B f kp g) [(0, .ref h), (1, .int (nI (gm_sum M k))), (2, .int (nI k))] 9 [] := by
    intro n
    induction n with
    | zero => intro k h0; exact absurd h0 (Nat.not_lt_zero _)
    | succ n ih =>
      intro k h0 w0
      refine gk_iload_n G dX2_meanLeft_9 2 rfl ?_
      refine gk_aload_n G dX2_meanLeft_10 0 rfl ?_
      refine gk_get (v' := .int (nI (M 11 0))) G hinX2 (q0 := 0) rfl rfl 6 (by decide) k42 rfl (congrArg Value.int (hsT.2.2.2.1)) dX2_meanLeft_11 ?_
      refine gk_icmp_ge (tgt := 34) G dX2_meanLeft_14 (by decide) (fun c_14 => ?_) (fun c_14 => ?_)
      · replace c_14 := (nI_leI (a := M 11 0) (b := k) (by omega) (by omega)).mp c_14
        have hk9 : k = M 11 0 := by omega
        refine gk_aload_n G dX2_meanLeft_34 0 rfl ?_
        refine gk_get (v' := .int (nI (M 11 0))) G hinX2 (q0 := 0) rfl rfl 6 (by decide) k42 rfl (congrArg Value.int (hsT.2.2.2.1)) dX2_meanLeft_35 ?_
        refine gk_aload_n G dX2_meanLeft_38 0 rfl ?_
        refine gk_callIV (wr := []) G (c2_done l D cI cZ cJ h q F2 B f kp g M wf hsT hn hh) gX2_meanLeft_X2_done rfl 0 (by decide +kernel) rfl rfl ⟨(Nat.le_of_ble_eq_true rfl), (Nat.le_of_ble_eq_true rfl)⟩ rfl (q0 := 0) rfl (T := TX2) (N := 12) rfl gk_ok0 trivial [0, 1, 2, 3, 4, 5, 6, 7] rfl (by decide) [] rfl (by decide) (by decide) rfl (Nat.le_of_ble_eq_true rfl) dX2_meanLeft_39 ⟨(Nat.le_of_ble_eq_true rfl), (Nat.le_of_ble_eq_true rfl)⟩ (fun r39 u39 hp39 => ?_)
        obtain rfl : r39 = nI (gm_gct M (M 11 0)) := hp39
        show gk_C p l e ({ frames := 2, cells := 0, slots := 0, locals := 43 } : Room) s m ([.ref h] : List Value).toArray below meth c 3 D A Q 0 0 (gd_W cI h q F2 B f kp g) [(0, .ref h), (1, .int (nI (gm_sum M k))), (2, .int (nI k))] 42 [.int (nI (gm_gct M (M 11 0))), .int (nI (M 11 0))]
        refine gk_isub (v := nI ((M 11 0) - (gm_gct M (M 11 0)))) G dX2_meanLeft_42 (pk_sub (by omega)) ?_
        refine gk_istore_n (lv' := [(2, .int (nI ((M 11 0) - (gm_gct M (M 11 0))))), (0, .ref h), (1, .int (nI (gm_sum M k)))]) G dX2_meanLeft_43 rfl (by decide) rfl ?_
        refine gk_iload_n G dX2_meanLeft_44 0 rfl ?_
        refine gk_if_ne (tgt := 52) G dX2_meanLeft_45 (by decide) (fun c_45 => ?_) (fun c_45 => ?_)
        · replace c_45 := (not_congr (nI_eq (a := (M 11 0) - (gm_gct M (M 11 0))) (b := 0) (by omega) (by omega))).mp c_45
          refine gk_iload_n G dX2_meanLeft_52 2 rfl ?_
          refine gk_i2d G dX2_meanLeft_53 ?_
          refine gk_iload_n G dX2_meanLeft_54 0 rfl ?_
          refine gk_i2d G dX2_meanLeft_55 ?_
          refine gk_ddiv G dX2_meanLeft_56 (gm_mean_nn (fun q9 => by rw [gm_0 (by omega)] at q9; omega)) ?_
          exact RET _ _ _ _ _ _ (F2, B, f, kp, g) dX2_meanLeft_57 ⟨(by rw [hk9]; unfold gm_ml; rw [if_neg (by omega)]), hsT, hn, hT⟩ rfl (Nat.le_of_ble_eq_true rfl) (Nat.le_of_ble_eq_true rfl)
        · replace c_45 := (nI_eq (a := (M 11 0) - (gm_gct M (M 11 0))) (b := 0) (by omega) (by omega)).mp c_45
          refine gk_dconst0 G dX2_meanLeft_48 ?_
          refine gk_goto (tgt := 57) G dX2_meanLeft_49 (by decide) ?_
          exact RET _ _ _ _ _ _ (F2, B, f, kp, g) dX2_meanLeft_57 ⟨(by unfold gm_ml; rw [if_pos (by omega)]), hsT, hn, hT⟩ rfl (Nat.le_of_ble_eq_true rfl) (Nat.le_of_ble_eq_true rfl)
      · replace c_14 := (not_congr (nI_leI (a := M 11 0) (b := k) (by omega) (by omega))).mp c_14
        have hk7 := hz7 k (by omega)
        have hsk := gm_sum_le wf k (by omega)
        refine gk_iload_n G dX2_meanLeft_17 1 rfl ?_
        refine gk_aload_n G dX2_meanLeft_18 0 rfl ?_
        refine gk_get (v' := .ref (q 9)) G hinX2 (q0 := 0) rfl rfl 9 (by decide) k22 rfl rfl dX2_meanLeft_19 ?_
        refine gk_iconst (v := nI 3) G dX2_meanLeft_22 (by decide) ?_
        refine gk_iload_n G dX2_meanLeft_23 2 rfl ?_
        refine gk_iadd (v := nI (3 + k)) G dX2_meanLeft_24 (nI_add 3 k) ?_
        refine gk_iald (v := nI (M 5 k)) G (q0 := 5) (t0 := 0) rfl rfl (3 + k) rfl (by omega) (by decide) (hn.2.2.2.1 k (by omega)) dX2_meanLeft_25 ?_
        refine gk_iadd (v := nI ((gm_sum M k) + (M 5 k))) G dX2_meanLeft_26 (nI_add (gm_sum M k) (M 5 k)) ?_
        refine gk_istore_n (lv' := [(1, .int (nI ((gm_sum M k) + (M 5 k)))), (0, .ref h), (2, .int (nI k))]) G dX2_meanLeft_27 rfl (by decide) rfl ?_
        refine gk_iinc (j := 2) (v := nI (k + 1)) (lv' := [(2, .int (nI (k + 1))), (1, .int (nI ((gm_sum M k) + (M 5 k)))), (0, .ref h)]) G dX2_meanLeft_28 rfl (nI_add k 1) (by decide) rfl ?_
        refine gk_goto (tgt := 9) G dX2_meanLeft_31 (by decide) ?_
        exact gk_lsub [2,1,0] rfl (ih (k + 1) (by omega) (by omega))
  exact gk_lsub [2,1,0] rfl (L9 (M 11 0 + 1) 0 (by omega) (by omega))
