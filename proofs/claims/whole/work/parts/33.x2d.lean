set_option maxRecDepth 100000 in
set_option maxHeartbeats 1000000 in
theorem c2_done (l : Launch) (D : va_G) (cI cZ cJ : ClassId) (h : Nat) (q : Nat → Nat) (F : Nat → Int32) (B : Nat → Nat → Int32) (f kp g : Nat → Int32) (M : gm_M) (wf : gm_wf M) (hs : gr_st F B M) (hn : gr_now f M) (hh : M 9 0 < 2000000) : gk_I l yX2_done wsX2_done ({ frames := 1, cells := 0, slots := 0, locals := 21 } : Room) D (g_T cI cZ cJ) gk_E0 [.ref h] (gd_W cI h q F B f kp g) 0 0 (fun (r : Int32) (u : Unit) => r = nI (gm_gct M (M 11 0))) (fun u => (gd_W cI h q F B f kp g)) := by
  refine gk_I_of (ty := .int) (cc := cX2_done) (nL := 3) (by decide +kernel) rfl (Nat.le_of_ble_eq_true rfl) ?_
  intro p e s m below meth c A Q hnm hE G RET
  obtain ⟨hz1, hz2, hz3, hz4, hz5, hz6, hz7, hz8⟩ := id wf
  have hinX2 : ∀ w ∈ wsX20, w ∈ wsX2_done := fun w h9 => (List.mem_cons_of_mem _ (List.mem_append_right _ h9))
  have k42 := G.2.2.2.2.1 (.fieldLink RX2 42 "GustMillModel" "sacks" "I") (List.mem_cons_of_mem _ (List.mem_append_left _ (List.mem_of_getElem? (i := 0) rfl)))
  have L4 : ∀ (n : Nat) (k : Nat), M 11 0 - k < n → (k ≤ M 11 0) → gk_C p l e ({ frames := 1, cells := 0, slots := 0, locals := 21 } : Room) s m ([.ref h] : List Value).toArray below meth c 3 D A Q 0 0 (gd_W cI h q F B f kp g) [(0, .ref h), (1, .int (nI (gm_gct M k))), (2, .int (nI k))] 4 [] := by
    intro n
    induction n with
    | zero => intro k h0; exact absurd h0 (Nat.not_lt_zero _)
    | succ n ih =>
      intro k h0 w0
      refine gk_iload_n G dX2_done_4 2 rfl ?_
      refine gk_aload_n G dX2_done_5 0 rfl ?_
      refine gk_get (v' := .int (nI (M 11 0))) G hinX2 (q0 := 0) rfl rfl 6 (by decide) k42 rfl (congrArg Value.int (hs.2.2.2.1)) dX2_done_6 ?_
      refine gk_icmp_ge (tgt := 34) G dX2_done_9 (by decide) (fun c_9 => ?_) (fun c_9 => ?_)
      · replace c_9 := (nI_leI (a := M 11 0) (b := k) (by omega) (by omega)).mp c_9
        refine gk_iload_n G dX2_done_34 1 rfl ?_
        exact RET _ _ _ _ _ _ () dX2_done_35 rfl (by rw [show k = M 11 0 by omega]) rfl (Nat.le_of_ble_eq_true rfl) (Nat.le_of_ble_eq_true rfl)
      · replace c_9 := (not_congr (nI_leI (a := M 11 0) (b := k) (by omega) (by omega))).mp c_9
        refine gk_iload_n G dX2_done_12 1 rfl ?_
        refine gk_aload_n G dX2_done_13 0 rfl ?_
        refine gk_iload_n G dX2_done_14 2 rfl ?_
        refine gk_callIV (wr := []) G (c2_isDone l D cI cZ cJ h q F B f kp g M k wf hs hn hh (by omega)) gX2_done_X2_isDone rfl 1 (by decide +kernel) rfl rfl ⟨(Nat.le_of_ble_eq_true rfl), (Nat.le_of_ble_eq_true rfl)⟩ rfl (q0 := 0) rfl (T := TX2) (N := 12) rfl gk_ok0 trivial [0, 1, 2, 3, 4, 5, 6, 7] rfl (by decide) [] rfl (by decide) (by decide) rfl (Nat.le_of_ble_eq_true rfl) dX2_done_15 ⟨(Nat.le_of_ble_eq_true rfl), (Nat.le_of_ble_eq_true rfl)⟩ (fun r15 u15 hp15 => ?_)
        obtain rfl : r15 = gm_b (M 8 k ≠ 0) := hp15
        show gk_C p l e ({ frames := 1, cells := 0, slots := 0, locals := 21 } : Room) s m ([.ref h] : List Value).toArray below meth c 3 D A Q 0 0 (gd_W cI h q F B f kp g) [(0, .ref h), (1, .int (nI (gm_gct M k))), (2, .int (nI k))] 18 [.int (gm_b (M 8 k ≠ 0)), .int (nI (gm_gct M k))]
        refine gk_if_eq (tgt := 25) G dX2_done_18 (by decide) (fun c_18 => ?_) (fun c_18 => ?_)
        · replace c_18 := gm_b_eq.mp c_18
          refine gk_iconst (v := nI 0) G dX2_done_25 (by decide) ?_
          refine gk_iadd (v := nI ((gm_gct M k) + 0)) G dX2_done_26 (nI_add (gm_gct M k) 0) ?_
          refine gk_istore_n (lv' := [(1, .int (nI ((gm_gct M k) + 0))), (0, .ref h), (2, .int (nI k))]) G dX2_done_27 rfl (by decide) rfl ?_
          refine gk_iinc (j := 2) (v := nI (k + 1)) (lv' := [(2, .int (nI (k + 1))), (1, .int (nI ((gm_gct M k) + 0))), (0, .ref h)]) G dX2_done_28 rfl (nI_add k 1) (by decide) rfl ?_
          refine gk_goto (tgt := 4) G dX2_done_31 (by decide) ?_
          have e9 : nI (gm_gct M (k + 1)) = nI ((gm_gct M k) + 0) := by
            show nI (gm_gct M k + (if M 8 k = 0 then 0 else 1)) = _
            rw [if_pos (Decidable.not_not.mp c_18)]
          have t9 := ih (k + 1) (by omega) (by omega)
          rw [e9] at t9
          exact gk_lsub [2,1,0] rfl t9
        · replace c_18 := gm_b_ne.mp c_18
          refine gk_iconst (v := nI 1) G dX2_done_21 (by decide) ?_
          refine gk_goto (tgt := 26) G dX2_done_22 (by decide) ?_
          refine gk_iadd (v := nI ((gm_gct M k) + 1)) G dX2_done_26 (nI_add (gm_gct M k) 1) ?_
          refine gk_istore_n (lv' := [(1, .int (nI ((gm_gct M k) + 1))), (0, .ref h), (2, .int (nI k))]) G dX2_done_27 rfl (by decide) rfl ?_
          refine gk_iinc (j := 2) (v := nI (k + 1)) (lv' := [(2, .int (nI (k + 1))), (1, .int (nI ((gm_gct M k) + 1))), (0, .ref h)]) G dX2_done_28 rfl (nI_add k 1) (by decide) rfl ?_
          refine gk_goto (tgt := 4) G dX2_done_31 (by decide) ?_
          have e9 : nI (gm_gct M (k + 1)) = nI ((gm_gct M k) + 1) := by
            show nI (gm_gct M k + (if M 8 k = 0 then 0 else 1)) = _
            rw [if_neg c_18]
          have t9 := ih (k + 1) (by omega) (by omega)
          rw [e9] at t9
          exact gk_lsub [2,1,0] rfl t9
  refine gk_iconst (v := nI 0) G dX2_done_0 (by decide) ?_
  refine gk_istore_n (lv' := [(1, .int (nI 0)), (0, .ref h)]) G dX2_done_1 rfl (by decide) rfl ?_
  refine gk_iconst (v := nI 0) G dX2_done_2 (by decide) ?_
  refine gk_istore_n (lv' := [(2, .int (nI 0)), (1, .int (nI 0)), (0, .ref h)]) G dX2_done_3 rfl (by decide) rfl ?_
  exact gk_lsub [2,1,0] rfl (L4 (M 11 0 + 1) 0 (by omega) (by omega))
set_option maxRecDepth 100000 in
set_option maxHeartbeats 1000000 in
theorem c2_rest (l : Launch) (D : va_G) (cI cZ cJ : ClassId) (h : Nat) (q : Nat → Nat) (F : Nat → Int32) (B : Nat → Nat → Int32) (f kp g : Nat → Int32) (M : gm_M) (b0 : Nat) (wf : gm_wf M) (hs : gr_st F B M) (hn : gr_now f M) (hb : b0 < 8) : gk_I l yX2_rest wsX2_rest ({ frames := 0, cells := 0, slots := 0, locals := 0 } : Room) D (g_T cI cZ cJ) gk_E0 [.ref h, .int (nI b0)] (gd_W cI h q F B f kp g) 0 0 (fun (r : Int32) (u : Unit) => r = nI (gm_rst M b0 (M 11 0))) (fun u => (gd_W cI h q F B f kp g)) := by
  refine gk_I_of (ty := .int) (cc := cX2_rest) (nL := 4) (by decide +kernel) rfl (Nat.le_of_ble_eq_true rfl) ?_
  intro p e s m below meth c A Q hnm hE G RET
  obtain ⟨hz1, hz2, hz3, hz4, hz5, hz6, hz7, hz8⟩ := id wf
  have hinX2 : ∀ w ∈ wsX20, w ∈ wsX2_rest := fun w h9 => (List.mem_cons_of_mem _ (List.mem_append_right _ h9))
  have k16 := G.2.2.2.2.1 (.fieldLink RX2 16 "GustMillModel" "baker" "[I") (List.mem_cons_of_mem _ (List.mem_append_left _ (List.mem_of_getElem? (i := 1) rfl)))
  have k22 := G.2.2.2.2.1 (.fieldLink RX2 22 "GustMillModel" "now" "[I") (List.mem_cons_of_mem _ (List.mem_append_left _ (List.mem_of_getElem? (i := 2) rfl)))
  have k42 := G.2.2.2.2.1 (.fieldLink RX2 42 "GustMillModel" "sacks" "I") (List.mem_cons_of_mem _ (List.mem_append_left _ (List.mem_of_getElem? (i := 0) rfl)))
  have L4 : ∀ (n : Nat) (k : Nat), M 11 0 - k < n → (k ≤ M 11 0) → gk_C p l e ({ frames := 0, cells := 0, slots := 0, locals := 0 } : Room) s m ([.ref h, .int (nI b0)] : List Value).toArray below meth c 4 D A Q 0 0 (gd_W cI h q F B f kp g) [(0, .ref h), (1, .int (nI b0)), (2, .int (nI (gm_rst M b0 k))), (3, .int (nI k))] 4 [] := by
    intro n
    induction n with
    | zero => intro k h0; exact absurd h0 (Nat.not_lt_zero _)
    | succ n ih =>
      intro k h0 w0
      refine gk_iload_n G dX2_rest_4 3 rfl ?_
      refine gk_aload_n G dX2_rest_5 0 rfl ?_
      refine gk_get (v' := .int (nI (M 11 0))) G hinX2 (q0 := 0) rfl rfl 6 (by decide) k42 rfl (congrArg Value.int (hs.2.2.2.1)) dX2_rest_6 ?_
      refine gk_icmp_ge (tgt := 43) G dX2_rest_9 (by decide) (fun c_9 => ?_) (fun c_9 => ?_)
      · replace c_9 := (nI_leI (a := M 11 0) (b := k) (by omega) (by omega)).mp c_9
        refine gk_iload_n G dX2_rest_43 2 rfl ?_
        exact RET _ _ _ _ _ _ () dX2_rest_44 rfl (by rw [show k = M 11 0 by omega]) rfl (Nat.le_of_ble_eq_true rfl) (Nat.le_of_ble_eq_true rfl)
      · replace c_9 := (not_congr (nI_leI (a := M 11 0) (b := k) (by omega) (by omega))).mp c_9
        have hk7 := hz7 k (by omega)
        refine gk_iload_n G dX2_rest_12 2 rfl ?_
        refine gk_aload_n G dX2_rest_13 0 rfl ?_
        refine gk_get (v' := .ref (q 7)) G hinX2 (q0 := 0) rfl rfl 7 (by decide) k16 rfl rfl dX2_rest_14 ?_
        refine gk_iload_n G dX2_rest_17 3 rfl ?_
        refine gk_iald (v := nI (M 4 k)) G (q0 := 3) (t0 := 0) rfl rfl k rfl (by omega) (by decide) (hs.2.2.2.2.2.2.1 k (by omega)) dX2_rest_18 ?_
        refine gk_iload_n G dX2_rest_19 1 rfl ?_
        refine gk_icmp_ne (tgt := 34) G dX2_rest_20 (by decide) (fun c_20 => ?_) (fun c_20 => ?_)
        · replace c_20 := (not_congr (nI_eq (a := M 4 k) (b := b0) (by omega) (by omega))).mp c_20
          refine gk_iconst (v := nI 0) G dX2_rest_34 (by decide) ?_
          refine gk_iadd (v := nI ((gm_rst M b0 k) + 0)) G dX2_rest_35 (nI_add (gm_rst M b0 k) 0) ?_
          refine gk_istore_n (lv' := [(2, .int (nI ((gm_rst M b0 k) + 0))), (0, .ref h), (1, .int (nI b0)), (3, .int (nI k))]) G dX2_rest_36 rfl (by decide) rfl ?_
          refine gk_iinc (j := 3) (v := nI (k + 1)) (lv' := [(3, .int (nI (k + 1))), (2, .int (nI ((gm_rst M b0 k) + 0))), (0, .ref h), (1, .int (nI b0))]) G dX2_rest_37 rfl (nI_add k 1) (by decide) rfl ?_
          refine gk_goto (tgt := 4) G dX2_rest_40 (by decide) ?_
          have e9 : nI (gm_rst M b0 (k + 1)) = nI ((gm_rst M b0 k) + 0) := by
            show nI (gm_rst M b0 k + (if M 4 k = b0 then M 5 k else 0)) = _
            rw [if_neg c_20]
          have t9 := ih (k + 1) (by omega) (by omega)
          rw [e9] at t9
          exact gk_lsub [2,3,1,0] rfl t9
        · replace c_20 := (nI_eq (a := M 4 k) (b := b0) (by omega) (by omega)).mp c_20
          refine gk_aload_n G dX2_rest_23 0 rfl ?_
          refine gk_get (v' := .ref (q 9)) G hinX2 (q0 := 0) rfl rfl 9 (by decide) k22 rfl rfl dX2_rest_24 ?_
          refine gk_iconst (v := nI 3) G dX2_rest_27 (by decide) ?_
          refine gk_iload_n G dX2_rest_28 3 rfl ?_
          refine gk_iadd (v := nI (3 + k)) G dX2_rest_29 (nI_add 3 k) ?_
          refine gk_iald (v := nI (M 5 k)) G (q0 := 5) (t0 := 0) rfl rfl (3 + k) rfl (by omega) (by decide) (hn.2.2.2.1 k (by omega)) dX2_rest_30 ?_
          refine gk_goto (tgt := 35) G dX2_rest_31 (by decide) ?_
          refine gk_iadd (v := nI ((gm_rst M b0 k) + (M 5 k))) G dX2_rest_35 (nI_add (gm_rst M b0 k) (M 5 k)) ?_
          refine gk_istore_n (lv' := [(2, .int (nI ((gm_rst M b0 k) + (M 5 k)))), (0, .ref h), (1, .int (nI b0)), (3, .int (nI k))]) G dX2_rest_36 rfl (by decide) rfl ?_
          refine gk_iinc (j := 3) (v := nI (k + 1)) (lv' := [(3, .int (nI (k + 1))), (2, .int (nI ((gm_rst M b0 k) + (M 5 k)))), (0, .ref h), (1, .int (nI b0))]) G dX2_rest_37 rfl (nI_add k 1) (by decide) rfl ?_
          refine gk_goto (tgt := 4) G dX2_rest_40 (by decide) ?_
          have e9 : nI (gm_rst M b0 (k + 1)) = nI ((gm_rst M b0 k) + (M 5 k)) := by
            show nI (gm_rst M b0 k + (if M 4 k = b0 then M 5 k else 0)) = _
            rw [if_pos (by first | exact c_20 | exact Decidable.not_not.mp c_20)]
          have t9 := ih (k + 1) (by omega) (by omega)
          rw [e9] at t9
          exact gk_lsub [2,3,1,0] rfl t9
  refine gk_iconst (v := nI 0) G dX2_rest_0 (by decide) ?_
  refine gk_istore_n (lv' := [(2, .int (nI 0)), (0, .ref h), (1, .int (nI b0))]) G dX2_rest_1 rfl (by decide) rfl ?_
  refine gk_iconst (v := nI 0) G dX2_rest_2 (by decide) ?_
  refine gk_istore_n (lv' := [(3, .int (nI 0)), (2, .int (nI 0)), (0, .ref h), (1, .int (nI b0))]) G dX2_rest_3 rfl (by decide) rfl ?_
  exact gk_lsub [2,3,1,0] rfl (L4 (M 11 0 + 1) 0 (by omega) (by omega))
set_option maxRecDepth 100000 in
set_option maxHeartbeats 1000000 in
theorem c2_lost (l : Launch) (D : va_G) (cI cZ cJ : ClassId) (h : Nat) (q : Nat → Nat) (F : Nat → Int32) (B : Nat → Nat → Int32) (f kp g : Nat → Int32) (M : gm_M) (o0 : Nat) (wf : gm_wf M) (hs : gr_st F B M) (hn : gr_now f M) (hh : M 9 0 < 2000000) : gk_I l yX2_lost wsX2_lost ({ frames := 1, cells := 0, slots := 0, locals := 21 } : Room) D (g_T cI cZ cJ) gk_E0 [.ref h, .int (nI o0)] (gd_W cI h q F B f kp g) 0 0 (fun (r : Int32) (u : Unit) => r = nI (gm_late M o0 (M 11 0))) (fun u => (gd_W cI h q F B f kp g)) := by
  refine gk_I_of (ty := .int) (cc := cX2_lost) (nL := 4) (by decide +kernel) rfl (Nat.le_of_ble_eq_true rfl) ?_
  intro p e s m below meth c A Q hnm hE G RET
  obtain ⟨hz1, hz2, hz3, hz4, hz5, hz6, hz7, hz8⟩ := id wf
  have hinX2 : ∀ w ∈ wsX20, w ∈ wsX2_lost := fun w h9 => (List.mem_cons_of_mem _ (List.mem_append_right _ h9))
  have k19 := G.2.2.2.2.1 (.fieldLink RX2 19 "GustMillModel" "until" "[I") (List.mem_cons_of_mem _ (List.mem_append_left _ (List.mem_of_getElem? (i := 2) rfl)))
  have k22 := G.2.2.2.2.1 (.fieldLink RX2 22 "GustMillModel" "now" "[I") (List.mem_cons_of_mem _ (List.mem_append_left _ (List.mem_of_getElem? (i := 1) rfl)))
  have k42 := G.2.2.2.2.1 (.fieldLink RX2 42 "GustMillModel" "sacks" "I") (List.mem_cons_of_mem _ (List.mem_append_left _ (List.mem_of_getElem? (i := 0) rfl)))
  have L4 : ∀ (n : Nat) (k : Nat), M 11 0 - k < n → (k ≤ M 11 0) → gk_C p l e ({ frames := 1, cells := 0, slots := 0, locals := 21 } : Room) s m ([.ref h, .int (nI o0)] : List Value).toArray below meth c 4 D A Q 0 0 (gd_W cI h q F B f kp g) [(0, .ref h), (1, .int (nI o0)), (2, .int (nI (gm_late M o0 k))), (3, .int (nI k))] 4 [] := by
    intro n
    induction n with
    | zero => intro k h0; exact absurd h0 (Nat.not_lt_zero _)
    | succ n ih =>
      intro k h0 w0
      refine gk_iload_n G dX2_lost_4 3 rfl ?_
      refine gk_aload_n G dX2_lost_5 0 rfl ?_
      refine gk_get (v' := .int (nI (M 11 0))) G hinX2 (q0 := 0) rfl rfl 6 (by decide) k42 rfl (congrArg Value.int (hs.2.2.2.1)) dX2_lost_6 ?_
      refine gk_icmp_ge (tgt := 53) G dX2_lost_9 (by decide) (fun c_9 => ?_) (fun c_9 => ?_)
      · replace c_9 := (nI_leI (a := M 11 0) (b := k) (by omega) (by omega)).mp c_9
        refine gk_iload_n G dX2_lost_53 2 rfl ?_
        exact RET _ _ _ _ _ _ () dX2_lost_54 rfl (by rw [show k = M 11 0 by omega]) rfl (Nat.le_of_ble_eq_true rfl) (Nat.le_of_ble_eq_true rfl)
      · replace c_9 := (not_congr (nI_leI (a := M 11 0) (b := k) (by omega) (by omega))).mp c_9
        have hk7 := hz7 k (by omega)
        refine gk_iload_n G dX2_lost_12 2 rfl ?_
        refine gk_aload_n G dX2_lost_13 0 rfl ?_
        refine gk_iload_n G dX2_lost_14 3 rfl ?_
        refine gk_callIV (wr := []) G (c2_isDone l D cI cZ cJ h q F B f kp g M k wf hs hn hh (by omega)) gX2_lost_X2_isDone rfl 1 (by decide +kernel) rfl rfl ⟨(Nat.le_of_ble_eq_true rfl), (Nat.le_of_ble_eq_true rfl)⟩ rfl (q0 := 0) rfl (T := TX2) (N := 12) rfl gk_ok0 trivial [0, 1, 2, 3, 4, 5, 6, 7] rfl (by decide) [] rfl (by decide) (by decide) rfl (Nat.le_of_ble_eq_true rfl) dX2_lost_15 ⟨(Nat.le_of_ble_eq_true rfl), (Nat.le_of_ble_eq_true rfl)⟩ (fun r15 u15 hp15 => ?_)
        obtain rfl : r15 = gm_b (M 8 k ≠ 0) := hp15
        show gk_C p l e ({ frames := 1, cells := 0, slots := 0, locals := 21 } : Room) s m ([.ref h, .int (nI o0)] : List Value).toArray below meth c 4 D A Q 0 0 (gd_W cI h q F B f kp g) [(0, .ref h), (1, .int (nI o0)), (2, .int (nI (gm_late M o0 k))), (3, .int (nI k))] 18 [.int (gm_b (M 8 k ≠ 0)), .int (nI (gm_late M o0 k))]
        refine gk_if_eq (tgt := 44) G dX2_lost_18 (by decide) (fun c_18 => ?_) (fun c_18 => ?_)
        · replace c_18 := gm_b_eq.mp c_18
          refine gk_iload_n G dX2_lost_44 1 rfl ?_
          refine gk_iadd (v := nI ((gm_late M o0 k) + o0)) G dX2_lost_45 (nI_add (gm_late M o0 k) o0) ?_
          refine gk_istore_n (lv' := [(2, .int (nI ((gm_late M o0 k) + o0))), (0, .ref h), (1, .int (nI o0)), (3, .int (nI k))]) G dX2_lost_46 rfl (by decide) rfl ?_
          refine gk_iinc (j := 3) (v := nI (k + 1)) (lv' := [(3, .int (nI (k + 1))), (2, .int (nI ((gm_late M o0 k) + o0))), (0, .ref h), (1, .int (nI o0))]) G dX2_lost_47 rfl (nI_add k 1) (by decide) rfl ?_
          refine gk_goto (tgt := 4) G dX2_lost_50 (by decide) ?_
          have e9 : nI (gm_late M o0 (k + 1)) = nI ((gm_late M o0 k) + o0) := by
            show nI (gm_late M o0 k + (if M 8 k = 0 then o0 else M 8 k - 1 - M 6 k)) = _
            rw [if_pos (Decidable.not_not.mp c_18)]
          have t9 := ih (k + 1) (by omega) (by omega)
          rw [e9] at t9
          exact gk_lsub [2,3,1,0] rfl t9
        · replace c_18 := gm_b_ne.mp c_18
          refine gk_iconst (v := nI 0) G dX2_lost_21 (by decide) ?_
          refine gk_aload_n G dX2_lost_22 0 rfl ?_
          refine gk_get (v' := .ref (q 9)) G hinX2 (q0 := 0) rfl rfl 9 (by decide) k22 rfl rfl dX2_lost_23 ?_
          refine gk_bipush (v := nI 19) G dX2_lost_26 (by decide) ?_
          refine gk_iload_n G dX2_lost_28 3 rfl ?_
          refine gk_iadd (v := nI (19 + k)) G dX2_lost_29 (nI_add 19 k) ?_
          refine gk_iald (v := gm_e (M 8 k)) G (q0 := 5) (t0 := 0) rfl rfl (19 + k) rfl (by omega) (by decide) (hn.2.2.2.2.1 k (by omega)) dX2_lost_30 ?_
          refine gk_aload_n G dX2_lost_31 0 rfl ?_
          refine gk_get (v' := .ref (q 8)) G hinX2 (q0 := 0) rfl rfl 8 (by decide) k19 rfl rfl dX2_lost_32 ?_
          refine gk_iload_n G dX2_lost_35 3 rfl ?_
          refine gk_iald (v := nI (M 6 k)) G (q0 := 4) (t0 := 0) rfl rfl k rfl (by omega) (by decide) (hs.2.2.2.2.2.2.2 k (by omega)) dX2_lost_36 ?_
          refine gk_isub (v := (gm_e (M 8 k)) - (nI (M 6 k))) G dX2_lost_37 rfl ?_
          refine gk_mmax (v := nI (M 8 k - 1 - M 6 k)) G (G.2.2.2.2.1 (.methodLink RX2 118 Lib.Math.max.name) (List.mem_cons_of_mem _ (List.mem_append_left _ (List.mem_of_getElem? (i := 3) rfl)))) (G.2.2.2.2.1 (.static Lib.Math.max.name) (List.mem_cons_of_mem _ (List.mem_append_left _ (List.mem_of_getElem? (i := 4) rfl)))) (G.2.2.2.2.1 (.initialized "java/lang/Math") (List.mem_cons_of_mem _ (List.mem_append_left _ (List.mem_of_getElem? (i := 5) rfl)))) (G.2.2.2.2.1 (.code Lib.Math.max.name Lib.Math.max.code 2 (some .int)) (List.mem_cons_of_mem _ (List.mem_append_left _ (List.mem_of_getElem? (i := 6) rfl)))) (Nat.le_of_ble_eq_true rfl) (Nat.le_of_ble_eq_true rfl) (Nat.le_of_ble_eq_true rfl) (Nat.le_of_ble_eq_true rfl) (gm_max0 c_18 (by omega) (by omega)) dX2_lost_38 ?_
          refine gk_goto (tgt := 45) G dX2_lost_41 (by decide) ?_
          refine gk_iadd (v := nI ((gm_late M o0 k) + (M 8 k - 1 - M 6 k))) G dX2_lost_45 (nI_add (gm_late M o0 k) (M 8 k - 1 - M 6 k)) ?_
          refine gk_istore_n (lv' := [(2, .int (nI ((gm_late M o0 k) + (M 8 k - 1 - M 6 k)))), (0, .ref h), (1, .int (nI o0)), (3, .int (nI k))]) G dX2_lost_46 rfl (by decide) rfl ?_
          refine gk_iinc (j := 3) (v := nI (k + 1)) (lv' := [(3, .int (nI (k + 1))), (2, .int (nI ((gm_late M o0 k) + (M 8 k - 1 - M 6 k)))), (0, .ref h), (1, .int (nI o0))]) G dX2_lost_47 rfl (nI_add k 1) (by decide) rfl ?_
          refine gk_goto (tgt := 4) G dX2_lost_50 (by decide) ?_
          have e9 : nI (gm_late M o0 (k + 1)) = nI ((gm_late M o0 k) + (M 8 k - 1 - M 6 k)) := by
            show nI (gm_late M o0 k + (if M 8 k = 0 then o0 else M 8 k - 1 - M 6 k)) = _
            rw [if_neg c_18]
          have t9 := ih (k + 1) (by omega) (by omega)
          rw [e9] at t9
          exact gk_lsub [2,3,1,0] rfl t9
  refine gk_iconst (v := nI 0) G dX2_lost_0 (by decide) ?_
  refine gk_istore_n (lv' := [(2, .int (nI 0)), (0, .ref h), (1, .int (nI o0))]) G dX2_lost_1 rfl (by decide) rfl ?_
  refine gk_iconst (v := nI 0) G dX2_lost_2 (by decide) ?_
  refine gk_istore_n (lv' := [(3, .int (nI 0)), (2, .int (nI 0)), (0, .ref h), (1, .int (nI o0))]) G dX2_lost_3 rfl (by decide) rfl ?_
  exact gk_lsub [2,3,1,0] rfl (L4 (M 11 0 + 1) 0 (by omega) (by omega))
def gm_plc (M : gm_M) (j : Nat) : Int32 := if M 8 j = 0 then nI (gm_cnt M j (M 11 0)) else -1
set_option maxRecDepth 100000 in
set_option maxHeartbeats 1000000 in
theorem c2_place (l : Launch) (D : va_G) (cI cZ cJ : ClassId) (h : Nat) (q : Nat → Nat) (F : Nat → Int32) (B : Nat → Nat → Int32) (f kp g : Nat → Int32) (M : gm_M) (j : Nat) (wf : gm_wf M) (hs : gr_st F B M) (hn : gr_now f M) (hh : M 9 0 < 2000000) (hj : j < M 11 0) : gk_I l yX2_place wsX2_place ({ frames := 2, cells := 0, slots := 0, locals := 44 } : Room) D (g_T cI cZ cJ) gk_E0 [.ref h, .int (nI j)] (gd_W cI h q F B f kp g) 0 0 (fun (r : Int32) (u : Unit) => r = gm_plc M j) (fun u => (gd_W cI h q F B f kp g)) := by
  refine gk_I_of (ty := .int) (cc := cX2_place) (nL := 2) (by decide +kernel) rfl (Nat.le_of_ble_eq_true rfl) ?_
  intro p e s m below meth c A Q hnm hE G RET
  obtain ⟨hz1, hz2, hz3, hz4, hz5, hz6, hz7, hz8⟩ := id wf
  refine gk_aload_n G dX2_place_0 0 rfl ?_
  refine gk_iload_n G dX2_place_1 1 rfl ?_
  refine gk_callIV (wr := []) G (c2_isDone l D cI cZ cJ h q F B f kp g M j wf hs hn hh hj) gX2_place_X2_isDone rfl 1 (by decide +kernel) rfl rfl ⟨(Nat.le_of_ble_eq_true rfl), (Nat.le_of_ble_eq_true rfl)⟩ rfl (q0 := 0) rfl (T := TX2) (N := 12) rfl gk_ok0 trivial [0, 1, 2, 3, 4, 5, 6, 7] rfl (by decide) [] rfl (by decide) (by decide) rfl (Nat.le_of_ble_eq_true rfl) dX2_place_2 ⟨(Nat.le_of_ble_eq_true rfl), (Nat.le_of_ble_eq_true rfl)⟩ (fun r2 u2 hp2 => ?_)
  obtain rfl : r2 = gm_b (M 8 j ≠ 0) := hp2
  show gk_C p l e ({ frames := 2, cells := 0, slots := 0, locals := 44 } : Room) s m ([.ref h, .int (nI j)] : List Value).toArray below meth c 2 D A Q 0 0 (gd_W cI h q F B f kp g) [(0, .ref h), (1, .int (nI j))] 5 [.int (gm_b (M 8 j ≠ 0))]
  refine gk_if_eq (tgt := 12) G dX2_place_5 (by decide) (fun c_5 => ?_) (fun c_5 => ?_)
  · replace c_5 := gm_b_eq.mp c_5
    refine gk_aload_n G dX2_place_12 0 rfl ?_
    refine gk_iload_n G dX2_place_13 1 rfl ?_
    refine gk_callIV (wr := []) G (c2_ahead l D cI cZ cJ h q F B f kp g M j wf hs hn hh hj) gX2_place_X2_ahead rfl 1 (by decide +kernel) rfl rfl ⟨(Nat.le_of_ble_eq_true rfl), (Nat.le_of_ble_eq_true rfl)⟩ rfl (q0 := 0) rfl (T := TX2) (N := 12) rfl gk_ok0 trivial [0, 1, 2, 3, 4, 5, 6, 7] rfl (by decide) [] rfl (by decide) (by decide) rfl (Nat.le_of_ble_eq_true rfl) dX2_place_14 ⟨(Nat.le_of_ble_eq_true rfl), (Nat.le_of_ble_eq_true rfl)⟩ (fun r14 u14 hp14 => ?_)
    obtain rfl : r14 = nI (gm_cnt M j (M 11 0)) := hp14
    show gk_C p l e ({ frames := 2, cells := 0, slots := 0, locals := 44 } : Room) s m ([.ref h, .int (nI j)] : List Value).toArray below meth c 2 D A Q 0 0 (gd_W cI h q F B f kp g) [(0, .ref h), (1, .int (nI j))] 17 [.int (nI (gm_cnt M j (M 11 0)))]
    exact RET _ _ _ _ _ _ () dX2_place_17 rfl (by unfold gm_plc; first | rw [if_neg c_5] | rw [if_pos (Decidable.not_not.mp c_5)]) rfl (Nat.le_of_ble_eq_true rfl) (Nat.le_of_ble_eq_true rfl)
  · replace c_5 := gm_b_ne.mp c_5
    refine gk_iconst (v := -1) G dX2_place_8 (by decide) ?_
    refine gk_goto (tgt := 17) G dX2_place_9 (by decide) ?_
    exact RET _ _ _ _ _ _ () dX2_place_17 rfl (by unfold gm_plc; first | rw [if_neg c_5] | rw [if_pos (Decidable.not_not.mp c_5)]) rfl (Nat.le_of_ble_eq_true rfl) (Nat.le_of_ble_eq_true rfl)
set_option maxRecDepth 100000 in
set_option maxHeartbeats 1000000 in
theorem c2_groundThen (l : Launch) (D : va_G) (cI cZ cJ : ClassId) (h : Nat) (q : Nat → Nat) (F : Nat → Int32) (B : Nat → Nat → Int32) (f kp g : Nat → Int32) (M : gm_M) (j : Nat) (wf : gm_wf M) (hs : gr_st F B M) (hn : gr_now f M) (hrest : gm_rest M) (hh : M 9 0 < 1999000) (hj : j < M 11 0) : gk_I l yX2_groundThen wsX2_groundThen ({ frames := 4, cells := 0, slots := 0, locals := 90 } : Room) D (g_T cI cZ cJ) gk_E0 [.ref h, .int (nI j)] (gd_W cI h q F B f kp g) 0 0 (fun (r : Int32) (u : (Nat → Int32) × (Nat → Int32) × (Nat → Int32)) => r = gm_e (gm_hrs M 200 8 j) ∧ gr_now u.1 M) (fun u => (gd_W cI h q F B u.1 u.2.1 u.2.2)) := by
  refine gk_I_of (ty := .int) (cc := cX2_groundThen) (nL := 3) (by decide +kernel) rfl (Nat.le_of_ble_eq_true rfl) ?_
  intro p e s m below meth c A Q hnm hE G RET
  obtain ⟨hz1, hz2, hz3, hz4, hz5, hz6, hz7, hz8⟩ := id wf
  have e11h : gm_hrs M 200 11 0 = M 11 0 := gm_hrs_ne M 0 (by decide) (by decide) (by decide) (by decide) (by decide) (by decide) (by decide) 200
  have hinX2 : ∀ w ∈ wsX20, w ∈ wsX2_groundThen := fun w h9 => (List.mem_cons_of_mem _ (List.mem_append_right _ h9))
  have k22 := G.2.2.2.2.1 (.fieldLink RX2 22 "GustMillModel" "now" "[I") (List.mem_cons_of_mem _ (List.mem_append_left _ (List.mem_append_left _ (List.mem_of_getElem? (i := 0) rfl))))
  refine gk_aload_n G dX2_groundThen_0 0 rfl ?_
  refine gk_callVV (wr := []) G (c2_keep l D cI cZ cJ h q F B f kp g M ) gX2_groundThen_X2_keep rfl 0 (by decide +kernel) rfl rfl ⟨(Nat.le_of_ble_eq_true rfl), (Nat.le_of_ble_eq_true rfl)⟩ rfl (q0 := 0) rfl (T := TX2) (N := 12) rfl gk_ok0 trivial [0, 1, 2, 3, 4, 5, 6, 7] rfl (by decide) [] rfl (by decide) (by decide) rfl (Nat.le_of_ble_eq_true rfl) dX2_groundThen_1 ⟨(Nat.le_of_ble_eq_true rfl), (Nat.le_of_ble_eq_true rfl)⟩ (fun u1 hp1 => ?_)
  show gk_C p l e ({ frames := 4, cells := 0, slots := 0, locals := 90 } : Room) s m ([.ref h, .int (nI j)] : List Value).toArray below meth c 3 D A Q 0 0 (gd_W cI h q F B f (va_cpy f kp 0 0 51) g) [(0, .ref h), (1, .int (nI j))] 4 []
  refine gk_aload_n G dX2_groundThen_4 0 rfl ?_
  refine gk_sipush (v := nI 200) G dX2_groundThen_5 (by decide) ?_
  refine gk_callVV (wr := []) G (c2_hoursOn l D cI cZ cJ h q F B f (va_cpy f kp 0 0 51) g M 200 wf hs hn hrest (by omega)) gX2_groundThen_X2_hoursOn rfl 1 (by decide +kernel) rfl rfl ⟨(Nat.le_of_ble_eq_true rfl), (Nat.le_of_ble_eq_true rfl)⟩ rfl (q0 := 0) rfl (T := TX2) (N := 12) rfl gk_ok0 trivial [0, 1, 2, 3, 4, 5, 6, 7] rfl (by decide) [] rfl (by decide) (by decide) rfl (Nat.le_of_ble_eq_true rfl) dX2_groundThen_8 ⟨(Nat.le_of_ble_eq_true rfl), (Nat.le_of_ble_eq_true rfl)⟩ (fun u8 hp8 => ?_)
  obtain ⟨f8, g8⟩ := u8
  have hn8 : gr_now f8 (gm_hrs M 200) := hp8
  show gk_C p l e ({ frames := 4, cells := 0, slots := 0, locals := 90 } : Room) s m ([.ref h, .int (nI j)] : List Value).toArray below meth c 3 D A Q 0 0 (gd_W cI h q F B f8 (va_cpy f kp 0 0 51) g8) [(0, .ref h), (1, .int (nI j))] 11 []
  refine gk_aload_n G dX2_groundThen_11 0 rfl ?_
  refine gk_get (v' := .ref (q 9)) G hinX2 (q0 := 0) rfl rfl 9 (by decide) k22 rfl rfl dX2_groundThen_12 ?_
  refine gk_bipush (v := nI 19) G dX2_groundThen_15 (by decide) ?_
  refine gk_iload_n G dX2_groundThen_17 1 rfl ?_
  refine gk_iadd (v := nI (19 + j)) G dX2_groundThen_18 (nI_add 19 j) ?_
  refine gk_iald (v := gm_e ((gm_hrs M 200) 8 j)) G (q0 := 5) (t0 := 0) rfl rfl (19 + j) rfl (by omega) (by decide) (hn8.2.2.2.2.1 j (by omega)) dX2_groundThen_19 ?_
  refine gk_istore_n (lv' := [(2, .int (gm_e ((gm_hrs M 200) 8 j))), (0, .ref h), (1, .int (nI j))]) G dX2_groundThen_20 rfl (by decide) rfl ?_
  refine gk_aload_n G dX2_groundThen_21 1 rfl ?_
  refine gk_callVV (wr := []) G (c2_bringBack l D cI cZ cJ h q F B f8 (va_cpy f kp 0 0 51) g8 (gm_hrs M 200) ) gX2_groundThen_X2_bringBack rfl 0 (by decide +kernel) rfl rfl ⟨(Nat.le_of_ble_eq_true rfl), (Nat.le_of_ble_eq_true rfl)⟩ rfl (q0 := 0) rfl (T := TX2) (N := 12) rfl gk_ok0 trivial [0, 1, 2, 3, 4, 5, 6, 7] rfl (by decide) [] rfl (by decide) (by decide) rfl (Nat.le_of_ble_eq_true rfl) dX2_groundThen_22 ⟨(Nat.le_of_ble_eq_true rfl), (Nat.le_of_ble_eq_true rfl)⟩ (fun u22 hp22 => ?_)
  have hn22 : gr_now (va_cpy (va_cpy f kp 0 0 51) f8 0 0 51) (M) := gr_now_cp hn (by omega) (fun j hj => by rw [gm_cpy51 hj, gm_cpy51 hj])
  show gk_C p l e ({ frames := 4, cells := 0, slots := 0, locals := 90 } : Room) s m ([.ref h, .int (nI j)] : List Value).toArray below meth c 3 D A Q 0 0 (gd_W cI h q F B (va_cpy (va_cpy f kp 0 0 51) f8 0 0 51) (va_cpy f kp 0 0 51) g8) [(2, .int (gm_e ((gm_hrs M 200) 8 j))), (0, .ref h), (1, .int (nI j))] 25 []
  refine gk_iload_n G dX2_groundThen_25 0 rfl ?_
  exact RET _ _ _ _ _ _ ((va_cpy (va_cpy f kp 0 0 51) f8 0 0 51), (va_cpy f kp 0 0 51), g8) dX2_groundThen_26 rfl ⟨rfl, hn22⟩ rfl (Nat.le_of_ble_eq_true rfl) (Nat.le_of_ble_eq_true rfl)
set_option maxRecDepth 100000 in
set_option maxHeartbeats 1000000 in
theorem c2_milledIn (l : Launch) (D : va_G) (cI cZ cJ : ClassId) (h : Nat) (q : Nat → Nat) (F : Nat → Int32) (B : Nat → Nat → Int32) (f kp g : Nat → Int32) (M : gm_M) (n0 : Nat) (wf : gm_wf M) (hs : gr_st F B M) (hn : gr_now f M) (hrest : gm_rest M) (hn0 : n0 ≤ 60) (hh : M 9 0 < 1999000) : gk_I l yX2_milledIn wsX2_milledIn ({ frames := 4, cells := 0, slots := 0, locals := 90 } : Room) D (g_T cI cZ cJ) gk_E0 [.ref h, .int (nI n0)] (gd_W cI h q F B f kp g) 0 0 (fun (r : Int32) (u : (Nat → Int32) × (Nat → Int32) × (Nat → Int32)) => r = nI (gm_hrs M n0 16 0 - M 16 0) ∧ gr_now u.1 M) (fun u => (gd_W cI h q F B u.1 u.2.1 u.2.2)) := by
  refine gk_I_of (ty := .int) (cc := cX2_milledIn) (nL := 4) (by decide +kernel) rfl (Nat.le_of_ble_eq_true rfl) ?_
  intro p e s m below meth c A Q hnm hE G RET
  obtain ⟨hz1, hz2, hz3, hz4, hz5, hz6, hz7, hz8⟩ := id wf
  have hinX2 : ∀ w ∈ wsX20, w ∈ wsX2_milledIn := fun w h9 => (List.mem_cons_of_mem _ (List.mem_append_right _ h9))
  have k22 := G.2.2.2.2.1 (.fieldLink RX2 22 "GustMillModel" "now" "[I") (List.mem_cons_of_mem _ (List.mem_append_left _ (List.mem_append_left _ (List.mem_of_getElem? (i := 0) rfl))))
  refine gk_aload_n G dX2_milledIn_0 0 rfl ?_
  refine gk_callVV (wr := []) G (c2_keep l D cI cZ cJ h q F B f kp g M ) gX2_milledIn_X2_keep rfl 0 (by decide +kernel) rfl rfl ⟨(Nat.le_of_ble_eq_true rfl), (Nat.le_of_ble_eq_true rfl)⟩ rfl (q0 := 0) rfl (T := TX2) (N := 12) rfl gk_ok0 trivial [0, 1, 2, 3, 4, 5, 6, 7] rfl (by decide) [] rfl (by decide) (by decide) rfl (Nat.le_of_ble_eq_true rfl) dX2_milledIn_1 ⟨(Nat.le_of_ble_eq_true rfl), (Nat.le_of_ble_eq_true rfl)⟩ (fun u1 hp1 => ?_)
  show gk_C p l e ({ frames := 4, cells := 0, slots := 0, locals := 90 } : Room) s m ([.ref h, .int (nI n0)] : List Value).toArray below meth c 4 D A Q 0 0 (gd_W cI h q F B f (va_cpy f kp 0 0 51) g) [(0, .ref h), (1, .int (nI n0))] 4 []
  refine gk_aload_n G dX2_milledIn_4 0 rfl ?_
  refine gk_get (v' := .ref (q 9)) G hinX2 (q0 := 0) rfl rfl 9 (by decide) k22 rfl rfl dX2_milledIn_5 ?_
  refine gk_iconst (v := nI 2) G dX2_milledIn_8 (by decide) ?_
  refine gk_iald (v := nI (M 16 0)) G (q0 := 5) (t0 := 0) rfl rfl 2 rfl (by omega) (by decide) hn.2.2.1 dX2_milledIn_9 ?_
  refine gk_istore_n (lv' := [(2, .int (nI (M 16 0))), (0, .ref h), (1, .int (nI n0))]) G dX2_milledIn_10 rfl (by decide) rfl ?_
  refine gk_aload_n G dX2_milledIn_11 1 rfl ?_
  refine gk_iload_n G dX2_milledIn_12 2 rfl ?_
  refine gk_callVV (wr := []) G (c2_hoursOn l D cI cZ cJ h q F B f (va_cpy f kp 0 0 51) g M n0 wf hs hn hrest (by omega)) gX2_milledIn_X2_hoursOn rfl 1 (by decide +kernel) rfl rfl ⟨(Nat.le_of_ble_eq_true rfl), (Nat.le_of_ble_eq_true rfl)⟩ rfl (q0 := 0) rfl (T := TX2) (N := 12) rfl gk_ok0 trivial [0, 1, 2, 3, 4, 5, 6, 7] rfl (by decide) [] rfl (by decide) (by decide) rfl (Nat.le_of_ble_eq_true rfl) dX2_milledIn_13 ⟨(Nat.le_of_ble_eq_true rfl), (Nat.le_of_ble_eq_true rfl)⟩ (fun u13 hp13 => ?_)
  obtain ⟨f13, g13⟩ := u13
  have hn13 : gr_now f13 (gm_hrs M n0) := hp13
  show gk_C p l e ({ frames := 4, cells := 0, slots := 0, locals := 90 } : Room) s m ([.ref h, .int (nI n0)] : List Value).toArray below meth c 4 D A Q 0 0 (gd_W cI h q F B f13 (va_cpy f kp 0 0 51) g13) [(2, .int (nI (M 16 0))), (0, .ref h), (1, .int (nI n0))] 16 []
  refine gk_aload_n G dX2_milledIn_16 1 rfl ?_
  refine gk_get (v' := .ref (q 9)) G hinX2 (q0 := 0) rfl rfl 9 (by decide) k22 rfl rfl dX2_milledIn_17 ?_
  refine gk_iconst (v := nI 2) G dX2_milledIn_20 (by decide) ?_
  refine gk_iald (v := nI ((gm_hrs M n0) 16 0)) G (q0 := 5) (t0 := 0) rfl rfl 2 rfl (by omega) (by decide) hn13.2.2.1 dX2_milledIn_21 ?_
  refine gk_iload_n G dX2_milledIn_22 0 rfl ?_
  refine gk_isub (v := nI (gm_hrs M n0 16 0 - M 16 0)) G dX2_milledIn_23 (pk_sub (gm_hrs_16 M n0)) ?_
  refine gk_istore_n (lv' := [(3, .int (nI (gm_hrs M n0 16 0 - M 16 0))), (2, .int (nI (M 16 0))), (0, .ref h), (1, .int (nI n0))]) G dX2_milledIn_24 rfl (by decide) rfl ?_
  refine gk_aload_n G dX2_milledIn_25 2 rfl ?_
  refine gk_callVV (wr := []) G (c2_bringBack l D cI cZ cJ h q F B f13 (va_cpy f kp 0 0 51) g13 (gm_hrs M n0) ) gX2_milledIn_X2_bringBack rfl 0 (by decide +kernel) rfl rfl ⟨(Nat.le_of_ble_eq_true rfl), (Nat.le_of_ble_eq_true rfl)⟩ rfl (q0 := 0) rfl (T := TX2) (N := 12) rfl gk_ok0 trivial [0, 1, 2, 3, 4, 5, 6, 7] rfl (by decide) [] rfl (by decide) (by decide) rfl (Nat.le_of_ble_eq_true rfl) dX2_milledIn_26 ⟨(Nat.le_of_ble_eq_true rfl), (Nat.le_of_ble_eq_true rfl)⟩ (fun u26 hp26 => ?_)
  have hn26 : gr_now (va_cpy (va_cpy f kp 0 0 51) f13 0 0 51) (M) := gr_now_cp hn (by omega) (fun j hj => by rw [gm_cpy51 hj, gm_cpy51 hj])
  show gk_C p l e ({ frames := 4, cells := 0, slots := 0, locals := 90 } : Room) s m ([.ref h, .int (nI n0)] : List Value).toArray below meth c 4 D A Q 0 0 (gd_W cI h q F B (va_cpy (va_cpy f kp 0 0 51) f13 0 0 51) (va_cpy f kp 0 0 51) g13) [(3, .int (nI (gm_hrs M n0 16 0 - M 16 0))), (2, .int (nI (M 16 0))), (0, .ref h), (1, .int (nI n0))] 29 []
  refine gk_iload_n G dX2_milledIn_29 0 rfl ?_
  exact RET _ _ _ _ _ _ ((va_cpy (va_cpy f kp 0 0 51) f13 0 0 51), (va_cpy f kp 0 0 51), g13) dX2_milledIn_30 rfl ⟨rfl, hn26⟩ rfl (Nat.le_of_ble_eq_true rfl) (Nat.le_of_ble_eq_true rfl)
