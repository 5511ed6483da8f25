/-! THE CLASS'S STATE: its cells, and its methods' contracts. Written by wip/p35/gen_x0.py -/
def gs_V (q : Nat → Nat) (F : Nat → Int32) : List Value := [.ref (q 0), .ref (q 1), .ref (q 2), .ref (q 3), .ref (q 4), .ref (q 5), .ref (q 6), .ref (q 7), .ref (q 8), .int (F 9), .int (F 10), .int (F 11), .int (F 12), .int (F 13), .int (F 14), .int (F 15)]
def gs_W (cI cZ : ClassId) (h : Nat) (q : Nat → Nat) (F : Nat → Int32) (B : Nat → Nat → Int32) : va_W := [(h, .inr (0, gs_V q F)), (q 0, .inl (cI, 12, .inl (B 0))), (q 1, .inl (cI, 4, .inl (B 1))), (q 2, .inl (cI, 4, .inl (B 2))), (q 3, .inl (cZ, 4, .inl (B 3))), (q 4, .inl (cI, 16, .inl (B 4))), (q 5, .inl (cI, 16, .inl (B 5))), (q 6, .inl (cI, 16, .inl (B 6))), (q 7, .inl (cI, 16, .inl (B 7))), (q 8, .inl (cI, 16, .inl (B 8)))]
abbrev g_T (cI cZ cJ : ClassId) : List (ClassId × FieldType) := [(cI, .int), (cZ, .boolean), (cJ, .array .int)]
theorem gk_nz {v : Int32} (h : v = 0 ∨ v = 1) : narrow .boolean (.int v) = .int v := by rcases h with rfl | rfl <;> rfl

set_option maxRecDepth 100000 in
set_option maxHeartbeats 1000000 in
/-- nothing is left -/
theorem c0_isGround (l : Launch) (D : va_G) (cI cZ cJ : ClassId) (h : Nat) (q : Nat → Nat) (F : Nat → Int32) (B : Nat → Nat → Int32) (M : gm_M) (j : Nat) (wf : gm_wf M) (hr : gc_rep F B M) (hj : j < M 11 0) : gk_I l yX0_isGround wsX0_isGround ({ frames := 0, cells := 0, slots := 0, locals := 0 } : Room) D (g_T cI cZ cJ) gk_E0 [.ref h, .int (nI j)] (gs_W cI cZ h q F B) 0 0 (fun (r : Int32) (u : Unit) => r = gm_b (M 5 j = 0)) (fun u => (gs_W cI cZ h q F B)) := by
  refine gk_I_of (ty := .boolean) (cc := cX0_isGround) (nL := 2) (by decide +kernel) rfl (Nat.le_of_ble_eq_true rfl) ?_
  intro p e s m below meth c A Q hnm hE G RET
  obtain ⟨hz1, hz2, hz3, hz4, hz5, hz6, hz7, hz8⟩ := id wf
  have hj7 := hz7 j hj
  have hinX0 : ∀ w ∈ wsX00, w ∈ wsX0_isGround := fun w h9 => (List.mem_cons_of_mem _ (List.mem_append_right _ h9))
  have k28 := G.2.2.2.2.1 (.fieldLink RX0 28 "GustMill$State" "lefts" "[I") (List.mem_cons_of_mem _ (List.mem_append_left _ (List.mem_of_getElem? (i := 0) rfl)))
  refine gk_aload_n G dX0_isGround_0 0 rfl ?_
  refine gk_get (v' := .ref (q 5)) G hinX0 (q0 := 0) rfl rfl 5 (by decide) k28 rfl rfl dX0_isGround_1 ?_
  refine gk_iload_n G dX0_isGround_4 1 rfl ?_
  refine gk_iald (v := nI (M 5 j)) G (q0 := 6) (t0 := 0) rfl rfl j rfl (by omega) (by decide) (hr.2.2.2.2.2.1 j (by omega)) dX0_isGround_5 ?_
  refine gk_if_ne (tgt := 13) G dX0_isGround_6 (by decide) (fun c_6 => ?_) (fun c_6 => ?_)
  · replace c_6 := (not_congr (nI_eq (a := M 5 j) (b := 0) (by omega) (by omega))).mp c_6
    refine gk_iconst (v := nI 0) G dX0_isGround_13 (by decide) ?_
    exact RET _ _ _ _ _ _ () dX0_isGround_14 rfl (by first | exact (gm_b1 c_6).symm | exact (gm_b0 c_6).symm) rfl (Nat.le_of_ble_eq_true rfl) (Nat.le_of_ble_eq_true rfl)
  · replace c_6 := (nI_eq (a := M 5 j) (b := 0) (by omega) (by omega)).mp c_6
    refine gk_iconst (v := nI 1) G dX0_isGround_9 (by decide) ?_
    refine gk_goto (tgt := 14) G dX0_isGround_10 (by decide) ?_
    exact RET _ _ _ _ _ _ () dX0_isGround_14 rfl (by first | exact (gm_b1 c_6).symm | exact (gm_b0 c_6).symm) rfl (Nat.le_of_ble_eq_true rfl) (Nat.le_of_ble_eq_true rfl)
theorem gm_kd {M : gm_M} {i j a b : Nat} (ha : a < 2 ^ 30) (hb : b < 2 ^ 30) (hi : gm_key M i = a) (hj : gm_key M j = b) : (nI a - nI b < 0 ↔ gm_key M i < gm_key M j) ∧ (nI a - nI b = 0 ↔ gm_key M i = gm_key M j) := by
  have ht := pk_sub_toInt ha hb
  rw [hi, hj]
  constructor
  · rw [Int32.lt_iff_toInt_lt, ht, Int32.toInt_zero]; omega
  · constructor
    · intro q
      have := congrArg Int32.toInt q
      rw [ht, Int32.toInt_zero] at this
      omega
    · intro q
      subst q
      have := pk_sub (Nat.le_refl a)
      rw [this, Nat.sub_self]; rfl
theorem gm_kd0 {M : gm_M} {i j : Nat} (hi : gm_key M i = 0) (hj : gm_key M j = 0) : (nI 0 < 0 ↔ gm_key M i < gm_key M j) ∧ (nI 0 = 0 ↔ gm_key M i = gm_key M j) := by
  rw [hi, hj]; exact ⟨⟨fun q => absurd q (by decide), fun q => absurd q (by omega)⟩, ⟨fun _ => rfl, fun _ => rfl⟩⟩

set_option maxRecDepth 100000 in
set_option maxHeartbeats 1000000 in
/-- the one comes ahead of the other by the rule -/
theorem c0_isAhead (l : Launch) (D : va_G) (cI cZ cJ : ClassId) (h : Nat) (q : Nat → Nat) (F : Nat → Int32) (B : Nat → Nat → Int32) (M : gm_M) (i j : Nat) (wf : gm_wf M) (hr : gc_rep F B M) (hi : i < M 11 0) (hj : j < M 11 0) : gk_I l yX0_isAhead wsX0_isAhead ({ frames := 0, cells := 0, slots := 0, locals := 0 } : Room) D (g_T cI cZ cJ) gk_E0 [.ref h, .int (nI i), .int (nI j)] (gs_W cI cZ h q F B) 0 0 (fun (r : Int32) (u : Unit) => r = gm_b (gm_trn M i < gm_trn M j)) (fun u => (gs_W cI cZ h q F B)) := by
  refine gk_I_of (ty := .boolean) (cc := cX0_isAhead) (nL := 4) (by decide +kernel) rfl (Nat.le_of_ble_eq_true rfl) ?_
  intro p e s m below meth c A Q hnm hE G RET
  obtain ⟨hz1, hz2, hz3, hz4, hz5, hz6, hz7, hz8⟩ := id wf
  have hi7 := hz7 i hi
  have hj7 := hz7 j hj
  have hinX0 : ∀ w ∈ wsX00, w ∈ wsX0_isAhead := fun w h9 => (List.mem_cons_of_mem _ (List.mem_append_right _ h9))
  have k28 := G.2.2.2.2.1 (.fieldLink RX0 28 "GustMill$State" "lefts" "[I") (List.mem_cons_of_mem _ (List.mem_append_left _ (List.mem_of_getElem? (i := 2) rfl)))
  have k31 := G.2.2.2.2.1 (.fieldLink RX0 31 "GustMill$State" "untils" "[I") (List.mem_cons_of_mem _ (List.mem_append_left _ (List.mem_of_getElem? (i := 1) rfl)))
  have k56 := G.2.2.2.2.1 (.fieldLink RX0 56 "GustMill$State" "rule" "I") (List.mem_cons_of_mem _ (List.mem_append_left _ (List.mem_of_getElem? (i := 0) rfl)))
  have J49 : ∀ x : Int32, (x < 0 ↔ gm_key M i < gm_key M j) ∧ (x = 0 ↔ gm_key M i = gm_key M j) → gk_C p l e ({ frames := 0, cells := 0, slots := 0, locals := 0 } : Room) s m ([.ref h, .int (nI i), .int (nI j)] : List Value).toArray below meth c 4 D A Q 0 0 (gs_W cI cZ h q F B) [(0, .ref h), (1, .int (nI i)), (2, .int (nI j)), (3, .int (x))] 49 [] := by
    intro x hx
    refine gk_iload_n G dX0_isAhead_49 3 rfl ?_
    refine gk_if_lt (tgt := 62) G dX0_isAhead_50 (by decide) (fun c_50 => ?_) (fun c_50 => ?_)
    · replace c_50 := hx.1.mp c_50
      refine gk_iconst (v := nI 1) G dX0_isAhead_62 (by decide) ?_
      refine gk_goto (tgt := 67) G dX0_isAhead_63 (by decide) ?_
      exact RET _ _ _ _ _ _ () dX0_isAhead_67 rfl (by unfold gm_trn; first | exact (gm_b1 (by omega)).symm | exact (gm_b0 (by omega)).symm) rfl (Nat.le_of_ble_eq_true rfl) (Nat.le_of_ble_eq_true rfl)
    · replace c_50 := (not_congr hx.1).mp c_50
      refine gk_iload_n G dX0_isAhead_53 3 rfl ?_
      refine gk_if_ne (tgt := 66) G dX0_isAhead_54 (by decide) (fun c_54 => ?_) (fun c_54 => ?_)
      · replace c_54 := (not_congr hx.2).mp c_54
        refine gk_iconst (v := nI 0) G dX0_isAhead_66 (by decide) ?_
        exact RET _ _ _ _ _ _ () dX0_isAhead_67 rfl (by unfold gm_trn; first | exact (gm_b1 (by omega)).symm | exact (gm_b0 (by omega)).symm) rfl (Nat.le_of_ble_eq_true rfl) (Nat.le_of_ble_eq_true rfl)
      · replace c_54 := hx.2.mp c_54
        refine gk_iload_n G dX0_isAhead_57 1 rfl ?_
        refine gk_iload_n G dX0_isAhead_58 2 rfl ?_
        refine gk_icmp_ge (tgt := 66) G dX0_isAhead_59 (by decide) (fun c_59 => ?_) (fun c_59 => ?_)
        · replace c_59 := (nI_leI (a := j) (b := i) (by omega) (by omega)).mp c_59
          refine gk_iconst (v := nI 0) G dX0_isAhead_66 (by decide) ?_
          exact RET _ _ _ _ _ _ () dX0_isAhead_67 rfl (by unfold gm_trn; first | exact (gm_b1 (by omega)).symm | exact (gm_b0 (by omega)).symm) rfl (Nat.le_of_ble_eq_true rfl) (Nat.le_of_ble_eq_true rfl)
        · replace c_59 := (not_congr (nI_leI (a := j) (b := i) (by omega) (by omega))).mp c_59
          refine gk_iconst (v := nI 1) G dX0_isAhead_62 (by decide) ?_
          refine gk_goto (tgt := 67) G dX0_isAhead_63 (by decide) ?_
          exact RET _ _ _ _ _ _ () dX0_isAhead_67 rfl (by unfold gm_trn; first | exact (gm_b1 (by omega)).symm | exact (gm_b0 (by omega)).symm) rfl (Nat.le_of_ble_eq_true rfl) (Nat.le_of_ble_eq_true rfl)
  refine gk_iconst (v := nI 0) G dX0_isAhead_0 (by decide) ?_
  refine gk_istore_n (lv' := [(3, .int (nI 0)), (0, .ref h), (1, .int (nI i)), (2, .int (nI j))]) G dX0_isAhead_1 rfl (by decide) rfl ?_
  refine gk_aload_n G dX0_isAhead_2 1 rfl ?_
  refine gk_get (v' := .int (nI (M 14 0))) G hinX0 (q0 := 0) rfl rfl 14 (by decide) k56 rfl (congrArg Value.int (hr.1.2.2.2.2.2.1)) dX0_isAhead_3 ?_
  refine gk_iconst (v := nI 1) G dX0_isAhead_6 (by decide) ?_
  refine gk_icmp_ne (tgt := 27) G dX0_isAhead_7 (by decide) (fun c_7 => ?_) (fun c_7 => ?_)
  · replace c_7 := (not_congr (nI_eq (a := M 14 0) (b := 1) (by omega) (by omega))).mp c_7
    refine gk_aload_n G dX0_isAhead_27 1 rfl ?_
    refine gk_get (v' := .int (nI (M 14 0))) G hinX0 (q0 := 0) rfl rfl 14 (by decide) k56 rfl (congrArg Value.int (hr.1.2.2.2.2.2.1)) dX0_isAhead_28 ?_
    refine gk_iconst (v := nI 2) G dX0_isAhead_31 (by decide) ?_
    refine gk_icmp_ne (tgt := 49) G dX0_isAhead_32 (by decide) (fun c_32 => ?_) (fun c_32 => ?_)
    · replace c_32 := (not_congr (nI_eq (a := M 14 0) (b := 2) (by omega) (by omega))).mp c_32
      exact gk_lsub [1,2,3,0] rfl (J49 (nI 0) (gm_kd0 (by unfold gm_key; rw [if_pos (by omega)]) (by unfold gm_key; rw [if_pos (by omega)])))
    · replace c_32 := (nI_eq (a := M 14 0) (b := 2) (by omega) (by omega)).mp c_32
      refine gk_aload_n G dX0_isAhead_35 1 rfl ?_
      refine gk_get (v' := .ref (q 5)) G hinX0 (q0 := 0) rfl rfl 5 (by decide) k28 rfl rfl dX0_isAhead_36 ?_
      refine gk_iload_n G dX0_isAhead_39 2 rfl ?_
      refine gk_iald (v := nI (M 5 i)) G (q0 := 6) (t0 := 0) rfl rfl i rfl (by omega) (by decide) (hr.2.2.2.2.2.1 i (by omega)) dX0_isAhead_40 ?_
      refine gk_aload_n G dX0_isAhead_41 1 rfl ?_
      refine gk_get (v' := .ref (q 5)) G hinX0 (q0 := 0) rfl rfl 5 (by decide) k28 rfl rfl dX0_isAhead_42 ?_
      refine gk_iload_n G dX0_isAhead_45 3 rfl ?_
      refine gk_iald (v := nI (M 5 j)) G (q0 := 6) (t0 := 0) rfl rfl j rfl (by omega) (by decide) (hr.2.2.2.2.2.1 j (by omega)) dX0_isAhead_46 ?_
      refine gk_isub (v := nI (M 5 i) - nI (M 5 j)) G dX0_isAhead_47 rfl ?_
      refine gk_istore_n (lv' := [(3, .int (nI (M 5 i) - nI (M 5 j))), (0, .ref h), (1, .int (nI i)), (2, .int (nI j))]) G dX0_isAhead_48 rfl (by decide) rfl ?_
      exact gk_lsub [1,2,3,0] rfl (J49 _ (gm_kd (a := M 5 i) (b := M 5 j) (by omega) (by omega) (by unfold gm_key; rw [if_neg (by omega), if_neg (by omega)]) (by unfold gm_key; rw [if_neg (by omega), if_neg (by omega)])))
  · replace c_7 := (nI_eq (a := M 14 0) (b := 1) (by omega) (by omega)).mp c_7
    refine gk_aload_n G dX0_isAhead_10 1 rfl ?_
    refine gk_get (v' := .ref (q 6)) G hinX0 (q0 := 0) rfl rfl 6 (by decide) k31 rfl rfl dX0_isAhead_11 ?_
    refine gk_iload_n G dX0_isAhead_14 2 rfl ?_
    refine gk_iald (v := nI (M 6 i)) G (q0 := 7) (t0 := 0) rfl rfl i rfl (by omega) (by decide) (hr.2.2.2.2.2.2.1 i (by omega)) dX0_isAhead_15 ?_
    refine gk_aload_n G dX0_isAhead_16 1 rfl ?_
    refine gk_get (v' := .ref (q 6)) G hinX0 (q0 := 0) rfl rfl 6 (by decide) k31 rfl rfl dX0_isAhead_17 ?_
    refine gk_iload_n G dX0_isAhead_20 3 rfl ?_
    refine gk_iald (v := nI (M 6 j)) G (q0 := 7) (t0 := 0) rfl rfl j rfl (by omega) (by decide) (hr.2.2.2.2.2.2.1 j (by omega)) dX0_isAhead_21 ?_
    refine gk_isub (v := nI (M 6 i) - nI (M 6 j)) G dX0_isAhead_22 rfl ?_
    refine gk_istore_n (lv' := [(3, .int (nI (M 6 i) - nI (M 6 j))), (0, .ref h), (1, .int (nI i)), (2, .int (nI j))]) G dX0_isAhead_23 rfl (by decide) rfl ?_
    refine gk_goto (tgt := 49) G dX0_isAhead_24 (by decide) ?_
    exact gk_lsub [1,2,3,0] rfl (J49 _ (gm_kd (a := M 6 i) (b := M 6 j) (by omega) (by omega) (by unfold gm_key; rw [if_neg (by omega), if_pos (by omega)]) (by unfold gm_key; rw [if_neg (by omega), if_pos (by omega)])))
set_option maxRecDepth 100000 in
set_option maxHeartbeats 1000000 in
theorem c0_countAhead (l : Launch) (D : va_G) (cI cZ cJ : ClassId) (h : Nat) (q : Nat → Nat) (F : Nat → Int32) (B : Nat → Nat → Int32) (M : gm_M) (j : Nat) (wf : gm_wf M) (hr : gc_rep F B M) (hrest : gm_rest M) (hj : j < M 11 0) : gk_I l yX0_countAhead wsX0_countAhead ({ frames := 1, cells := 0, slots := 0, locals := 23 } : Room) D (g_T cI cZ cJ) gk_E0 [.ref h, .int (nI j)] (gs_W cI cZ h q F B) 0 0 (fun (r : Int32) (u : Unit) => r = nI (gm_cnt M j (M 11 0))) (fun u => (gs_W cI cZ h q F B)) := by
  refine gk_I_of (ty := .int) (cc := cX0_countAhead) (nL := 4) (by decide +kernel) rfl (Nat.le_of_ble_eq_true rfl) ?_
  intro p e s m below meth c A Q hnm hE G RET
  obtain ⟨hz1, hz2, hz3, hz4, hz5, hz6, hz7, hz8⟩ := id wf
  have hinX0 : ∀ w ∈ wsX00, w ∈ wsX0_countAhead := fun w h9 => (List.mem_cons_of_mem _ (List.mem_append_right _ h9))
  have k47 := G.2.2.2.2.1 (.fieldLink RX0 47 "GustMill$State" "sackCount" "I") (List.mem_cons_of_mem _ (List.mem_append_left _ (List.mem_of_getElem? (i := 0) rfl)))
  have L4 : ∀ (n : Nat) (k : Nat), M 11 0 - k < n → (k ≤ M 11 0) → gk_C p l e ({ frames := 1, cells := 0, slots := 0, locals := 23 } : Room) s m ([.ref h, .int (nI j)] : List Value).toArray below meth c 4 D A Q 0 0 (gs_W cI cZ h q F B) [(0, .ref h), (1, .int (nI j)), (2, .int (nI (gm_cnt M j k))), (3, .int (nI k))] 4 [] := by
    intro n
    induction n with
    | zero => intro k h0; exact absurd h0 (Nat.not_lt_zero _)
    | succ n ih =>
      intro k h0 w0
      refine gk_iload_n G dX0_countAhead_4 3 rfl ?_
      refine gk_aload_n G dX0_countAhead_5 0 rfl ?_
      refine gk_get (v' := .int (nI (M 11 0))) G hinX0 (q0 := 0) rfl rfl 11 (by decide) k47 rfl (congrArg Value.int (hr.1.2.2.1)) dX0_countAhead_6 ?_
      refine gk_icmp_ge (tgt := 38) G dX0_countAhead_9 (by decide) (fun c_9 => ?_) (fun c_9 => ?_)
      · replace c_9 := (nI_leI (a := M 11 0) (b := k) (by omega) (by omega)).mp c_9
        refine gk_iload_n G dX0_countAhead_38 2 rfl ?_
        exact RET _ _ _ _ _ _ () dX0_countAhead_39 rfl (by rw [show k = M 11 0 by omega]) rfl (Nat.le_of_ble_eq_true rfl) (Nat.le_of_ble_eq_true rfl)
      · replace c_9 := (not_congr (nI_leI (a := M 11 0) (b := k) (by omega) (by omega))).mp c_9
        have hk5 := hrest k (by omega)
        have hk7 := hz7 k (by omega)
        refine gk_aload_n G dX0_countAhead_12 0 rfl ?_
        refine gk_iload_n G dX0_countAhead_13 3 rfl ?_
        refine gk_callIV (wr := []) G (c0_isGround l D cI cZ cJ h q F B M k wf hr (by omega)) gX0_countAhead_X0_isGround rfl 1 (by decide +kernel) rfl rfl ⟨(Nat.le_of_ble_eq_true rfl), (Nat.le_of_ble_eq_true rfl)⟩ rfl (q0 := 0) rfl (T := TX0) (N := 16) rfl gk_ok0 trivial [0, 1, 2, 3, 4, 5, 6, 7, 8, 9] rfl (by decide) [] rfl (by decide) (by decide) rfl (Nat.le_of_ble_eq_true rfl) dX0_countAhead_14 ⟨(Nat.le_of_ble_eq_true rfl), (Nat.le_of_ble_eq_true rfl)⟩ (fun r14 u14 hp14 => ?_)
        obtain rfl : r14 = gm_b (M 5 k = 0) := hp14
        show gk_C p l e ({ frames := 1, cells := 0, slots := 0, locals := 23 } : Room) s m ([.ref h, .int (nI j)] : List Value).toArray below meth c 4 D A Q 0 0 (gs_W cI cZ h q F B) [(0, .ref h), (1, .int (nI j)), (2, .int (nI (gm_cnt M j k))), (3, .int (nI k))] 17 [.int (gm_b (M 5 k = 0))]
        refine gk_if_ne (tgt := 32) G dX0_countAhead_17 (by decide) (fun c_17 => ?_) (fun c_17 => ?_)
        · replace c_17 := gm_b_ne.mp c_17
          refine gk_iinc (j := 3) (v := nI (k + 1)) (lv' := [(3, .int (nI (k + 1))), (0, .ref h), (1, .int (nI j)), (2, .int (nI (gm_cnt M j k)))]) G dX0_countAhead_32 rfl (nI_add k 1) (by decide) rfl ?_
          refine gk_goto (tgt := 4) G dX0_countAhead_35 (by decide) ?_
          have e9 : gm_cnt M j (k + 1) = gm_cnt M j k := by
            show gm_cnt M j k + (if M 8 k = 0 ∧ gm_trn M k < gm_trn M j then 1 else 0) = _
            split <;> omega
          have t9 := ih (k + 1) (by omega) (by omega)
          rw [e9] at t9
          exact gk_lsub [1,2,3,0] rfl t9
        · replace c_17 := gm_b_eq.mp c_17
          refine gk_aload_n G dX0_countAhead_20 0 rfl ?_
          refine gk_iload_n G dX0_countAhead_21 3 rfl ?_
          refine gk_iload_n G dX0_countAhead_22 1 rfl ?_
          refine gk_callIV (wr := []) G (c0_isAhead l D cI cZ cJ h q F B M k j wf hr (by omega) hj) gX0_countAhead_X0_isAhead rfl 2 (by decide +kernel) rfl rfl ⟨(Nat.le_of_ble_eq_true rfl), (Nat.le_of_ble_eq_true rfl)⟩ rfl (q0 := 0) rfl (T := TX0) (N := 16) rfl gk_ok0 trivial [0, 1, 2, 3, 4, 5, 6, 7, 8, 9] rfl (by decide) [] rfl (by decide) (by decide) rfl (Nat.le_of_ble_eq_true rfl) dX0_countAhead_23 ⟨(Nat.le_of_ble_eq_true rfl), (Nat.le_of_ble_eq_true rfl)⟩ (fun r23 u23 hp23 => ?_)
          obtain rfl : r23 = gm_b (gm_trn M k < gm_trn M j) := hp23
          show gk_C p l e ({ frames := 1, cells := 0, slots := 0, locals := 23 } : Room) s m ([.ref h, .int (nI j)] : List Value).toArray below meth c 4 D A Q 0 0 (gs_W cI cZ h q F B) [(0, .ref h), (1, .int (nI j)), (2, .int (nI (gm_cnt M j k))), (3, .int (nI k))] 26 [.int (gm_b (gm_trn M k < gm_trn M j))]
          refine gk_if_eq (tgt := 32) G dX0_countAhead_26 (by decide) (fun c_26 => ?_) (fun c_26 => ?_)
          · replace c_26 := gm_b_eq.mp c_26
            refine gk_iinc (j := 3) (v := nI (k + 1)) (lv' := [(3, .int (nI (k + 1))), (0, .ref h), (1, .int (nI j)), (2, .int (nI (gm_cnt M j k)))]) G dX0_countAhead_32 rfl (nI_add k 1) (by decide) rfl ?_
            refine gk_goto (tgt := 4) G dX0_countAhead_35 (by decide) ?_
            have e9 : gm_cnt M j (k + 1) = gm_cnt M j k := by
              show gm_cnt M j k + (if M 8 k = 0 ∧ gm_trn M k < gm_trn M j then 1 else 0) = _
              split <;> omega
            have t9 := ih (k + 1) (by omega) (by omega)
            rw [e9] at t9
            exact gk_lsub [1,2,3,0] rfl t9
          · replace c_26 := gm_b_ne.mp c_26
            refine gk_iinc (j := 2) (v := nI (gm_cnt M j k + 1)) (lv' := [(2, .int (nI (gm_cnt M j k + 1))), (0, .ref h), (1, .int (nI j)), (3, .int (nI k))]) G dX0_countAhead_29 rfl (nI_add (gm_cnt M j k) 1) (by decide) rfl ?_
            refine gk_iinc (j := 3) (v := nI (k + 1)) (lv' := [(3, .int (nI (k + 1))), (2, .int (nI (gm_cnt M j k + 1))), (0, .ref h), (1, .int (nI j))]) G dX0_countAhead_32 rfl (nI_add k 1) (by decide) rfl ?_
            refine gk_goto (tgt := 4) G dX0_countAhead_35 (by decide) ?_
            have e9 : gm_cnt M j (k + 1) = gm_cnt M j k + 1 := by
              show gm_cnt M j k + (if M 8 k = 0 ∧ gm_trn M k < gm_trn M j then 1 else 0) = _
              split <;> omega
            have t9 := ih (k + 1) (by omega) (by omega)
            rw [e9] at t9
            exact gk_lsub [2,3,1,0] rfl t9
  refine gk_iconst (v := nI 0) G dX0_countAhead_0 (by decide) ?_
  refine gk_istore_n (lv' := [(2, .int (nI 0)), (0, .ref h), (1, .int (nI j))]) G dX0_countAhead_1 rfl (by decide) rfl ?_
  refine gk_iconst (v := nI 0) G dX0_countAhead_2 (by decide) ?_
  refine gk_istore_n (lv' := [(3, .int (nI 0)), (2, .int (nI 0)), (0, .ref h), (1, .int (nI j))]) G dX0_countAhead_3 rfl (by decide) rfl ?_
  exact gk_lsub [2,3,1,0] rfl (L4 (M 11 0 + 1) 0 (by omega) (by omega))
set_option maxRecDepth 100000 in
set_option maxHeartbeats 1000000 in
theorem c0_firstByRule (l : Launch) (D : va_G) (cI cZ cJ : ClassId) (h : Nat) (q : Nat → Nat) (F : Nat → Int32) (B : Nat → Nat → Int32) (M : gm_M) (f : Nat) (wf : gm_wf M) (hr : gc_rep F B M) (hrest : gm_rest M) (hf : f ≤ 1) : gk_I l yX0_firstByRule wsX0_firstByRule ({ frames := 1, cells := 0, slots := 0, locals := 23 } : Room) D (g_T cI cZ cJ) gk_E0 [.ref h, .int (nI f)] (gs_W cI cZ h q F B) 0 0 (fun (r : Int32) (u : Unit) => r = gm_e (gm_nxt M f (M 11 0))) (fun u => (gs_W cI cZ h q F B)) := by
  refine gk_I_of (ty := .int) (cc := cX0_firstByRule) (nL := 5) (by decide +kernel) rfl (Nat.le_of_ble_eq_true rfl) ?_
  intro p e s m below meth c A Q hnm hE G RET
  obtain ⟨hz1, hz2, hz3, hz4, hz5, hz6, hz7, hz8⟩ := id wf
  have hinX0 : ∀ w ∈ wsX00, w ∈ wsX0_firstByRule := fun w h9 => (List.mem_cons_of_mem _ (List.mem_append_right _ h9))
  have k34 := G.2.2.2.2.1 (.fieldLink RX0 34 "GustMill$State" "stonesUnder" "[I") (List.mem_cons_of_mem _ (List.mem_append_left _ (List.mem_of_getElem? (i := 1) rfl)))
  have k47 := G.2.2.2.2.1 (.fieldLink RX0 47 "GustMill$State" "sackCount" "I") (List.mem_cons_of_mem _ (List.mem_append_left _ (List.mem_of_getElem? (i := 0) rfl)))
  have L4 : ∀ (n : Nat) (k : Nat), M 11 0 - k < n → (k ≤ M 11 0) → gk_C p l e ({ frames := 1, cells := 0, slots := 0, locals := 23 } : Room) s m ([.ref h, .int (nI f)] : List Value).toArray below meth c 5 D A Q 0 0 (gs_W cI cZ h q F B) [(0, .ref h), (1, .int (nI f)), (2, .int (gm_e (gm_nxt M f k))), (3, .int (nI k))] 4 [] := by
    intro n
    induction n with
    | zero => intro k h0; exact absurd h0 (Nat.not_lt_zero _)
    | succ n ih =>
      intro k h0 w0
      refine gk_iload_n G dX0_firstByRule_4 3 rfl ?_
      refine gk_aload_n G dX0_firstByRule_5 0 rfl ?_
      refine gk_get (v' := .int (nI (M 11 0))) G hinX0 (q0 := 0) rfl rfl 11 (by decide) k47 rfl (congrArg Value.int (hr.1.2.2.1)) dX0_firstByRule_6 ?_
      refine gk_icmp_ge (tgt := 68) G dX0_firstByRule_9 (by decide) (fun c_9 => ?_) (fun c_9 => ?_)
      · replace c_9 := (nI_leI (a := M 11 0) (b := k) (by omega) (by omega)).mp c_9
        refine gk_iload_n G dX0_firstByRule_68 2 rfl ?_
        exact RET _ _ _ _ _ _ () dX0_firstByRule_69 rfl (by rw [show k = M 11 0 by omega]) rfl (Nat.le_of_ble_eq_true rfl) (Nat.le_of_ble_eq_true rfl)
      · replace c_9 := (not_congr (nI_leI (a := M 11 0) (b := k) (by omega) (by omega))).mp c_9
        have hk5 := hrest k (by omega)
        have hk7 := hz7 k (by omega)
        have hkn := gm_nxt_le M f k
        refine gk_aload_n G dX0_firstByRule_12 0 rfl ?_
        refine gk_iload_n G dX0_firstByRule_13 3 rfl ?_
        refine gk_callIV (wr := []) G (c0_isGround l D cI cZ cJ h q F B M k wf hr (by omega)) gX0_firstByRule_X0_isGround rfl 1 (by decide +kernel) rfl rfl ⟨(Nat.le_of_ble_eq_true rfl), (Nat.le_of_ble_eq_true rfl)⟩ rfl (q0 := 0) rfl (T := TX0) (N := 16) rfl gk_ok0 trivial [0, 1, 2, 3, 4, 5, 6, 7, 8, 9] rfl (by decide) [] rfl (by decide) (by decide) rfl (Nat.le_of_ble_eq_true rfl) dX0_firstByRule_14 ⟨(Nat.le_of_ble_eq_true rfl), (Nat.le_of_ble_eq_true rfl)⟩ (fun r14 u14 hp14 => ?_)
        obtain rfl : r14 = gm_b (M 5 k = 0) := hp14
        show gk_C p l e ({ frames := 1, cells := 0, slots := 0, locals := 23 } : Room) s m ([.ref h, .int (nI f)] : List Value).toArray below meth c 5 D A Q 0 0 (gs_W cI cZ h q F B) [(0, .ref h), (1, .int (nI f)), (2, .int (gm_e (gm_nxt M f k))), (3, .int (nI k))] 17 [.int (gm_b (M 5 k = 0))]
        refine gk_if_ne (tgt := 38) G dX0_firstByRule_17 (by decide) (fun c_17 => ?_) (fun c_17 => ?_)
        · replace c_17 := gm_b_ne.mp c_17
          refine gk_iconst (v := nI 0) G dX0_firstByRule_38 (by decide) ?_
          refine gk_istore (lv' := [(4, .int (nI 0)), (0, .ref h), (1, .int (nI f)), (2, .int (gm_e (gm_nxt M f k))), (3, .int (nI k))]) G dX0_firstByRule_39 (by decide) rfl ?_
          refine gk_iload G dX0_firstByRule_41 0 rfl ?_
          refine gk_if_eq (tgt := 62) G dX0_firstByRule_43 (by decide) (fun c_43 => ?_) (fun c_43 => ?_)
          · replace c_43 := (nI_eq (a := 0) (b := 0) (by omega) (by omega)).mp c_43
            refine gk_iinc (j := 4) (v := nI (k + 1)) (lv' := [(3, .int (nI (k + 1))), (4, .int (nI 0)), (0, .ref h), (1, .int (nI f)), (2, .int (gm_e (gm_nxt M f k)))]) G dX0_firstByRule_62 rfl (nI_add k 1) (by decide) rfl ?_
            refine gk_goto (tgt := 4) G dX0_firstByRule_65 (by decide) ?_
            have e9 : gm_e (gm_nxt M f (k + 1)) = gm_e (gm_nxt M f k) := by
              show gm_e (if M 8 k = 0 ∧ (f = 0 ∨ M 7 k = 0) ∧ (gm_nxt M f k = 0 ∨ gm_trn M k < gm_trn M (gm_nxt M f k - 1)) then k + 1 else gm_nxt M f k) = _
              rw [if_neg (by first | exact fun q => hk5 c_17 q.1 | exact fun q => q.2.1.elim c_21 c_31 | exact fun q => q.2.2.elim c_48 c_57)]
            have t9 := ih (k + 1) (by omega) (by omega)
            rw [e9] at t9
            exact gk_lsub [2,3,4,0] rfl t9
          · replace c_43 := (not_congr (nI_eq (a := 0) (b := 0) (by omega) (by omega))).mp c_43
            exact absurd rfl c_43
        · replace c_17 := gm_b_eq.mp c_17
          have hd0 : M 8 k = 0 := by
            by_cases h9 : M 8 k = 0
            · exact h9
            · exact absurd (hk7.2.2.2.2.2.1 h9).2 c_17
          refine gk_iload_n G dX0_firstByRule_20 1 rfl ?_
          refine gk_if_eq (tgt := 34) G dX0_firstByRule_21 (by decide) (fun c_21 => ?_) (fun c_21 => ?_)
          · replace c_21 := (nI_eq (a := f) (b := 0) (by omega) (by omega)).mp c_21
            refine gk_iconst (v := nI 1) G dX0_firstByRule_34 (by decide) ?_
            refine gk_goto (tgt := 39) G dX0_firstByRule_35 (by decide) ?_
            refine gk_istore (lv' := [(4, .int (nI 1)), (0, .ref h), (1, .int (nI f)), (2, .int (gm_e (gm_nxt M f k))), (3, .int (nI k))]) G dX0_firstByRule_39 (by decide) rfl ?_
            refine gk_iload G dX0_firstByRule_41 0 rfl ?_
            refine gk_if_eq (tgt := 62) G dX0_firstByRule_43 (by decide) (fun c_43 => ?_) (fun c_43 => ?_)
            · replace c_43 := (nI_eq (a := 1) (b := 0) (by omega) (by omega)).mp c_43
              exact absurd c_43 (by omega)
            · replace c_43 := (not_congr (nI_eq (a := 1) (b := 0) (by omega) (by omega))).mp c_43
              refine gk_iload_n G dX0_firstByRule_46 3 rfl ?_
              refine gk_iconst (v := -1) G dX0_firstByRule_47 (by decide) ?_
              refine gk_icmp_eq (tgt := 60) G dX0_firstByRule_48 (by decide) (fun c_48 => ?_) (fun c_48 => ?_)
              · replace c_48 := (gm_e_none (a := gm_nxt M f k) (by omega)).mp c_48
                refine gk_iload_n G dX0_firstByRule_60 4 rfl ?_
                refine gk_istore_n (lv' := [(2, .int (nI k)), (4, .int (nI 1)), (0, .ref h), (1, .int (nI f)), (3, .int (nI k))]) G dX0_firstByRule_61 rfl (by decide) rfl ?_
                refine gk_iinc (j := 4) (v := nI (k + 1)) (lv' := [(3, .int (nI (k + 1))), (2, .int (nI k)), (4, .int (nI 1)), (0, .ref h), (1, .int (nI f))]) G dX0_firstByRule_62 rfl (nI_add k 1) (by decide) rfl ?_
                refine gk_goto (tgt := 4) G dX0_firstByRule_65 (by decide) ?_
                have e9 : gm_e (gm_nxt M f (k + 1)) = nI k := by
                  show gm_e (if M 8 k = 0 ∧ (f = 0 ∨ M 7 k = 0) ∧ (gm_nxt M f k = 0 ∨ gm_trn M k < gm_trn M (gm_nxt M f k - 1)) then k + 1 else gm_nxt M f k) = _
                  rw [if_pos ⟨hd0, by first | exact Or.inl c_21 | exact Or.inr c_31, by first | exact Or.inl c_48 | exact Or.inr c_57⟩]; exact gm_eS k
                have t9 := ih (k + 1) (by omega) (by omega)
                rw [e9] at t9
                exact gk_lsub [3,4,1,0] rfl t9
              · replace c_48 := (not_congr (gm_e_none (a := gm_nxt M f k) (by omega))).mp c_48
                refine gk_aload_n G dX0_firstByRule_51 1 rfl ?_
                refine gk_iload_n G dX0_firstByRule_52 4 rfl ?_
                refine gk_iload_n G dX0_firstByRule_53 3 rfl ?_
                refine gk_callIV (wr := []) G (c0_isAhead l D cI cZ cJ h q F B M k (gm_nxt M f k - 1) wf hr (by omega) (by omega)) gX0_firstByRule_X0_isAhead rfl 2 (by decide +kernel) rfl rfl ⟨(Nat.le_of_ble_eq_true rfl), (Nat.le_of_ble_eq_true rfl)⟩ rfl (q0 := 0) rfl (T := TX0) (N := 16) rfl gk_ok0 trivial [0, 1, 2, 3, 4, 5, 6, 7, 8, 9] rfl (by decide) [] rfl (by decide) (by decide) (by rw [gm_e_pred c_48]; rfl) (Nat.le_of_ble_eq_true rfl) dX0_firstByRule_54 ⟨(Nat.le_of_ble_eq_true rfl), (Nat.le_of_ble_eq_true rfl)⟩ (fun r54 u54 hp54 => ?_)
                obtain rfl : r54 = gm_b (gm_trn M k < gm_trn M (gm_nxt M f k - 1)) := hp54
                show gk_C p l e ({ frames := 1, cells := 0, slots := 0, locals := 23 } : Room) s m ([.ref h, .int (nI f)] : List Value).toArray below meth c 5 D A Q 0 0 (gs_W cI cZ h q F B) [(4, .int (nI 1)), (0, .ref h), (1, .int (nI f)), (2, .int (gm_e (gm_nxt M f k))), (3, .int (nI k))] 57 [.int (gm_b (gm_trn M k < gm_trn M (gm_nxt M f k - 1)))]
                refine gk_if_eq (tgt := 62) G dX0_firstByRule_57 (by decide) (fun c_57 => ?_) (fun c_57 => ?_)
                · replace c_57 := gm_b_eq.mp c_57
                  refine gk_iinc (j := 4) (v := nI (k + 1)) (lv' := [(3, .int (nI (k + 1))), (4, .int (nI 1)), (0, .ref h), (1, .int (nI f)), (2, .int (gm_e (gm_nxt M f k)))]) G dX0_firstByRule_62 rfl (nI_add k 1) (by decide) rfl ?_
                  refine gk_goto (tgt := 4) G dX0_firstByRule_65 (by decide) ?_
                  have e9 : gm_e (gm_nxt M f (k + 1)) = gm_e (gm_nxt M f k) := by
                    show gm_e (if M 8 k = 0 ∧ (f = 0 ∨ M 7 k = 0) ∧ (gm_nxt M f k = 0 ∨ gm_trn M k < gm_trn M (gm_nxt M f k - 1)) then k + 1 else gm_nxt M f k) = _
                    rw [if_neg (by first | exact fun q => hk5 c_17 q.1 | exact fun q => q.2.1.elim c_21 c_31 | exact fun q => q.2.2.elim c_48 c_57)]
                  have t9 := ih (k + 1) (by omega) (by omega)
                  rw [e9] at t9
                  exact gk_lsub [2,3,4,0] rfl t9
                · replace c_57 := gm_b_ne.mp c_57
                  refine gk_iload_n G dX0_firstByRule_60 4 rfl ?_
                  refine gk_istore_n (lv' := [(2, .int (nI k)), (4, .int (nI 1)), (0, .ref h), (1, .int (nI f)), (3, .int (nI k))]) G dX0_firstByRule_61 rfl (by decide) rfl ?_
                  refine gk_iinc (j := 4) (v := nI (k + 1)) (lv' := [(3, .int (nI (k + 1))), (2, .int (nI k)), (4, .int (nI 1)), (0, .ref h), (1, .int (nI f))]) G dX0_firstByRule_62 rfl (nI_add k 1) (by decide) rfl ?_
                  refine gk_goto (tgt := 4) G dX0_firstByRule_65 (by decide) ?_
                  have e9 : gm_e (gm_nxt M f (k + 1)) = nI k := by
                    show gm_e (if M 8 k = 0 ∧ (f = 0 ∨ M 7 k = 0) ∧ (gm_nxt M f k = 0 ∨ gm_trn M k < gm_trn M (gm_nxt M f k - 1)) then k + 1 else gm_nxt M f k) = _
                    rw [if_pos ⟨hd0, by first | exact Or.inl c_21 | exact Or.inr c_31, by first | exact Or.inl c_48 | exact Or.inr c_57⟩]; exact gm_eS k
                  have t9 := ih (k + 1) (by omega) (by omega)
                  rw [e9] at t9
                  exact gk_lsub [3,4,1,0] rfl t9
          · replace c_21 := (not_congr (nI_eq (a := f) (b := 0) (by omega) (by omega))).mp c_21
            refine gk_aload_n G dX0_firstByRule_24 0 rfl ?_
            refine gk_get (v' := .ref (q 7)) G hinX0 (q0 := 0) rfl rfl 7 (by decide) k34 rfl rfl dX0_firstByRule_25 ?_
            refine gk_iload_n G dX0_firstByRule_28 3 rfl ?_
            refine gk_iald (v := gm_e (M 7 k)) G (q0 := 8) (t0 := 0) rfl rfl k rfl (by omega) (by decide) (hr.2.2.2.2.2.2.2.1 k (by omega)) dX0_firstByRule_29 ?_
            refine gk_iconst (v := -1) G dX0_firstByRule_30 (by decide) ?_
            refine gk_icmp_ne (tgt := 38) G dX0_firstByRule_31 (by decide) (fun c_31 => ?_) (fun c_31 => ?_)
            · replace c_31 := (not_congr (gm_e_none (a := M 7 k) (by omega))).mp c_31
              refine gk_iconst (v := nI 0) G dX0_firstByRule_38 (by decide) ?_
              refine gk_istore (lv' := [(4, .int (nI 0)), (0, .ref h), (1, .int (nI f)), (2, .int (gm_e (gm_nxt M f k))), (3, .int (nI k))]) G dX0_firstByRule_39 (by decide) rfl ?_
              refine gk_iload G dX0_firstByRule_41 0 rfl ?_
              refine gk_if_eq (tgt := 62) G dX0_firstByRule_43 (by decide) (fun c_43 => ?_) (fun c_43 => ?_)
              · replace c_43 := (nI_eq (a := 0) (b := 0) (by omega) (by omega)).mp c_43
                refine gk_iinc (j := 4) (v := nI (k + 1)) (lv' := [(3, .int (nI (k + 1))), (4, .int (nI 0)), (0, .ref h), (1, .int (nI f)), (2, .int (gm_e (gm_nxt M f k)))]) G dX0_firstByRule_62 rfl (nI_add k 1) (by decide) rfl ?_
                refine gk_goto (tgt := 4) G dX0_firstByRule_65 (by decide) ?_
                have e9 : gm_e (gm_nxt M f (k + 1)) = gm_e (gm_nxt M f k) := by
                  show gm_e (if M 8 k = 0 ∧ (f = 0 ∨ M 7 k = 0) ∧ (gm_nxt M f k = 0 ∨ gm_trn M k < gm_trn M (gm_nxt M f k - 1)) then k + 1 else gm_nxt M f k) = _
                  rw [if_neg (by first | exact fun q => hk5 c_17 q.1 | exact fun q => q.2.1.elim c_21 c_31 | exact fun q => q.2.2.elim c_48 c_57)]
                have t9 := ih (k + 1) (by omega) (by omega)
                rw [e9] at t9
                exact gk_lsub [2,3,4,0] rfl t9
              · replace c_43 := (not_congr (nI_eq (a := 0) (b := 0) (by omega) (by omega))).mp c_43
                exact absurd rfl c_43
            · replace c_31 := (gm_e_none (a := M 7 k) (by omega)).mp c_31
              refine gk_iconst (v := nI 1) G dX0_firstByRule_34 (by decide) ?_
              refine gk_goto (tgt := 39) G dX0_firstByRule_35 (by decide) ?_
              refine gk_istore (lv' := [(4, .int (nI 1)), (0, .ref h), (1, .int (nI f)), (2, .int (gm_e (gm_nxt M f k))), (3, .int (nI k))]) G dX0_firstByRule_39 (by decide) rfl ?_
              refine gk_iload G dX0_firstByRule_41 0 rfl ?_
              refine gk_if_eq (tgt := 62) G dX0_firstByRule_43 (by decide) (fun c_43 => ?_) (fun c_43 => ?_)
              · replace c_43 := (nI_eq (a := 1) (b := 0) (by omega) (by omega)).mp c_43
                exact absurd c_43 (by omega)
              · replace c_43 := (not_congr (nI_eq (a := 1) (b := 0) (by omega) (by omega))).mp c_43
                refine gk_iload_n G dX0_firstByRule_46 3 rfl ?_
                refine gk_iconst (v := -1) G dX0_firstByRule_47 (by decide) ?_
                refine gk_icmp_eq (tgt := 60) G dX0_firstByRule_48 (by decide) (fun c_48 => ?_) (fun c_48 => ?_)
                · replace c_48 := (gm_e_none (a := gm_nxt M f k) (by omega)).mp c_48
                  refine gk_iload_n G dX0_firstByRule_60 4 rfl ?_
                  refine gk_istore_n (lv' := [(2, .int (nI k)), (4, .int (nI 1)), (0, .ref h), (1, .int (nI f)), (3, .int (nI k))]) G dX0_firstByRule_61 rfl (by decide) rfl ?_
                  refine gk_iinc (j := 4) (v := nI (k + 1)) (lv' := [(3, .int (nI (k + 1))), (2, .int (nI k)), (4, .int (nI 1)), (0, .ref h), (1, .int (nI f))]) G dX0_firstByRule_62 rfl (nI_add k 1) (by decide) rfl ?_
                  refine gk_goto (tgt := 4) G dX0_firstByRule_65 (by decide) ?_
                  have e9 : gm_e (gm_nxt M f (k + 1)) = nI k := by
                    show gm_e (if M 8 k = 0 ∧ (f = 0 ∨ M 7 k = 0) ∧ (gm_nxt M f k = 0 ∨ gm_trn M k < gm_trn M (gm_nxt M f k - 1)) then k + 1 else gm_nxt M f k) = _
                    rw [if_pos ⟨hd0, by first | exact Or.inl c_21 | exact Or.inr c_31, by first | exact Or.inl c_48 | exact Or.inr c_57⟩]; exact gm_eS k
                  have t9 := ih (k + 1) (by omega) (by omega)
                  rw [e9] at t9
                  exact gk_lsub [3,4,1,0] rfl t9
                · replace c_48 := (not_congr (gm_e_none (a := gm_nxt M f k) (by omega))).mp c_48
                  refine gk_aload_n G dX0_firstByRule_51 1 rfl ?_
                  refine gk_iload_n G dX0_firstByRule_52 4 rfl ?_
                  refine gk_iload_n G dX0_firstByRule_53 3 rfl ?_
                  refine gk_callIV (wr := []) G (c0_isAhead l D cI cZ cJ h q F B M k (gm_nxt M f k - 1) wf hr (by omega) (by omega)) gX0_firstByRule_X0_isAhead rfl 2 (by decide +kernel) rfl rfl ⟨(Nat.le_of_ble_eq_true rfl), (Nat.le_of_ble_eq_true rfl)⟩ rfl (q0 := 0) rfl (T := TX0) (N := 16) rfl gk_ok0 trivial [0, 1, 2, 3, 4, 5, 6, 7, 8, 9] rfl (by decide) [] rfl (by decide) (by decide) (by rw [gm_e_pred c_48]; rfl) (Nat.le_of_ble_eq_true rfl) dX0_firstByRule_54 ⟨(Nat.le_of_ble_eq_true rfl), (Nat.le_of_ble_eq_true rfl)⟩ (fun r54 u54 hp54 => ?_)
                  obtain rfl : r54 = gm_b (gm_trn M k < gm_trn M (gm_nxt M f k - 1)) := hp54
                  show gk_C p l e ({ frames := 1, cells := 0, slots := 0, locals := 23 } : Room) s m ([.ref h, .int (nI f)] : List Value).toArray below meth c 5 D A Q 0 0 (gs_W cI cZ h q F B) [(4, .int (nI 1)), (0, .ref h), (1, .int (nI f)), (2, .int (gm_e (gm_nxt M f k))), (3, .int (nI k))] 57 [.int (gm_b (gm_trn M k < gm_trn M (gm_nxt M f k - 1)))]
                  refine gk_if_eq (tgt := 62) G dX0_firstByRule_57 (by decide) (fun c_57 => ?_) (fun c_57 => ?_)
                  · replace c_57 := gm_b_eq.mp c_57
                    refine gk_iinc (j := 4) (v := nI (k + 1)) (lv' := [(3, .int (nI (k + 1))), (4, .int (nI 1)), (0, .ref h), (1, .int (nI f)), (2, .int (gm_e (gm_nxt M f k)))]) G dX0_firstByRule_62 rfl (nI_add k 1) (by decide) rfl ?_
                    refine gk_goto (tgt := 4) G dX0_firstByRule_65 (by decide) ?_
                    have e9 : gm_e (gm_nxt M f (k + 1)) = gm_e (gm_nxt M f k) := by
                      show gm_e (if M 8 k = 0 ∧ (f = 0 ∨ M 7 k = 0) ∧ (gm_nxt M f k = 0 ∨ gm_trn M k < gm_trn M (gm_nxt M f k - 1)) then k + 1 else gm_nxt M f k) = _
                      rw [if_neg (by first | exact fun q => hk5 c_17 q.1 | exact fun q => q.2.1.elim c_21 c_31 | exact fun q => q.2.2.elim c_48 c_57)]
                    have t9 := ih (k + 1) (by omega) (by omega)
                    rw [e9] at t9
                    exact gk_lsub [2,3,4,0] rfl t9
                  · replace c_57 := gm_b_ne.mp c_57
                    refine gk_iload_n G dX0_firstByRule_60 4 rfl ?_
                    refine gk_istore_n (lv' := [(2, .int (nI k)), (4, .int (nI 1)), (0, .ref h), (1, .int (nI f)), (3, .int (nI k))]) G dX0_firstByRule_61 rfl (by decide) rfl ?_
                    refine gk_iinc (j := 4) (v := nI (k + 1)) (lv' := [(3, .int (nI (k + 1))), (2, .int (nI k)), (4, .int (nI 1)), (0, .ref h), (1, .int (nI f))]) G dX0_firstByRule_62 rfl (nI_add k 1) (by decide) rfl ?_
                    refine gk_goto (tgt := 4) G dX0_firstByRule_65 (by decide) ?_
                    have e9 : gm_e (gm_nxt M f (k + 1)) = nI k := by
                      show gm_e (if M 8 k = 0 ∧ (f = 0 ∨ M 7 k = 0) ∧ (gm_nxt M f k = 0 ∨ gm_trn M k < gm_trn M (gm_nxt M f k - 1)) then k + 1 else gm_nxt M f k) = _
                      rw [if_pos ⟨hd0, by first | exact Or.inl c_21 | exact Or.inr c_31, by first | exact Or.inl c_48 | exact Or.inr c_57⟩]; exact gm_eS k
                    have t9 := ih (k + 1) (by omega) (by omega)
                    rw [e9] at t9
                    exact gk_lsub [3,4,1,0] rfl t9
  refine gk_iconst (v := -1) G dX0_firstByRule_0 (by decide) ?_
  refine gk_istore_n (lv' := [(2, .int (-1)), (0, .ref h), (1, .int (nI f))]) G dX0_firstByRule_1 rfl (by decide) rfl ?_
  refine gk_iconst (v := nI 0) G dX0_firstByRule_2 (by decide) ?_
  refine gk_istore_n (lv' := [(3, .int (nI 0)), (2, .int (-1)), (0, .ref h), (1, .int (nI f))]) G dX0_firstByRule_3 rfl (by decide) rfl ?_
  have t0 := L4 (M 11 0 + 1) 0 (by omega) (by omega)
  have e0 : gm_e (gm_nxt M f 0) = -1 := gm_e0
  rw [e0] at t0
  exact gk_lsub [2,3,1,0] rfl t0
