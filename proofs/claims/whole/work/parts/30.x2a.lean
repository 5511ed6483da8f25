/-! THE REFERENCE: its cells, read as the same mill, and its methods' contracts. Written by wip/whole/gen_x2.py -/
def gd_V (q : Nat → Nat) (F : Nat → Int32) : List Value := [.int (F 0), .int (F 1), .ref (q 2), .ref (q 3), .int (F 4), .int (F 5), .int (F 6), .ref (q 7), .ref (q 8), .ref (q 9), .ref (q 10), .ref (q 11)]
def gd_W (cI : ClassId) (h : Nat) (q : Nat → Nat) (F : Nat → Int32) (B : Nat → Nat → Int32) (f kp g : Nat → Int32) : va_W := [(h, .inr (2, gd_V q F)), (q 2, .inl (cI, 4, .inl (B 2))), (q 3, .inl (cI, 12, .inl (B 3))), (q 7, .inl (cI, 16, .inl (B 7))), (q 8, .inl (cI, 16, .inl (B 8))), (q 9, .inl (cI, 51, .inl f)), (q 10, .inl (cI, 51, .inl kp)), (q 11, .inl (cI, 4, .inl g))]
def gr_st (F : Nat → Int32) (B : Nat → Nat → Int32) (M : gm_M) : Prop := F 1 = nI (M 10 0) ∧ F 4 = nI (M 14 0) ∧ F 5 = nI (M 15 0) ∧ F 6 = nI (M 11 0) ∧ (∀ i, i < M 10 0 → B 2 i = nI (M 1 i)) ∧ (∀ i, i < 12 → B 3 i = nI (M 0 i)) ∧ (∀ i, i < M 11 0 → B 7 i = nI (M 4 i)) ∧ (∀ i, i < M 11 0 → B 8 i = nI (M 6 i))
def gr_now (f : Nat → Int32) (M : gm_M) : Prop := f 0 = nI (M 9 0) ∧ f 1 = nI (M 13 0) ∧ f 2 = nI (M 16 0) ∧ (∀ i, i < M 11 0 → f (3 + i) = nI (M 5 i)) ∧ (∀ i, i < M 11 0 → f (19 + i) = gm_e (M 8 i)) ∧ (∀ i, i < M 11 0 → f (35 + i) = gm_e (M 7 i))
theorem gr_st_eq {F : Nat → Int32} {B : Nat → Nat → Int32} {M X : gm_M} (h : gr_st F B M) (e : ∀ k i, k ≠ 3 → k ≠ 5 → k ≠ 7 → k ≠ 8 → k ≠ 9 → k ≠ 13 → k ≠ 16 → X k i = M k i) : gr_st F B X := by
  obtain ⟨h1, h4, h5, h6, r2, r3, r7, r8⟩ := h
  have e' : ∀ k i, (k = 0 ∨ k = 1 ∨ k = 4 ∨ k = 6 ∨ k = 10 ∨ k = 11 ∨ k = 14 ∨ k = 15) → X k i = M k i := fun k i hk => e k i (by omega) (by omega) (by omega) (by omega) (by omega) (by omega) (by omega)
  refine ⟨by rw [e' 10 0 (by omega)]; exact h1, by rw [e' 14 0 (by omega)]; exact h4, by rw [e' 15 0 (by omega)]; exact h5, by rw [e' 11 0 (by omega)]; exact h6, fun i hi => ?_, fun i hi => ?_, fun i hi => ?_, fun i hi => ?_⟩
  · rw [e' 10 0 (by omega)] at hi; rw [e' 1 i (by omega)]; exact r2 i hi
  · rw [e' 0 i (by omega)]; exact r3 i hi
  · rw [e' 11 0 (by omega)] at hi; rw [e' 4 i (by omega)]; exact r7 i hi
  · rw [e' 11 0 (by omega)] at hi; rw [e' 6 i (by omega)]; exact r8 i hi
theorem gr_now_same {f : Nat → Int32} {M X : gm_M} (h : gr_now f M) (hs : gm_same M X) : gr_now f X := by
  obtain ⟨h0, h1, h2, r5, r8, r7⟩ := h
  have e11 : X 11 0 = M 11 0 := hs 11 0 (by omega)
  refine ⟨by rw [hs 9 0 (by omega)]; exact h0, by rw [hs 13 0 (by omega)]; exact h1, by rw [hs 16 0 (by omega)]; exact h2, fun i hi => ?_, fun i hi => ?_, fun i hi => ?_⟩
  · rw [e11] at hi; rw [hs 5 i (by omega)]; exact r5 i hi
  · rw [e11] at hi; rw [hs 8 i (by omega)]; exact r8 i hi
  · rw [e11] at hi; rw [hs 7 i (by omega)]; exact r7 i hi
/-- one place of the row, one number of the mill -/
theorem gr_now_put {f : Nat → Int32} {M X : gm_M} {j : Nat} {v : Int32} (h : gr_now f M) (h16 : M 11 0 ≤ 16) (e11 : X 11 0 = M 11 0)
    (h0 : (upd f j v) 0 = nI (X 9 0)) (h1 : (upd f j v) 1 = nI (X 13 0)) (h2 : (upd f j v) 2 = nI (X 16 0))
    (h5 : ∀ i, i < M 11 0 → (j = 3 + i ∧ v = nI (X 5 i)) ∨ (j ≠ 3 + i ∧ X 5 i = M 5 i)) (h8 : ∀ i, i < M 11 0 → (j = 19 + i ∧ v = gm_e (X 8 i)) ∨ (j ≠ 19 + i ∧ X 8 i = M 8 i)) (h7 : ∀ i, i < M 11 0 → (j = 35 + i ∧ v = gm_e (X 7 i)) ∨ (j ≠ 35 + i ∧ X 7 i = M 7 i)) : gr_now (upd f j v) X := by
  obtain ⟨a0, a1, a2, r5, r8, r7⟩ := h
  refine ⟨h0, h1, h2, fun i hi => ?_, fun i hi => ?_, fun i hi => ?_⟩
  · rw [e11] at hi
    rcases h5 i hi with ⟨q, hv⟩ | ⟨q, hv⟩
    · rw [← q, pk_us, hv]
    · rw [pk_un (Ne.symm q), hv]; exact r5 i hi
  · rw [e11] at hi
    rcases h8 i hi with ⟨q, hv⟩ | ⟨q, hv⟩
    · rw [← q, pk_us, hv]
    · rw [pk_un (Ne.symm q), hv]; exact r8 i hi
  · rw [e11] at hi
    rcases h7 i hi with ⟨q, hv⟩ | ⟨q, hv⟩
    · rw [← q, pk_us, hv]
    · rw [pk_un (Ne.symm q), hv]; exact r7 i hi
theorem gr_now_7 {f : Nat → Int32} {M : gm_M} {s w : Nat} {v : Int32} (h : gr_now f M) (h16 : M 11 0 ≤ 16) (hs : s < M 11 0) (hv : v = gm_e w) : gr_now (upd f (35 + s) v) (gm_set M 7 s w) := by
  refine gr_now_put h h16 (gm_set_k _ _ (by decide)) ?_ ?_ ?_ (fun i hi => Or.inr ⟨by omega, gm_set_k _ _ (by decide)⟩) (fun i hi => Or.inr ⟨by omega, gm_set_k _ _ (by decide)⟩) (fun i hi => ?_)
  · rw [pk_un (by omega), gm_set_k _ _ (by decide)]; exact h.1
  · rw [pk_un (by omega), gm_set_k _ _ (by decide)]; exact h.2.1
  · rw [pk_un (by omega), gm_set_k _ _ (by decide)]; exact h.2.2.1
  · by_cases q : i = s
    · subst q; exact Or.inl ⟨rfl, by rw [gm_set_at]; exact hv⟩
    · exact Or.inr ⟨by omega, gm_set_i _ _ q⟩
theorem gr_now_8 {f : Nat → Int32} {M : gm_M} {s w : Nat} {v : Int32} (h : gr_now f M) (h16 : M 11 0 ≤ 16) (hs : s < M 11 0) (hv : v = gm_e w) : gr_now (upd f (19 + s) v) (gm_set M 8 s w) := by
  refine gr_now_put h h16 (gm_set_k _ _ (by decide)) ?_ ?_ ?_ (fun i hi => Or.inr ⟨by omega, gm_set_k _ _ (by decide)⟩) (fun i hi => ?_) (fun i hi => Or.inr ⟨by omega, gm_set_k _ _ (by decide)⟩)
  · rw [pk_un (by omega), gm_set_k _ _ (by decide)]; exact h.1
  · rw [pk_un (by omega), gm_set_k _ _ (by decide)]; exact h.2.1
  · rw [pk_un (by omega), gm_set_k _ _ (by decide)]; exact h.2.2.1
  · by_cases q : i = s
    · subst q; exact Or.inl ⟨rfl, by rw [gm_set_at]; exact hv⟩
    · exact Or.inr ⟨by omega, gm_set_i _ _ q⟩
theorem gr_now_5 {f : Nat → Int32} {M : gm_M} {s w : Nat} {v : Int32} (h : gr_now f M) (h16 : M 11 0 ≤ 16) (hs : s < M 11 0) (hv : v = nI w) : gr_now (upd f (3 + s) v) (gm_set M 5 s w) := by
  refine gr_now_put h h16 (gm_set_k _ _ (by decide)) ?_ ?_ ?_ (fun i hi => ?_) (fun i hi => Or.inr ⟨by omega, gm_set_k _ _ (by decide)⟩) (fun i hi => Or.inr ⟨by omega, gm_set_k _ _ (by decide)⟩)
  · rw [pk_un (by omega), gm_set_k _ _ (by decide)]; exact h.1
  · rw [pk_un (by omega), gm_set_k _ _ (by decide)]; exact h.2.1
  · rw [pk_un (by omega), gm_set_k _ _ (by decide)]; exact h.2.2.1
  · by_cases q : i = s
    · subst q; exact Or.inl ⟨rfl, by rw [gm_set_at]; exact hv⟩
    · exact Or.inr ⟨by omega, gm_set_i _ _ q⟩
theorem gr_now_9 {f : Nat → Int32} {M : gm_M} {w : Nat} {v : Int32} (h : gr_now f M) (h16 : M 11 0 ≤ 16) (hv : v = nI w) : gr_now (upd f 0 v) (gm_set M 9 0 w) := by
  refine gr_now_put h h16 (gm_set_k _ _ (by decide)) ?_ ?_ ?_ (fun i hi => Or.inr ⟨by omega, gm_set_k _ _ (by decide)⟩) (fun i hi => Or.inr ⟨by omega, gm_set_k _ _ (by decide)⟩) (fun i hi => Or.inr ⟨by omega, gm_set_k _ _ (by decide)⟩)
  · rw [pk_us, gm_set_at]; exact hv
  · rw [pk_un (by omega), gm_set_k _ _ (by decide)]; exact h.2.1
  · rw [pk_un (by omega), gm_set_k _ _ (by decide)]; exact h.2.2.1
theorem gr_now_13 {f : Nat → Int32} {M : gm_M} {w : Nat} {v : Int32} (h : gr_now f M) (h16 : M 11 0 ≤ 16) (hv : v = nI w) : gr_now (upd f 1 v) (gm_set M 13 0 w) := by
  refine gr_now_put h h16 (gm_set_k _ _ (by decide)) ?_ ?_ ?_ (fun i hi => Or.inr ⟨by omega, gm_set_k _ _ (by decide)⟩) (fun i hi => Or.inr ⟨by omega, gm_set_k _ _ (by decide)⟩) (fun i hi => Or.inr ⟨by omega, gm_set_k _ _ (by decide)⟩)
  · rw [pk_un (by omega), gm_set_k _ _ (by decide)]; exact h.1
  · rw [pk_us, gm_set_at]; exact hv
  · rw [pk_un (by omega), gm_set_k _ _ (by decide)]; exact h.2.2.1
theorem gr_now_16 {f : Nat → Int32} {M : gm_M} {w : Nat} {v : Int32} (h : gr_now f M) (h16 : M 11 0 ≤ 16) (hv : v = nI w) : gr_now (upd f 2 v) (gm_set M 16 0 w) := by
  refine gr_now_put h h16 (gm_set_k _ _ (by decide)) ?_ ?_ ?_ (fun i hi => Or.inr ⟨by omega, gm_set_k _ _ (by decide)⟩) (fun i hi => Or.inr ⟨by omega, gm_set_k _ _ (by decide)⟩) (fun i hi => Or.inr ⟨by omega, gm_set_k _ _ (by decide)⟩)
  · rw [pk_un (by omega), gm_set_k _ _ (by decide)]; exact h.1
  · rw [pk_un (by omega), gm_set_k _ _ (by decide)]; exact h.2.1
  · rw [pk_us, gm_set_at]; exact hv

set_option maxRecDepth 100000 in
set_option maxHeartbeats 1000000 in
theorem c2_isDone (l : Launch) (D : va_G) (cI cZ cJ : ClassId) (h : Nat) (q : Nat → Nat) (F : Nat → Int32) (B : Nat → Nat → Int32) (f kp g : Nat → Int32) (M : gm_M) (j : Nat) (wf : gm_wf M) (hs : gr_st F B M) (hn : gr_now f M) (hh : M 9 0 < 2000000) (hj : j < M 11 0) : gk_I l yX2_isDone wsX2_isDone ({ frames := 0, cells := 0, slots := 0, locals := 0 } : Room) D (g_T cI cZ cJ) gk_E0 [.ref h, .int (nI j)] (gd_W cI h q F B f kp g) 0 0 (fun (r : Int32) (u : Unit) => r = gm_b (M 8 j ≠ 0)) (fun u => (gd_W cI h q F B f kp g)) := by
  refine gk_I_of (ty := .boolean) (cc := cX2_isDone) (nL := 2) (by decide +kernel) rfl (Nat.le_of_ble_eq_true rfl) ?_
  intro p e s m below meth c A Q hnm hE G RET
  obtain ⟨hz1, hz2, hz3, hz4, hz5, hz6, hz7, hz8⟩ := id wf
  have hj7 := hz7 j hj
  have hinX2 : ∀ w ∈ wsX20, w ∈ wsX2_isDone := fun w h9 => (List.mem_cons_of_mem _ (List.mem_append_right _ h9))
  have k22 := G.2.2.2.2.1 (.fieldLink RX2 22 "GustMillModel" "now" "[I") (List.mem_cons_of_mem _ (List.mem_append_left _ (List.mem_of_getElem? (i := 0) rfl)))
  refine gk_aload_n G dX2_isDone_0 0 rfl ?_
  refine gk_get (v' := .ref (q 9)) G hinX2 (q0 := 0) rfl rfl 9 (by decide) k22 rfl rfl dX2_isDone_1 ?_
  refine gk_bipush (v := nI 19) G dX2_isDone_4 (by decide) ?_
  refine gk_iload_n G dX2_isDone_6 1 rfl ?_
  refine gk_iadd (v := nI (19 + j)) G dX2_isDone_7 (nI_add 19 j) ?_
  refine gk_iald (v := gm_e (M 8 j)) G (q0 := 5) (t0 := 0) rfl rfl (19 + j) rfl (by omega) (by decide) (hn.2.2.2.2.1 j (by omega)) dX2_isDone_8 ?_
  refine gk_iconst (v := -1) G dX2_isDone_9 (by decide) ?_
  refine gk_icmp_eq (tgt := 17) G dX2_isDone_10 (by decide) (fun c_10 => ?_) (fun c_10 => ?_)
  · replace c_10 := (gm_e_none (a := M 8 j) (by omega)).mp c_10
    refine gk_iconst (v := nI 0) G dX2_isDone_17 (by decide) ?_
    exact RET _ _ _ _ _ _ () dX2_isDone_18 rfl (by first | exact (gm_b1 c_10).symm | exact (gm_b0 (fun q => q c_10)).symm) rfl (Nat.le_of_ble_eq_true rfl) (Nat.le_of_ble_eq_true rfl)
  · replace c_10 := (not_congr (gm_e_none (a := M 8 j) (by omega))).mp c_10
    refine gk_iconst (v := nI 1) G dX2_isDone_13 (by decide) ?_
    refine gk_goto (tgt := 18) G dX2_isDone_14 (by decide) ?_
    exact RET _ _ _ _ _ _ () dX2_isDone_18 rfl (by first | exact (gm_b1 c_10).symm | exact (gm_b0 (fun q => q c_10)).symm) rfl (Nat.le_of_ble_eq_true rfl) (Nat.le_of_ble_eq_true rfl)
set_option maxRecDepth 100000 in
set_option maxHeartbeats 1000000 in
theorem c2_turn (l : Launch) (D : va_G) (cI cZ cJ : ClassId) (h : Nat) (q : Nat → Nat) (F : Nat → Int32) (B : Nat → Nat → Int32) (f kp g : Nat → Int32) (M : gm_M) (j : Nat) (wf : gm_wf M) (hs : gr_st F B M) (hn : gr_now f M) (hj : j < M 11 0) : gk_I l yX2_turn wsX2_turn ({ frames := 0, cells := 0, slots := 0, locals := 0 } : Room) D (g_T cI cZ cJ) gk_E0 [.ref h, .int (nI j)] (gd_W cI h q F B f kp g) 0 0 (fun (r : Int32) (u : Unit) => r = nI (gm_trn M j)) (fun u => (gd_W cI h q F B f kp g)) := by
  refine gk_I_of (ty := .int) (cc := cX2_turn) (nL := 2) (by decide +kernel) rfl (Nat.le_of_ble_eq_true rfl) ?_
  intro p e s m below meth c A Q hnm hE G RET
  obtain ⟨hz1, hz2, hz3, hz4, hz5, hz6, hz7, hz8⟩ := id wf
  have hj7 := hz7 j hj
  have hinX2 : ∀ w ∈ wsX20, w ∈ wsX2_turn := fun w h9 => (List.mem_cons_of_mem _ (List.mem_append_right _ h9))
  have k19 := G.2.2.2.2.1 (.fieldLink RX2 19 "GustMillModel" "until" "[I") (List.mem_cons_of_mem _ (List.mem_append_left _ (List.mem_of_getElem? (i := 1) rfl)))
  have k22 := G.2.2.2.2.1 (.fieldLink RX2 22 "GustMillModel" "now" "[I") (List.mem_cons_of_mem _ (List.mem_append_left _ (List.mem_of_getElem? (i := 2) rfl)))
  have k51 := G.2.2.2.2.1 (.fieldLink RX2 51 "GustMillModel" "rule" "I") (List.mem_cons_of_mem _ (List.mem_append_left _ (List.mem_of_getElem? (i := 0) rfl)))
  have J38 : gk_C p l e ({ frames := 0, cells := 0, slots := 0, locals := 0 } : Room) s m ([.ref h, .int (nI j)] : List Value).toArray below meth c 2 D A Q 0 0 (gd_W cI h q F B f kp g) [(0, .ref h), (1, .int (nI j))] 38 [.int (nI (gm_key M j)), .int (nI 16)] := by
    refine gk_imul (v := nI (16 * (gm_key M j))) G dX2_turn_38 (pk_mul 16 (gm_key M j)) ?_
    refine gk_iload_n G dX2_turn_39 1 rfl ?_
    refine gk_iadd (v := nI ((16 * (gm_key M j)) + j)) G dX2_turn_40 (nI_add (16 * (gm_key M j)) j) ?_
    exact RET _ _ _ _ _ _ () dX2_turn_41 rfl rfl rfl (Nat.le_of_ble_eq_true rfl) (Nat.le_of_ble_eq_true rfl)
  refine gk_bipush (v := nI 16) G dX2_turn_0 (by decide) ?_
  refine gk_aload_n G dX2_turn_2 0 rfl ?_
  refine gk_get (v' := .int (nI (M 14 0))) G hinX2 (q0 := 0) rfl rfl 4 (by decide) k51 rfl (congrArg Value.int (hs.2.1)) dX2_turn_3 ?_
  refine gk_if_ne (tgt := 13) G dX2_turn_6 (by decide) (fun c_6 => ?_) (fun c_6 => ?_)
  · replace c_6 := (not_congr (nI_eq (a := M 14 0) (b := 0) (by omega) (by omega))).mp c_6
    refine gk_aload_n G dX2_turn_13 0 rfl ?_
    refine gk_get (v' := .int (nI (M 14 0))) G hinX2 (q0 := 0) rfl rfl 4 (by decide) k51 rfl (congrArg Value.int (hs.2.1)) dX2_turn_14 ?_
    refine gk_iconst (v := nI 1) G dX2_turn_17 (by decide) ?_
    refine gk_icmp_ne (tgt := 30) G dX2_turn_18 (by decide) (fun c_18 => ?_) (fun c_18 => ?_)
    · replace c_18 := (not_congr (nI_eq (a := M 14 0) (b := 1) (by omega) (by omega))).mp c_18
      refine gk_aload_n G dX2_turn_30 0 rfl ?_
      refine gk_get (v' := .ref (q 9)) G hinX2 (q0 := 0) rfl rfl 9 (by decide) k22 rfl rfl dX2_turn_31 ?_
      refine gk_iconst (v := nI 3) G dX2_turn_34 (by decide) ?_
      refine gk_iload_n G dX2_turn_35 1 rfl ?_
      refine gk_iadd (v := nI (3 + j)) G dX2_turn_36 (nI_add 3 j) ?_
      refine gk_iald (v := nI (M 5 j)) G (q0 := 5) (t0 := 0) rfl rfl (3 + j) rfl (by omega) (by decide) (hn.2.2.2.1 j (by omega)) dX2_turn_37 ?_
      have t9 := J38
      rw [show gm_key M j = M 5 j by unfold gm_key; first | rw [if_pos c_6] | rw [if_neg c_6, if_pos c_18] | rw [if_neg c_6, if_neg c_18]] at t9
      exact t9
    · replace c_18 := (nI_eq (a := M 14 0) (b := 1) (by omega) (by omega)).mp c_18
      refine gk_aload_n G dX2_turn_21 0 rfl ?_
      refine gk_get (v' := .ref (q 8)) G hinX2 (q0 := 0) rfl rfl 8 (by decide) k19 rfl rfl dX2_turn_22 ?_
      refine gk_iload_n G dX2_turn_25 1 rfl ?_
      refine gk_iald (v := nI (M 6 j)) G (q0 := 4) (t0 := 0) rfl rfl j rfl (by omega) (by decide) (hs.2.2.2.2.2.2.2 j (by omega)) dX2_turn_26 ?_
      refine gk_goto (tgt := 38) G dX2_turn_27 (by decide) ?_
      have t9 := J38
      rw [show gm_key M j = M 6 j by unfold gm_key; first | rw [if_pos c_6] | rw [if_neg c_6, if_pos c_18] | rw [if_neg c_6, if_neg c_18]] at t9
      exact t9
  · replace c_6 := (nI_eq (a := M 14 0) (b := 0) (by omega) (by omega)).mp c_6
    refine gk_iconst (v := nI 0) G dX2_turn_9 (by decide) ?_
    refine gk_goto (tgt := 38) G dX2_turn_10 (by decide) ?_
    have t9 := J38
    rw [show gm_key M j = 0 by unfold gm_key; first | rw [if_pos c_6] | rw [if_neg c_6, if_pos c_18] | rw [if_neg c_6, if_neg c_18]] at t9
    exact t9
theorem gm_trn_lt {M : gm_M} (wf : gm_wf M) {j : Nat} (hj : j < M 11 0) : gm_trn M j < 3300 := by
  have h7 := wf.2.2.2.2.2.2.1 j hj
  have h2 := wf.2.1
  unfold gm_trn gm_key
  split
  · omega
  · split <;> omega
set_option maxRecDepth 100000 in
set_option maxHeartbeats 1000000 in
theorem c2_ahead (l : Launch) (D : va_G) (cI cZ cJ : ClassId) (h : Nat) (q : Nat → Nat) (F : Nat → Int32) (B : Nat → Nat → Int32) (f kp g : Nat → Int32) (M : gm_M) (j : Nat) (wf : gm_wf M) (hs : gr_st F B M) (hn : gr_now f M) (hh : M 9 0 < 2000000) (hj : j < M 11 0) : gk_I l yX2_ahead wsX2_ahead ({ frames := 1, cells := 0, slots := 0, locals := 21 } : Room) D (g_T cI cZ cJ) gk_E0 [.ref h, .int (nI j)] (gd_W cI h q F B f kp g) 0 0 (fun (r : Int32) (u : Unit) => r = nI (gm_cnt M j (M 11 0))) (fun u => (gd_W cI h q F B f kp g)) := by
  refine gk_I_of (ty := .int) (cc := cX2_ahead) (nL := 4) (by decide +kernel) rfl (Nat.le_of_ble_eq_true rfl) ?_
  intro p e s m below meth c A Q hnm hE G RET
  obtain ⟨hz1, hz2, hz3, hz4, hz5, hz6, hz7, hz8⟩ := id wf
  have hinX2 : ∀ w ∈ wsX20, w ∈ wsX2_ahead := fun w h9 => (List.mem_cons_of_mem _ (List.mem_append_right _ h9))
  have k42 := G.2.2.2.2.1 (.fieldLink RX2 42 "GustMillModel" "sacks" "I") (List.mem_cons_of_mem _ (List.mem_append_left _ (List.mem_of_getElem? (i := 0) rfl)))
  have L4 : ∀ (n : Nat) (k : Nat), M 11 0 - k < n → (k ≤ M 11 0) → gk_C p l e ({ frames := 1, cells := 0, slots := 0, locals := 21 } : Room) s m ([.ref h, .int (nI j)] : List Value).toArray below meth c 4 D A Q 0 0 (gd_W cI h q F B f kp g) [(0, .ref h), (1, .int (nI j)), (2, .int (nI (gm_cnt M j k))), (3, .int (nI k))] 4 [] := by
    intro n
    induction n with
    | zero => intro k h0; exact absurd h0 (Nat.not_lt_zero _)
    | succ n ih =>
      intro k h0 w0
      refine gk_iload_n G dX2_ahead_4 3 rfl ?_
      refine gk_aload_n G dX2_ahead_5 0 rfl ?_
      refine gk_get (v' := .int (nI (M 11 0))) G hinX2 (q0 := 0) rfl rfl 6 (by decide) k42 rfl (congrArg Value.int (hs.2.2.2.1)) dX2_ahead_6 ?_
      refine gk_icmp_ge (tgt := 47) G dX2_ahead_9 (by decide) (fun c_9 => ?_) (fun c_9 => ?_)
      · replace c_9 := (nI_leI (a := M 11 0) (b := k) (by omega) (by omega)).mp c_9
        refine gk_iload_n G dX2_ahead_47 2 rfl ?_
        exact RET _ _ _ _ _ _ () dX2_ahead_48 rfl (by rw [show k = M 11 0 by omega]) rfl (Nat.le_of_ble_eq_true rfl) (Nat.le_of_ble_eq_true rfl)
      · replace c_9 := (not_congr (nI_leI (a := M 11 0) (b := k) (by omega) (by omega))).mp c_9
        have htk := gm_trn_lt wf (show k < M 11 0 by omega)
        have htj := gm_trn_lt wf hj
        refine gk_iload_n G dX2_ahead_12 2 rfl ?_
        refine gk_aload_n G dX2_ahead_13 0 rfl ?_
        refine gk_iload_n G dX2_ahead_14 3 rfl ?_
        refine gk_callIV (wr := []) G (c2_isDone l D cI cZ cJ h q F B f kp g M k wf hs hn hh (by omega)) gX2_ahead_X2_isDone rfl 1 (by decide +kernel) rfl rfl ⟨(Nat.le_of_ble_eq_true rfl), (Nat.le_of_ble_eq_true rfl)⟩ rfl (q0 := 0) rfl (T := TX2) (N := 12) rfl gk_ok0 trivial [0, 1, 2, 3, 4, 5, 6, 7] rfl (by decide) [] rfl (by decide) (by decide) rfl (Nat.le_of_ble_eq_true rfl) dX2_ahead_15 ⟨(Nat.le_of_ble_eq_true rfl), (Nat.le_of_ble_eq_true rfl)⟩ (fun r15 u15 hp15 => ?_)
        obtain rfl : r15 = gm_b (M 8 k ≠ 0) := hp15
        show gk_C p l e ({ frames := 1, cells := 0, slots := 0, locals := 21 } : Room) s m ([.ref h, .int (nI j)] : List Value).toArray below meth c 4 D A Q 0 0 (gd_W cI h q F B f kp g) [(0, .ref h), (1, .int (nI j)), (2, .int (nI (gm_cnt M j k))), (3, .int (nI k))] 18 [.int (gm_b (M 8 k ≠ 0)), .int (nI (gm_cnt M j k))]
        refine gk_if_ne (tgt := 38) G dX2_ahead_18 (by decide) (fun c_18 => ?_) (fun c_18 => ?_)
        · replace c_18 := gm_b_ne.mp c_18
          refine gk_iconst (v := nI 0) G dX2_ahead_38 (by decide) ?_
          refine gk_iadd (v := nI ((gm_cnt M j k) + 0)) G dX2_ahead_39 (nI_add (gm_cnt M j k) 0) ?_
          refine gk_istore_n (lv' := [(2, .int (nI ((gm_cnt M j k) + 0))), (0, .ref h), (1, .int (nI j)), (3, .int (nI k))]) G dX2_ahead_40 rfl (by decide) rfl ?_
          refine gk_iinc (j := 3) (v := nI (k + 1)) (lv' := [(3, .int (nI (k + 1))), (2, .int (nI ((gm_cnt M j k) + 0))), (0, .ref h), (1, .int (nI j))]) G dX2_ahead_41 rfl (nI_add k 1) (by decide) rfl ?_
          refine gk_goto (tgt := 4) G dX2_ahead_44 (by decide) ?_
          have e9 : nI (gm_cnt M j (k + 1)) = nI ((gm_cnt M j k) + 0) := by
            show nI (gm_cnt M j k + (if M 8 k = 0 ∧ gm_trn M k < gm_trn M j then 1 else 0)) = _
            rw [if_neg (by first | exact fun q => c_18 q.1 | (intro q; have := q.2; omega))]
          have t9 := ih (k + 1) (by omega) (by omega)
          rw [e9] at t9
          exact gk_lsub [2,3,1,0] rfl t9
        · replace c_18 := gm_b_eq.mp c_18
          refine gk_aload_n G dX2_ahead_21 0 rfl ?_
          refine gk_iload_n G dX2_ahead_22 3 rfl ?_
          refine gk_callIV (wr := []) G (c2_turn l D cI cZ cJ h q F B f kp g M k wf hs hn (by omega)) gX2_ahead_X2_turn rfl 1 (by decide +kernel) rfl rfl ⟨(Nat.le_of_ble_eq_true rfl), (Nat.le_of_ble_eq_true rfl)⟩ rfl (q0 := 0) rfl (T := TX2) (N := 12) rfl gk_ok0 trivial [0, 1, 2, 3, 4, 5, 6, 7] rfl (by decide) [] rfl (by decide) (by decide) rfl (Nat.le_of_ble_eq_true rfl) dX2_ahead_23 ⟨(Nat.le_of_ble_eq_true rfl), (Nat.le_of_ble_eq_true rfl)⟩ (fun r23 u23 hp23 => ?_)
          obtain rfl : r23 = nI (gm_trn M k) := hp23
          show gk_C p l e ({ frames := 1, cells := 0, slots := 0, locals := 21 } : Room) s m ([.ref h, .int (nI j)] : List Value).toArray below meth c 4 D A Q 0 0 (gd_W cI h q F B f kp g) [(0, .ref h), (1, .int (nI j)), (2, .int (nI (gm_cnt M j k))), (3, .int (nI k))] 26 [.int (nI (gm_trn M k)), .int (nI (gm_cnt M j k))]
          refine gk_aload_n G dX2_ahead_26 0 rfl ?_
          refine gk_iload_n G dX2_ahead_27 1 rfl ?_
          refine gk_callIV (wr := []) G (c2_turn l D cI cZ cJ h q F B f kp g M j wf hs hn hj) gX2_ahead_X2_turn rfl 1 (by decide +kernel) rfl rfl ⟨(Nat.le_of_ble_eq_true rfl), (Nat.le_of_ble_eq_true rfl)⟩ rfl (q0 := 0) rfl (T := TX2) (N := 12) rfl gk_ok0 trivial [0, 1, 2, 3, 4, 5, 6, 7] rfl (by decide) [] rfl (by decide) (by decide) rfl (Nat.le_of_ble_eq_true rfl) dX2_ahead_28 ⟨(Nat.le_of_ble_eq_true rfl), (Nat.le_of_ble_eq_true rfl)⟩ (fun r28 u28 hp28 => ?_)
          obtain rfl : r28 = nI (gm_trn M j) := hp28
          show gk_C p l e ({ frames := 1, cells := 0, slots := 0, locals := 21 } : Room) s m ([.ref h, .int (nI j)] : List Value).toArray below meth c 4 D A Q 0 0 (gd_W cI h q F B f kp g) [(0, .ref h), (1, .int (nI j)), (2, .int (nI (gm_cnt M j k))), (3, .int (nI k))] 31 [.int (nI (gm_trn M j)), .int (nI (gm_trn M k)), .int (nI (gm_cnt M j k))]
          refine gk_icmp_ge (tgt := 38) G dX2_ahead_31 (by decide) (fun c_31 => ?_) (fun c_31 => ?_)
          · replace c_31 := (nI_leI (a := gm_trn M j) (b := gm_trn M k) (by omega) (by omega)).mp c_31
            refine gk_iconst (v := nI 0) G dX2_ahead_38 (by decide) ?_
            refine gk_iadd (v := nI ((gm_cnt M j k) + 0)) G dX2_ahead_39 (nI_add (gm_cnt M j k) 0) ?_
            refine gk_istore_n (lv' := [(2, .int (nI ((gm_cnt M j k) + 0))), (0, .ref h), (1, .int (nI j)), (3, .int (nI k))]) G dX2_ahead_40 rfl (by decide) rfl ?_
            refine gk_iinc (j := 3) (v := nI (k + 1)) (lv' := [(3, .int (nI (k + 1))), (2, .int (nI ((gm_cnt M j k) + 0))), (0, .ref h), (1, .int (nI j))]) G dX2_ahead_41 rfl (nI_add k 1) (by decide) rfl ?_
            refine gk_goto (tgt := 4) G dX2_ahead_44 (by decide) ?_
            have e9 : nI (gm_cnt M j (k + 1)) = nI ((gm_cnt M j k) + 0) := by
              show nI (gm_cnt M j k + (if M 8 k = 0 ∧ gm_trn M k < gm_trn M j then 1 else 0)) = _
              rw [if_neg (by first | exact fun q => c_18 q.1 | (intro q; have := q.2; omega))]
            have t9 := ih (k + 1) (by omega) (by omega)
            rw [e9] at t9
            exact gk_lsub [2,3,1,0] rfl t9
          · replace c_31 := (not_congr (nI_leI (a := gm_trn M j) (b := gm_trn M k) (by omega) (by omega))).mp c_31
            refine gk_iconst (v := nI 1) G dX2_ahead_34 (by decide) ?_
            refine gk_goto (tgt := 39) G dX2_ahead_35 (by decide) ?_
            refine gk_iadd (v := nI ((gm_cnt M j k) + 1)) G dX2_ahead_39 (nI_add (gm_cnt M j k) 1) ?_
            refine gk_istore_n (lv' := [(2, .int (nI ((gm_cnt M j k) + 1))), (0, .ref h), (1, .int (nI j)), (3, .int (nI k))]) G dX2_ahead_40 rfl (by decide) rfl ?_
            refine gk_iinc (j := 3) (v := nI (k + 1)) (lv' := [(3, .int (nI (k + 1))), (2, .int (nI ((gm_cnt M j k) + 1))), (0, .ref h), (1, .int (nI j))]) G dX2_ahead_41 rfl (nI_add k 1) (by decide) rfl ?_
            refine gk_goto (tgt := 4) G dX2_ahead_44 (by decide) ?_
            have e9 : nI (gm_cnt M j (k + 1)) = nI ((gm_cnt M j k) + 1) := by
              show nI (gm_cnt M j k + (if M 8 k = 0 ∧ gm_trn M k < gm_trn M j then 1 else 0)) = _
              rw [if_pos ⟨Decidable.not_not.mp c_18, by omega⟩]
            have t9 := ih (k + 1) (by omega) (by omega)
            rw [e9] at t9
            exact gk_lsub [2,3,1,0] rfl t9
  refine gk_iconst (v := nI 0) G dX2_ahead_0 (by decide) ?_
  refine gk_istore_n (lv' := [(2, .int (nI 0)), (0, .ref h), (1, .int (nI j))]) G dX2_ahead_1 rfl (by decide) rfl ?_
  refine gk_iconst (v := nI 0) G dX2_ahead_2 (by decide) ?_
  refine gk_istore_n (lv' := [(3, .int (nI 0)), (2, .int (nI 0)), (0, .ref h), (1, .int (nI j))]) G dX2_ahead_3 rfl (by decide) rfl ?_
  exact gk_lsub [2,3,1,0] rfl (L4 (M 11 0 + 1) 0 (by omega) (by omega))
set_option maxRecDepth 100000 in
set_option maxHeartbeats 1000000 in
theorem c2_next (l : Launch) (D : va_G) (cI cZ cJ : ClassId) (h : Nat) (q : Nat → Nat) (F : Nat → Int32) (B : Nat → Nat → Int32) (f kp g : Nat → Int32) (M : gm_M) (f0 : Nat) (wf : gm_wf M) (hs : gr_st F B M) (hn : gr_now f M) (hh : M 9 0 < 2000000) (hf : f0 ≤ 1) : gk_I l yX2_next wsX2_next ({ frames := 1, cells := 0, slots := 0, locals := 21 } : Room) D (g_T cI cZ cJ) gk_E0 [.ref h, .int (nI f0)] (gd_W cI h q F B f kp g) 0 0 (fun (r : Int32) (u : Unit) => r = gm_e (gm_nxt M f0 (M 11 0))) (fun u => (gd_W cI h q F B f kp g)) := by
  refine gk_I_of (ty := .int) (cc := cX2_next) (nL := 4) (by decide +kernel) rfl (Nat.le_of_ble_eq_true rfl) ?_
  intro p e s m below meth c A Q hnm hE G RET
  obtain ⟨hz1, hz2, hz3, hz4, hz5, hz6, hz7, hz8⟩ := id wf
  have hinX2 : ∀ w ∈ wsX20, w ∈ wsX2_next := fun w h9 => (List.mem_cons_of_mem _ (List.mem_append_right _ h9))
  have k22 := G.2.2.2.2.1 (.fieldLink RX2 22 "GustMillModel" "now" "[I") (List.mem_cons_of_mem _ (List.mem_append_left _ (List.mem_of_getElem? (i := 1) rfl)))
  have k42 := G.2.2.2.2.1 (.fieldLink RX2 42 "GustMillModel" "sacks" "I") (List.mem_cons_of_mem _ (List.mem_append_left _ (List.mem_of_getElem? (i := 0) rfl)))
  have L4 : ∀ (n : Nat) (k : Nat), M 11 0 - k < n → (k ≤ M 11 0) → gk_C p l e ({ frames := 1, cells := 0, slots := 0, locals := 21 } : Room) s m ([.ref h, .int (nI f0)] : List Value).toArray below meth c 4 D A Q 0 0 (gd_W cI h q F B f kp g) [(0, .ref h), (1, .int (nI f0)), (2, .int (gm_e (gm_nxt M f0 k))), (3, .int (nI k))] 4 [] := by
    intro n
    induction n with
    | zero => intro k h0; exact absurd h0 (Nat.not_lt_zero _)
    | succ n ih =>
      intro k h0 w0
      refine gk_iload_n G dX2_next_4 3 rfl ?_
      refine gk_aload_n G dX2_next_5 0 rfl ?_
      refine gk_get (v' := .int (nI (M 11 0))) G hinX2 (q0 := 0) rfl rfl 6 (by decide) k42 rfl (congrArg Value.int (hs.2.2.2.1)) dX2_next_6 ?_
      refine gk_icmp_ge (tgt := 63) G dX2_next_9 (by decide) (fun c_9 => ?_) (fun c_9 => ?_)
      · replace c_9 := (nI_leI (a := M 11 0) (b := k) (by omega) (by omega)).mp c_9
        refine gk_iload_n G dX2_next_63 2 rfl ?_
        exact RET _ _ _ _ _ _ () dX2_next_64 rfl (by rw [show k = M 11 0 by omega]) rfl (Nat.le_of_ble_eq_true rfl) (Nat.le_of_ble_eq_true rfl)
      · replace c_9 := (not_congr (nI_leI (a := M 11 0) (b := k) (by omega) (by omega))).mp c_9
        have hk7 := hz7 k (by omega)
        have hkn := gm_nxt_le M f0 k
        have htk := gm_trn_lt wf (show k < M 11 0 by omega)
        refine gk_aload_n G dX2_next_12 0 rfl ?_
        refine gk_iload_n G dX2_next_13 3 rfl ?_
        refine gk_callIV (wr := []) G (c2_isDone l D cI cZ cJ h q F B f kp g M k wf hs hn hh (by omega)) gX2_next_X2_isDone rfl 1 (by decide +kernel) rfl rfl ⟨(Nat.le_of_ble_eq_true rfl), (Nat.le_of_ble_eq_true rfl)⟩ rfl (q0 := 0) rfl (T := TX2) (N := 12) rfl gk_ok0 trivial [0, 1, 2, 3, 4, 5, 6, 7] rfl (by decide) [] rfl (by decide) (by decide) rfl (Nat.le_of_ble_eq_true rfl) dX2_next_14 ⟨(Nat.le_of_ble_eq_true rfl), (Nat.le_of_ble_eq_true rfl)⟩ (fun r14 u14 hp14 => ?_)
        obtain rfl : r14 = gm_b (M 8 k ≠ 0) := hp14
        show gk_C p l e ({ frames := 1, cells := 0, slots := 0, locals := 21 } : Room) s m ([.ref h, .int (nI f0)] : List Value).toArray below meth c 4 D A Q 0 0 (gd_W cI h q F B f kp g) [(0, .ref h), (1, .int (nI f0)), (2, .int (gm_e (gm_nxt M f0 k))), (3, .int (nI k))] 17 [.int (gm_b (M 8 k ≠ 0))]
        refine gk_if_ne (tgt := 57) G dX2_next_17 (by decide) (fun c_17 => ?_) (fun c_17 => ?_)
        · replace c_17 := gm_b_ne.mp c_17
          refine gk_iinc (j := 3) (v := nI (k + 1)) (lv' := [(3, .int (nI (k + 1))), (0, .ref h), (1, .int (nI f0)), (2, .int (gm_e (gm_nxt M f0 k)))]) G dX2_next_57 rfl (nI_add k 1) (by decide) rfl ?_
          refine gk_goto (tgt := 4) G dX2_next_60 (by decide) ?_
          have e9 : gm_e (gm_nxt M f0 (k + 1)) = gm_e (gm_nxt M f0 k) := by
            show gm_e (if M 8 k = 0 ∧ (f0 = 0 ∨ M 7 k = 0) ∧ (gm_nxt M f0 k = 0 ∨ gm_trn M k < gm_trn M (gm_nxt M f0 k - 1)) then k + 1 else gm_nxt M f0 k) = _
            rw [if_neg (by first | exact fun q => c_17 q.1 | exact fun q => q.2.1.elim c_21 c_34 | exact fun q => q.2.2.elim c_39 (fun z => by omega))]
          have t9 := ih (k + 1) (by omega) (by omega)
          rw [e9] at t9
          exact gk_lsub [1,2,3,0] rfl t9
        · replace c_17 := gm_b_eq.mp c_17
          refine gk_iload_n G dX2_next_20 1 rfl ?_
          refine gk_if_eq (tgt := 37) G dX2_next_21 (by decide) (fun c_21 => ?_) (fun c_21 => ?_)
          · replace c_21 := (nI_eq (a := f0) (b := 0) (by omega) (by omega)).mp c_21
            refine gk_iload_n G dX2_next_37 2 rfl ?_
            refine gk_iconst (v := -1) G dX2_next_38 (by decide) ?_
            refine gk_icmp_eq (tgt := 55) G dX2_next_39 (by decide) (fun c_39 => ?_) (fun c_39 => ?_)
            · replace c_39 := (gm_e_none (a := gm_nxt M f0 k) (by omega)).mp c_39
              refine gk_iload_n G dX2_next_55 3 rfl ?_
              refine gk_istore_n (lv' := [(2, .int (nI k)), (0, .ref h), (1, .int (nI f0)), (3, .int (nI k))]) G dX2_next_56 rfl (by decide) rfl ?_
              refine gk_iinc (j := 3) (v := nI (k + 1)) (lv' := [(3, .int (nI (k + 1))), (2, .int (nI k)), (0, .ref h), (1, .int (nI f0))]) G dX2_next_57 rfl (nI_add k 1) (by decide) rfl ?_
              refine gk_goto (tgt := 4) G dX2_next_60 (by decide) ?_
              have e9 : gm_e (gm_nxt M f0 (k + 1)) = nI k := by
                show gm_e (if M 8 k = 0 ∧ (f0 = 0 ∨ M 7 k = 0) ∧ (gm_nxt M f0 k = 0 ∨ gm_trn M k < gm_trn M (gm_nxt M f0 k - 1)) then k + 1 else gm_nxt M f0 k) = _
                rw [if_pos ⟨Decidable.not_not.mp c_17, by first | exact Or.inl c_21 | exact Or.inr c_34, by first | exact Or.inl c_39 | exact Or.inr (by omega)⟩]; exact gm_eS k
              have t9 := ih (k + 1) (by omega) (by omega)
              rw [e9] at t9
              exact gk_lsub [2,3,1,0] rfl t9
            · replace c_39 := (not_congr (gm_e_none (a := gm_nxt M f0 k) (by omega))).mp c_39
              have htn := gm_trn_lt wf (show gm_nxt M f0 k - 1 < M 11 0 by omega)
              refine gk_aload_n G dX2_next_42 0 rfl ?_
              refine gk_iload_n G dX2_next_43 3 rfl ?_
              refine gk_callIV (wr := []) G (c2_turn l D cI cZ cJ h q F B f kp g M k wf hs hn (by omega)) gX2_next_X2_turn rfl 1 (by decide +kernel) rfl rfl ⟨(Nat.le_of_ble_eq_true rfl), (Nat.le_of_ble_eq_true rfl)⟩ rfl (q0 := 0) rfl (T := TX2) (N := 12) rfl gk_ok0 trivial [0, 1, 2, 3, 4, 5, 6, 7] rfl (by decide) [] rfl (by decide) (by decide) rfl (Nat.le_of_ble_eq_true rfl) dX2_next_44 ⟨(Nat.le_of_ble_eq_true rfl), (Nat.le_of_ble_eq_true rfl)⟩ (fun r44 u44 hp44 => ?_)
              obtain rfl : r44 = nI (gm_trn M k) := hp44
              show gk_C p l e ({ frames := 1, cells := 0, slots := 0, locals := 21 } : Room) s m ([.ref h, .int (nI f0)] : List Value).toArray below meth c 4 D A Q 0 0 (gd_W cI h q F B f kp g) [(0, .ref h), (1, .int (nI f0)), (2, .int (gm_e (gm_nxt M f0 k))), (3, .int (nI k))] 47 [.int (nI (gm_trn M k))]
              refine gk_aload_n G dX2_next_47 0 rfl ?_
              refine gk_iload_n G dX2_next_48 2 rfl ?_
              refine gk_callIV (wr := []) G (c2_turn l D cI cZ cJ h q F B f kp g M (gm_nxt M f0 k - 1) wf hs hn (by omega)) gX2_next_X2_turn rfl 1 (by decide +kernel) rfl rfl ⟨(Nat.le_of_ble_eq_true rfl), (Nat.le_of_ble_eq_true rfl)⟩ rfl (q0 := 0) rfl (T := TX2) (N := 12) rfl gk_ok0 trivial [0, 1, 2, 3, 4, 5, 6, 7] rfl (by decide) [] rfl (by decide) (by decide) (by rw [gm_e_pred c_39]; rfl) (Nat.le_of_ble_eq_true rfl) dX2_next_49 ⟨(Nat.le_of_ble_eq_true rfl), (Nat.le_of_ble_eq_true rfl)⟩ (fun r49 u49 hp49 => ?_)
              obtain rfl : r49 = nI (gm_trn M (gm_nxt M f0 k - 1)) := hp49
              show gk_C p l e ({ frames := 1, cells := 0, slots := 0, locals := 21 } : Room) s m ([.ref h, .int (nI f0)] : List Value).toArray below meth c 4 D A Q 0 0 (gd_W cI h q F B f kp g) [(0, .ref h), (1, .int (nI f0)), (2, .int (gm_e (gm_nxt M f0 k))), (3, .int (nI k))] 52 [.int (nI (gm_trn M (gm_nxt M f0 k - 1))), .int (nI (gm_trn M k))]
              refine gk_icmp_ge (tgt := 57) G dX2_next_52 (by decide) (fun c_52 => ?_) (fun c_52 => ?_)
              · replace c_52 := (nI_leI (a := gm_trn M (gm_nxt M f0 k - 1)) (b := gm_trn M k) (by omega) (by omega)).mp c_52
                refine gk_iinc (j := 3) (v := nI (k + 1)) (lv' := [(3, .int (nI (k + 1))), (0, .ref h), (1, .int (nI f0)), (2, .int (gm_e (gm_nxt M f0 k)))]) G dX2_next_57 rfl (nI_add k 1) (by decide) rfl ?_
                refine gk_goto (tgt := 4) G dX2_next_60 (by decide) ?_
                have e9 : gm_e (gm_nxt M f0 (k + 1)) = gm_e (gm_nxt M f0 k) := by
                  show gm_e (if M 8 k = 0 ∧ (f0 = 0 ∨ M 7 k = 0) ∧ (gm_nxt M f0 k = 0 ∨ gm_trn M k < gm_trn M (gm_nxt M f0 k - 1)) then k + 1 else gm_nxt M f0 k) = _
                  rw [if_neg (by first | exact fun q => c_17 q.1 | exact fun q => q.2.1.elim c_21 c_34 | exact fun q => q.2.2.elim c_39 (fun z => by omega))]
                have t9 := ih (k + 1) (by omega) (by omega)
                rw [e9] at t9
                exact gk_lsub [1,2,3,0] rfl t9
              · replace c_52 := (not_congr (nI_leI (a := gm_trn M (gm_nxt M f0 k - 1)) (b := gm_trn M k) (by omega) (by omega))).mp c_52
                refine gk_iload_n G dX2_next_55 3 rfl ?_
                refine gk_istore_n (lv' := [(2, .int (nI k)), (0, .ref h), (1, .int (nI f0)), (3, .int (nI k))]) G dX2_next_56 rfl (by decide) rfl ?_
                refine gk_iinc (j := 3) (v := nI (k + 1)) (lv' := [(3, .int (nI (k + 1))), (2, .int (nI k)), (0, .ref h), (1, .int (nI f0))]) G dX2_next_57 rfl (nI_add k 1) (by decide) rfl ?_
                refine gk_goto (tgt := 4) G dX2_next_60 (by decide) ?_
                have e9 : gm_e (gm_nxt M f0 (k + 1)) = nI k := by
                  show gm_e (if M 8 k = 0 ∧ (f0 = 0 ∨ M 7 k = 0) ∧ (gm_nxt M f0 k = 0 ∨ gm_trn M k < gm_trn M (gm_nxt M f0 k - 1)) then k + 1 else gm_nxt M f0 k) = _
                  rw [if_pos ⟨Decidable.not_not.mp c_17, by first | exact Or.inl c_21 | exact Or.inr c_34, by first | exact Or.inl c_39 | exact Or.inr (by omega)⟩]; exact gm_eS k
                have t9 := ih (k + 1) (by omega) (by omega)
                rw [e9] at t9
                exact gk_lsub [2,3,1,0] rfl t9
          · replace c_21 := (not_congr (nI_eq (a := f0) (b := 0) (by omega) (by omega))).mp c_21
            refine gk_aload_n G dX2_next_24 0 rfl ?_
            refine gk_get (v' := .ref (q 9)) G hinX2 (q0 := 0) rfl rfl 9 (by decide) k22 rfl rfl dX2_next_25 ?_
            refine gk_bipush (v := nI 35) G dX2_next_28 (by decide) ?_
            refine gk_iload_n G dX2_next_30 3 rfl ?_
            refine gk_iadd (v := nI (35 + k)) G dX2_next_31 (nI_add 35 k) ?_
            refine gk_iald (v := gm_e (M 7 k)) G (q0 := 5) (t0 := 0) rfl rfl (35 + k) rfl (by omega) (by decide) (hn.2.2.2.2.2 k (by omega)) dX2_next_32 ?_
            refine gk_iconst (v := -1) G dX2_next_33 (by decide) ?_
            refine gk_icmp_ne (tgt := 57) G dX2_next_34 (by decide) (fun c_34 => ?_) (fun c_34 => ?_)
            · replace c_34 := (not_congr (gm_e_none (a := M 7 k) (by omega))).mp c_34
              refine gk_iinc (j := 3) (v := nI (k + 1)) (lv' := [(3, .int (nI (k + 1))), (0, .ref h), (1, .int (nI f0)), (2, .int (gm_e (gm_nxt M f0 k)))]) G dX2_next_57 rfl (nI_add k 1) (by decide) rfl ?_
              refine gk_goto (tgt := 4) G dX2_next_60 (by decide) ?_
              have e9 : gm_e (gm_nxt M f0 (k + 1)) = gm_e (gm_nxt M f0 k) := by
                show gm_e (if M 8 k = 0 ∧ (f0 = 0 ∨ M 7 k = 0) ∧ (gm_nxt M f0 k = 0 ∨ gm_trn M k < gm_trn M (gm_nxt M f0 k - 1)) then k + 1 else gm_nxt M f0 k) = _
                rw [if_neg (by first | exact fun q => c_17 q.1 | exact fun q => q.2.1.elim c_21 c_34 | exact fun q => q.2.2.elim c_39 (fun z => by omega))]
              have t9 := ih (k + 1) (by omega) (by omega)
              rw [e9] at t9
              exact gk_lsub [1,2,3,0] rfl t9
            · replace c_34 := (gm_e_none (a := M 7 k) (by omega)).mp c_34
              refine gk_iload_n G dX2_next_37 2 rfl ?_
              refine gk_iconst (v := -1) G dX2_next_38 (by decide) ?_
              refine gk_icmp_eq (tgt := 55) G dX2_next_39 (by decide) (fun c_39 => ?_) (fun c_39 => ?_)
              · replace c_39 := (gm_e_none (a := gm_nxt M f0 k) (by omega)).mp c_39
                refine gk_iload_n G dX2_next_55 3 rfl ?_
                refine gk_istore_n (lv' := [(2, .int (nI k)), (0, .ref h), (1, .int (nI f0)), (3, .int (nI k))]) G dX2_next_56 rfl (by decide) rfl ?_
                refine gk_iinc (j := 3) (v := nI (k + 1)) (lv' := [(3, .int (nI (k + 1))), (2, .int (nI k)), (0, .ref h), (1, .int (nI f0))]) G dX2_next_57 rfl (nI_add k 1) (by decide) rfl ?_
                refine gk_goto (tgt := 4) G dX2_next_60 (by decide) ?_
                have e9 : gm_e (gm_nxt M f0 (k + 1)) = nI k := by
                  show gm_e (if M 8 k = 0 ∧ (f0 = 0 ∨ M 7 k = 0) ∧ (gm_nxt M f0 k = 0 ∨ gm_trn M k < gm_trn M (gm_nxt M f0 k - 1)) then k + 1 else gm_nxt M f0 k) = _
                  rw [if_pos ⟨Decidable.not_not.mp c_17, by first | exact Or.inl c_21 | exact Or.inr c_34, by first | exact Or.inl c_39 | exact Or.inr (by omega)⟩]; exact gm_eS k
                have t9 := ih (k + 1) (by omega) (by omega)
                rw [e9] at t9
                exact gk_lsub [2,3,1,0] rfl t9
              · replace c_39 := (not_congr (gm_e_none (a := gm_nxt M f0 k) (by omega))).mp c_39
                have htn := gm_trn_lt wf (show gm_nxt M f0 k - 1 < M 11 0 by omega)
                refine gk_aload_n G dX2_next_42 0 rfl ?_
                refine gk_iload_n G dX2_next_43 3 rfl ?_
                refine gk_callIV (wr := []) G (c2_turn l D cI cZ cJ h q F B f kp g M k wf hs hn (by omega)) gX2_next_X2_turn rfl 1 (by decide +kernel) rfl rfl ⟨(Nat.le_of_ble_eq_true rfl), (Nat.le_of_ble_eq_true rfl)⟩ rfl (q0 := 0) rfl (T := TX2) (N := 12) rfl gk_ok0 trivial [0, 1, 2, 3, 4, 5, 6, 7] rfl (by decide) [] rfl (by decide) (by decide) rfl (Nat.le_of_ble_eq_true rfl) dX2_next_44 ⟨(Nat.le_of_ble_eq_true rfl), (Nat.le_of_ble_eq_true rfl)⟩ (fun r44 u44 hp44 => ?_)
                obtain rfl : r44 = nI (gm_trn M k) := hp44
                show gk_C p l e ({ frames := 1, cells := 0, slots := 0, locals := 21 } : Room) s m ([.ref h, .int (nI f0)] : List Value).toArray below meth c 4 D A Q 0 0 (gd_W cI h q F B f kp g) [(0, .ref h), (1, .int (nI f0)), (2, .int (gm_e (gm_nxt M f0 k))), (3, .int (nI k))] 47 [.int (nI (gm_trn M k))]
                refine gk_aload_n G dX2_next_47 0 rfl ?_
                refine gk_iload_n G dX2_next_48 2 rfl ?_
                refine gk_callIV (wr := []) G (c2_turn l D cI cZ cJ h q F B f kp g M (gm_nxt M f0 k - 1) wf hs hn (by omega)) gX2_next_X2_turn rfl 1 (by decide +kernel) rfl rfl ⟨(Nat.le_of_ble_eq_true rfl), (Nat.le_of_ble_eq_true rfl)⟩ rfl (q0 := 0) rfl (T := TX2) (N := 12) rfl gk_ok0 trivial [0, 1, 2, 3, 4, 5, 6, 7] rfl (by decide) [] rfl (by decide) (by decide) (by rw [gm_e_pred c_39]; rfl) (Nat.le_of_ble_eq_true rfl) dX2_next_49 ⟨(Nat.le_of_ble_eq_true rfl), (Nat.le_of_ble_eq_true rfl)⟩ (fun r49 u49 hp49 => ?_)
                obtain rfl : r49 = nI (gm_trn M (gm_nxt M f0 k - 1)) := hp49
                show gk_C p l e ({ frames := 1, cells := 0, slots := 0, locals := 21 } : Room) s m ([.ref h, .int (nI f0)] : List Value).toArray below meth c 4 D A Q 0 0 (gd_W cI h q F B f kp g) [(0, .ref h), (1, .int (nI f0)), (2, .int (gm_e (gm_nxt M f0 k))), (3, .int (nI k))] 52 [.int (nI (gm_trn M (gm_nxt M f0 k - 1))), .int (nI (gm_trn M k))]
                refine gk_icmp_ge (tgt := 57) G dX2_next_52 (by decide) (fun c_52 => ?_) (fun c_52 => ?_)
                · replace c_52 := (nI_leI (a := gm_trn M (gm_nxt M f0 k - 1)) (b := gm_trn M k) (by omega) (by omega)).mp c_52
                  refine gk_iinc (j := 3) (v := nI (k + 1)) (lv' := [(3, .int (nI (k + 1))), (0, .ref h), (1, .int (nI f0)), (2, .int (gm_e (gm_nxt M f0 k)))]) G dX2_next_57 rfl (nI_add k 1) (by decide) rfl ?_
                  refine gk_goto (tgt := 4) G dX2_next_60 (by decide) ?_
                  have e9 : gm_e (gm_nxt M f0 (k + 1)) = gm_e (gm_nxt M f0 k) := by
                    show gm_e (if M 8 k = 0 ∧ (f0 = 0 ∨ M 7 k = 0) ∧ (gm_nxt M f0 k = 0 ∨ gm_trn M k < gm_trn M (gm_nxt M f0 k - 1)) then k + 1 else gm_nxt M f0 k) = _
                    rw [if_neg (by first | exact fun q => c_17 q.1 | exact fun q => q.2.1.elim c_21 c_34 | exact fun q => q.2.2.elim c_39 (fun z => by omega))]
                  have t9 := ih (k + 1) (by omega) (by omega)
                  rw [e9] at t9
                  exact gk_lsub [1,2,3,0] rfl t9
                · replace c_52 := (not_congr (nI_leI (a := gm_trn M (gm_nxt M f0 k - 1)) (b := gm_trn M k) (by omega) (by omega))).mp c_52
                  refine gk_iload_n G dX2_next_55 3 rfl ?_
                  refine gk_istore_n (lv' := [(2, .int (nI k)), (0, .ref h), (1, .int (nI f0)), (3, .int (nI k))]) G dX2_next_56 rfl (by decide) rfl ?_
                  refine gk_iinc (j := 3) (v := nI (k + 1)) (lv' := [(3, .int (nI (k + 1))), (2, .int (nI k)), (0, .ref h), (1, .int (nI f0))]) G dX2_next_57 rfl (nI_add k 1) (by decide) rfl ?_
                  refine gk_goto (tgt := 4) G dX2_next_60 (by decide) ?_
                  have e9 : gm_e (gm_nxt M f0 (k + 1)) = nI k := by
                    show gm_e (if M 8 k = 0 ∧ (f0 = 0 ∨ M 7 k = 0) ∧ (gm_nxt M f0 k = 0 ∨ gm_trn M k < gm_trn M (gm_nxt M f0 k - 1)) then k + 1 else gm_nxt M f0 k) = _
                    rw [if_pos ⟨Decidable.not_not.mp c_17, by first | exact Or.inl c_21 | exact Or.inr c_34, by first | exact Or.inl c_39 | exact Or.inr (by omega)⟩]; exact gm_eS k
                  have t9 := ih (k + 1) (by omega) (by omega)
                  rw [e9] at t9
                  exact gk_lsub [2,3,1,0] rfl t9
  refine gk_iconst (v := -1) G dX2_next_0 (by decide) ?_
  refine gk_istore_n (lv' := [(2, .int (-1)), (0, .ref h), (1, .int (nI f0))]) G dX2_next_1 rfl (by decide) rfl ?_
  refine gk_iconst (v := nI 0) G dX2_next_2 (by decide) ?_
  refine gk_istore_n (lv' := [(3, .int (nI 0)), (2, .int (-1)), (0, .ref h), (1, .int (nI f0))]) G dX2_next_3 rfl (by decide) rfl ?_
  have t0 := L4 (M 11 0 + 1) 0 (by omega) (by omega)
  have e0 : gm_e (gm_nxt M f0 0) = -1 := gm_e0
  rw [e0] at t0
  exact gk_lsub [2,3,1,0] rfl t0
set_option maxRecDepth 100000 in
set_option maxHeartbeats 1000000 in
theorem c2_on (l : Launch) (D : va_G) (cI cZ cJ : ClassId) (h : Nat) (q : Nat → Nat) (F : Nat → Int32) (B : Nat → Nat → Int32) (f kp g : Nat → Int32) (M : gm_M) (j : Nat) (wf : gm_wf M) (hs : gr_st F B M) (hn : gr_now f M) (hj : j < 4) : gk_I l yX2_on wsX2_on ({ frames := 0, cells := 0, slots := 0, locals := 0 } : Room) D (g_T cI cZ cJ) gk_E0 [.ref h, .int (nI j)] (gd_W cI h q F B f kp g) 0 0 (fun (r : Int32) (u : Unit) => r = gm_e (gm_who M j (M 11 0))) (fun u => (gd_W cI h q F B f kp g)) := by
  refine gk_I_of (ty := .int) (cc := cX2_on) (nL := 3) (by decide +kernel) rfl (Nat.le_of_ble_eq_true rfl) ?_
  intro p e s m below meth c A Q hnm hE G RET
  obtain ⟨hz1, hz2, hz3, hz4, hz5, hz6, hz7, hz8⟩ := id wf
  have hinX2 : ∀ w ∈ wsX20, w ∈ wsX2_on := fun w h9 => (List.mem_cons_of_mem _ (List.mem_append_right _ h9))
  have k22 := G.2.2.2.2.1 (.fieldLink RX2 22 "GustMillModel" "now" "[I") (List.mem_cons_of_mem _ (List.mem_append_left _ (List.mem_of_getElem? (i := 1) rfl)))
  have k42 := G.2.2.2.2.1 (.fieldLink RX2 42 "GustMillModel" "sacks" "I") (List.mem_cons_of_mem _ (List.mem_append_left _ (List.mem_of_getElem? (i := 0) rfl)))
  have L2 : ∀ (n : Nat) (k : Nat), M 11 0 - k < n → (k ≤ M 11 0) → (gm_who M j k = 0) → gk_C p l e ({ frames := 0, cells := 0, slots := 0, locals := 0 } : Room) s m ([.ref h, .int (nI j)] : List Value).toArray below meth c 3 D A Q 0 0 (gd_W cI h q F B f kp g) [(0, .ref h), (1, .int (nI j)), (2, .int (nI k))] 2 [] := by
    intro n
    induction n with
    | zero => intro k h0; exact absurd h0 (Nat.not_lt_zero _)
    | succ n ih =>
      intro k h0 w0 w1
      refine gk_iload_n G dX2_on_2 2 rfl ?_
      refine gk_aload_n G dX2_on_3 0 rfl ?_
      refine gk_get (v' := .int (nI (M 11 0))) G hinX2 (q0 := 0) rfl rfl 6 (by decide) k42 rfl (congrArg Value.int (hs.2.2.2.1)) dX2_on_4 ?_
      refine gk_icmp_ge (tgt := 31) G dX2_on_7 (by decide) (fun c_7 => ?_) (fun c_7 => ?_)
      · replace c_7 := (nI_leI (a := M 11 0) (b := k) (by omega) (by omega)).mp c_7
        refine gk_iconst (v := -1) G dX2_on_31 (by decide) ?_
        exact RET _ _ _ _ _ _ () dX2_on_32 rfl (by rw [show M 11 0 = k by omega, w1]; rfl) rfl (Nat.le_of_ble_eq_true rfl) (Nat.le_of_ble_eq_true rfl)
      · replace c_7 := (not_congr (nI_leI (a := M 11 0) (b := k) (by omega) (by omega))).mp c_7
        have hk7 := hz7 k (by omega)
        refine gk_aload_n G dX2_on_10 0 rfl ?_
        refine gk_get (v' := .ref (q 9)) G hinX2 (q0 := 0) rfl rfl 9 (by decide) k22 rfl rfl dX2_on_11 ?_
        refine gk_bipush (v := nI 35) G dX2_on_14 (by decide) ?_
        refine gk_iload_n G dX2_on_16 2 rfl ?_
        refine gk_iadd (v := nI (35 + k)) G dX2_on_17 (nI_add 35 k) ?_
        refine gk_iald (v := gm_e (M 7 k)) G (q0 := 5) (t0 := 0) rfl rfl (35 + k) rfl (by omega) (by decide) (hn.2.2.2.2.2 k (by omega)) dX2_on_18 ?_
        refine gk_iload_n G dX2_on_19 1 rfl ?_
        refine gk_icmp_ne (tgt := 25) G dX2_on_20 (by decide) (fun c_20 => ?_) (fun c_20 => ?_)
        · have c_20 : M 7 k ≠ j + 1 := fun q => c_20 (by rw [q, gm_eS])
          refine gk_iinc (j := 2) (v := nI (k + 1)) (lv' := [(2, .int (nI (k + 1))), (0, .ref h), (1, .int (nI j))]) G dX2_on_25 rfl (nI_add k 1) (by decide) rfl ?_
          refine gk_goto (tgt := 2) G dX2_on_28 (by decide) ?_
          have e9 : gm_who M j (k + 1) = 0 := by
            show (if gm_who M j k ≠ 0 then gm_who M j k else if M 7 k = j + 1 then k + 1 else 0) = 0
            rw [if_neg (fun q => q w1), if_neg c_20]
          exact gk_lsub [1,2,0] rfl (ih (k + 1) (by omega) (by omega) e9)
        · have c_20 : M 7 k = j + 1 := by
            have q := c_20
            rw [← gm_eS j] at q
            exact (gm_e_inj (by omega) (by omega)).mp q
          refine gk_iload_n G dX2_on_23 2 rfl ?_
          exact RET _ _ _ _ _ _ () dX2_on_24 rfl (by rw [gm_who_is (M := M) (m := j) (n := M 11 0) (s := k) (by omega) c_20 (fun i hi h7 => hz8 i k hi (by omega) (by rw [h7, c_20]) (by omega)), gm_eS]) rfl (Nat.le_of_ble_eq_true rfl) (Nat.le_of_ble_eq_true rfl)
  refine gk_iconst (v := nI 0) G dX2_on_0 (by decide) ?_
  refine gk_istore_n (lv' := [(2, .int (nI 0)), (0, .ref h), (1, .int (nI j))]) G dX2_on_1 rfl (by decide) rfl ?_
  exact gk_lsub [1,2,0] rfl (L2 (M 11 0 + 1) 0 (by omega) (by omega) rfl)
