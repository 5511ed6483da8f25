theorem gr_st_drop {F : Nat → Int32} {B : Nat → Nat → Int32} {M : gm_M} {b g t : Nat} (h : gr_st F B (gm_add M b g t)) : gr_st (upd F 6 (nI (M 11 0))) B M := by
  obtain ⟨h1, h4, h5, h6, r2, r3, r7, r8⟩ := h
  have e : ∀ k i, (k < 4 ∨ 8 < k) → k ≠ 11 → gm_add M b g t k i = M k i := fun k i h1 h2 => gm_add_k M b g t i h1 h2
  have ei : ∀ k i, 4 ≤ k → k ≤ 8 → i ≠ M 11 0 → gm_add M b g t k i = M k i := fun k i h1 h2 h3 => gm_add_i M b g t h1 h2 h3
  refine ⟨?_, ?_, ?_, pk_us, fun i hi => ?_, fun i hi => ?_, fun i hi => ?_, fun i hi => ?_⟩
  · rw [pk_un (by decide), h1, e 10 0 (by decide) (by decide)]
  · rw [pk_un (by decide), h4, e 14 0 (by decide) (by decide)]
  · rw [pk_un (by decide), h5, e 15 0 (by decide) (by decide)]
  · rw [r2 i (by rw [e 10 0 (by decide) (by decide)]; exact hi), e 1 i (by decide) (by decide)]
  · rw [r3 i hi, e 0 i (by decide) (by decide)]
  · rw [r7 i (by rw [gm_add_11]; omega), ei 4 i (by decide) (by decide) (by omega)]
  · rw [r8 i (by rw [gm_add_11]; omega), ei 6 i (by decide) (by decide) (by omega)]

set_option maxRecDepth 100000 in
set_option maxHeartbeats 1000000 in
theorem c2_wouldBeInTime_no1 (l : Launch) (D : va_G) (cI cZ cJ : ClassId) (h : Nat) (q : Nat → Nat) (F : Nat → Int32) (B : Nat → Nat → Int32) (f kp g : Nat → Int32) (M : gm_M) (p0 p1 : Int32) (wf : gm_wf M) (hs : gr_st F B M) (hn : gr_now f M) (hb : ¬ gm_rg p0 1 61) : gk_I l yX2_wouldBeInTime wsX2_wouldBeInTime ({ frames := 4, cells := 0, slots := 0, locals := 90 } : Room) D (g_T cI cZ cJ) gk_E0 [.ref h, .int p0, .int p1] (gd_W cI h q F B f kp g) 0 0 (fun (r : Int32) (u : gd_U) => r = nI 0 ∧ gd_R u M 1) (fun u => (gd_X cI h q u)) := by
  refine gk_I_of (ty := .boolean) (cc := cX2_wouldBeInTime) (nL := 4) (by decide +kernel) rfl (Nat.le_of_ble_eq_true rfl) ?_
  intro p e s m below meth c A Q hnm hE G RET
  obtain ⟨hz1, hz2, hz3, hz4, hz5, hz6, hz7, hz8⟩ := id wf
  have hinX2 : ∀ w ∈ wsX20, w ∈ wsX2_wouldBeInTime := fun w h9 => (List.mem_cons_of_mem _ (List.mem_append_right _ h9))
  have k31 := G.2.2.2.2.1 (.fieldLink RX2 31 "GustMillModel" "thrown" "I") (List.mem_cons_of_mem _ (List.mem_append_left _ (List.mem_append_left _ (List.mem_of_getElem? (i := 0) rfl))))
  refine gk_aload_n G dX2_wouldBeInTime_0 0 rfl ?_
  refine gk_iload_n G dX2_wouldBeInTime_1 1 rfl ?_
  refine gk_iconst (v := nI 1) G dX2_wouldBeInTime_2 (by decide) ?_
  refine gk_bipush (v := nI 60) G dX2_wouldBeInTime_3 (by decide) ?_
  refine gk_callIS (wc := []) (wr := (gd_W cI h q F B f kp g)) (isC := []) (isR := [0, 1, 2, 3, 4, 5, 6, 7]) G (c2_isIn l D cI cZ cJ p0 (nI 1) (nI 60)) gX2_wouldBeInTime_X2_isIn rfl 3 (by decide +kernel) rfl rfl ⟨(Nat.le_of_ble_eq_true rfl), (Nat.le_of_ble_eq_true rfl)⟩ rfl gk_ok0 trivial rfl (by decide) rfl (by decide) (by decide) rfl (Nat.le_of_ble_eq_true rfl) dX2_wouldBeInTime_5 ⟨(Nat.le_of_ble_eq_true rfl), (Nat.le_of_ble_eq_true rfl)⟩ (fun r5 u5 hp5 => ?_)
  obtain rfl : r5 = nI 0 := (hp5.trans (gm_b0 (gm_in0 hb (by decide) (by decide))))
  show gk_C p l e ({ frames := 4, cells := 0, slots := 0, locals := 90 } : Room) s m ([.ref h, .int p0, .int p1] : List Value).toArray below meth c 4 D A Q 0 0 (gd_W cI h q F B f kp g) [(0, .ref h), (1, .int p0), (2, .int p1)] 8 [.int (nI 0), .ref h]
  refine gk_if_eq (tgt := 26) G dX2_wouldBeInTime_8 (by decide) (fun c_8 => ?_) (fun c_8 => ?_)
  · replace c_8 := (nI_eq (a := 0) (b := 0) (by omega) (by omega)).mp c_8
    refine gk_iconst (v := nI 1) G dX2_wouldBeInTime_26 (by decide) ?_
    refine gk_topi (fun v27 ev27 => ?_)
    refine gk_put (w' := (gd_W cI h q (upd F 0 v27) B f kp g)) G hinX2 tyX2_ok nmX2 (q0 := 0) rfl rfl 0 (by decide) k31 rfl rfl rfl (Nat.le_of_ble_eq_true rfl) rfl dX2_wouldBeInTime_27 ?_
    generalize eF27 : upd F 0 v27 = F27
    have hsT : gr_st F27 B M := by rw [← eF27]; exact gr_st_0 hs
    have hT : F27 0 = nI 1 := by rw [← eF27, pk_us]; exact ev27
    refine gk_aload_n G dX2_wouldBeInTime_30 0 rfl ?_
    refine gk_get (v' := .int (nI 1)) G hinX2 (q0 := 0) rfl rfl 0 (by decide) k31 rfl (congrArg Value.int (hT)) dX2_wouldBeInTime_31 ?_
    refine gk_if_gt (tgt := 46) G dX2_wouldBeInTime_34 (by decide) (fun c_34 => ?_) (fun c_34 => ?_)
    · replace c_34 := (nI_ltI (a := 0) (b := 1) (by omega) (by omega)).mp c_34
      refine gk_iconst (v := nI 0) G dX2_wouldBeInTime_46 (by decide) ?_
      exact RET _ _ _ _ _ _ (F27, B, f, kp, g) dX2_wouldBeInTime_47 rfl ⟨rfl, hsT, hn, hT⟩ rfl (Nat.le_of_ble_eq_true rfl) (Nat.le_of_ble_eq_true rfl)
    · replace c_34 := (not_congr (nI_ltI (a := 0) (b := 1) (by omega) (by omega))).mp c_34
      exact absurd (by decide) c_34
  · replace c_8 := (not_congr (nI_eq (a := 0) (b := 0) (by omega) (by omega))).mp c_8
    exact absurd c_8 (by decide)
set_option maxRecDepth 100000 in
set_option maxHeartbeats 1000000 in
theorem c2_wouldBeInTime_no2 (l : Launch) (D : va_G) (cI cZ cJ : ClassId) (h : Nat) (q : Nat → Nat) (F : Nat → Int32) (B : Nat → Nat → Int32) (f kp g : Nat → Int32) (M : gm_M) (vg : Nat) (p1 : Int32) (wf : gm_wf M) (hs : gr_st F B M) (hn : gr_now f M) (h1 : 1 ≤ vg) (h1b : vg < 61) (hb : ¬ gm_rg p1 1 201) : gk_I l yX2_wouldBeInTime wsX2_wouldBeInTime ({ frames := 4, cells := 0, slots := 0, locals := 90 } : Room) D (g_T cI cZ cJ) gk_E0 [.ref h, .int (nI vg), .int p1] (gd_W cI h q F B f kp g) 0 0 (fun (r : Int32) (u : gd_U) => r = nI 0 ∧ gd_R u M 1) (fun u => (gd_X cI h q u)) := by
  refine gk_I_of (ty := .boolean) (cc := cX2_wouldBeInTime) (nL := 4) (by decide +kernel) rfl (Nat.le_of_ble_eq_true rfl) ?_
  intro p e s m below meth c A Q hnm hE G RET
  obtain ⟨hz1, hz2, hz3, hz4, hz5, hz6, hz7, hz8⟩ := id wf
  have hinX2 : ∀ w ∈ wsX20, w ∈ wsX2_wouldBeInTime := fun w h9 => (List.mem_cons_of_mem _ (List.mem_append_right _ h9))
  have k31 := G.2.2.2.2.1 (.fieldLink RX2 31 "GustMillModel" "thrown" "I") (List.mem_cons_of_mem _ (List.mem_append_left _ (List.mem_append_left _ (List.mem_of_getElem? (i := 0) rfl))))
  refine gk_aload_n G dX2_wouldBeInTime_0 0 rfl ?_
  refine gk_iload_n G dX2_wouldBeInTime_1 1 rfl ?_
  refine gk_iconst (v := nI 1) G dX2_wouldBeInTime_2 (by decide) ?_
  refine gk_bipush (v := nI 60) G dX2_wouldBeInTime_3 (by decide) ?_
  refine gk_callIS (wc := []) (wr := (gd_W cI h q F B f kp g)) (isC := []) (isR := [0, 1, 2, 3, 4, 5, 6, 7]) G (c2_isIn l D cI cZ cJ (nI vg) (nI 1) (nI 60)) gX2_wouldBeInTime_X2_isIn rfl 3 (by decide +kernel) rfl rfl ⟨(Nat.le_of_ble_eq_true rfl), (Nat.le_of_ble_eq_true rfl)⟩ rfl gk_ok0 trivial rfl (by decide) rfl (by decide) (by decide) rfl (Nat.le_of_ble_eq_true rfl) dX2_wouldBeInTime_5 ⟨(Nat.le_of_ble_eq_true rfl), (Nat.le_of_ble_eq_true rfl)⟩ (fun r5 u5 hp5 => ?_)
  obtain rfl : r5 = nI 1 := (hp5.trans (gm_b1 (gm_in1 (by omega) (by omega) (by decide))))
  show gk_C p l e ({ frames := 4, cells := 0, slots := 0, locals := 90 } : Room) s m ([.ref h, .int (nI vg), .int p1] : List Value).toArray below meth c 4 D A Q 0 0 (gd_W cI h q F B f kp g) [(0, .ref h), (1, .int (nI vg)), (2, .int p1)] 8 [.int (nI 1), .ref h]
  refine gk_if_eq (tgt := 26) G dX2_wouldBeInTime_8 (by decide) (fun c_8 => ?_) (fun c_8 => ?_)
  · replace c_8 := (nI_eq (a := 1) (b := 0) (by omega) (by omega)).mp c_8
    exact absurd c_8 (by decide)
  · replace c_8 := (not_congr (nI_eq (a := 1) (b := 0) (by omega) (by omega))).mp c_8
    refine gk_iload_n G dX2_wouldBeInTime_11 2 rfl ?_
    refine gk_iconst (v := nI 1) G dX2_wouldBeInTime_12 (by decide) ?_
    refine gk_sipush (v := nI 200) G dX2_wouldBeInTime_13 (by decide) ?_
    refine gk_callIS (wc := []) (wr := (gd_W cI h q F B f kp g)) (isC := []) (isR := [0, 1, 2, 3, 4, 5, 6, 7]) G (c2_isIn l D cI cZ cJ p1 (nI 1) (nI 200)) gX2_wouldBeInTime_X2_isIn rfl 3 (by decide +kernel) rfl rfl ⟨(Nat.le_of_ble_eq_true rfl), (Nat.le_of_ble_eq_true rfl)⟩ rfl gk_ok0 trivial rfl (by decide) rfl (by decide) (by decide) rfl (Nat.le_of_ble_eq_true rfl) dX2_wouldBeInTime_16 ⟨(Nat.le_of_ble_eq_true rfl), (Nat.le_of_ble_eq_true rfl)⟩ (fun r16 u16 hp16 => ?_)
    obtain rfl : r16 = nI 0 := (hp16.trans (gm_b0 (gm_in0 hb (by decide) (by decide))))
    show gk_C p l e ({ frames := 4, cells := 0, slots := 0, locals := 90 } : Room) s m ([.ref h, .int (nI vg), .int p1] : List Value).toArray below meth c 4 D A Q 0 0 (gd_W cI h q F B f kp g) [(0, .ref h), (1, .int (nI vg)), (2, .int p1)] 19 [.int (nI 0), .ref h]
    refine gk_if_eq (tgt := 26) G dX2_wouldBeInTime_19 (by decide) (fun c_19 => ?_) (fun c_19 => ?_)
    · replace c_19 := (nI_eq (a := 0) (b := 0) (by omega) (by omega)).mp c_19
      refine gk_iconst (v := nI 1) G dX2_wouldBeInTime_26 (by decide) ?_
      refine gk_topi (fun v27 ev27 => ?_)
      refine gk_put (w' := (gd_W cI h q (upd F 0 v27) B f kp g)) G hinX2 tyX2_ok nmX2 (q0 := 0) rfl rfl 0 (by decide) k31 rfl rfl rfl (Nat.le_of_ble_eq_true rfl) rfl dX2_wouldBeInTime_27 ?_
      generalize eF27 : upd F 0 v27 = F27
      have hsT : gr_st F27 B M := by rw [← eF27]; exact gr_st_0 hs
      have hT : F27 0 = nI 1 := by rw [← eF27, pk_us]; exact ev27
      refine gk_aload_n G dX2_wouldBeInTime_30 0 rfl ?_
      refine gk_get (v' := .int (nI 1)) G hinX2 (q0 := 0) rfl rfl 0 (by decide) k31 rfl (congrArg Value.int (hT)) dX2_wouldBeInTime_31 ?_
      refine gk_if_gt (tgt := 46) G dX2_wouldBeInTime_34 (by decide) (fun c_34 => ?_) (fun c_34 => ?_)
      · replace c_34 := (nI_ltI (a := 0) (b := 1) (by omega) (by omega)).mp c_34
        refine gk_iconst (v := nI 0) G dX2_wouldBeInTime_46 (by decide) ?_
        exact RET _ _ _ _ _ _ (F27, B, f, kp, g) dX2_wouldBeInTime_47 rfl ⟨rfl, hsT, hn, hT⟩ rfl (Nat.le_of_ble_eq_true rfl) (Nat.le_of_ble_eq_true rfl)
      · replace c_34 := (not_congr (nI_ltI (a := 0) (b := 1) (by omega) (by omega))).mp c_34
        exact absurd (by decide) c_34
    · replace c_19 := (not_congr (nI_eq (a := 0) (b := 0) (by omega) (by omega))).mp c_19
      exact absurd c_19 (by decide)
set_option maxRecDepth 100000 in
set_option maxHeartbeats 1000000 in
theorem c2_wouldBeInTime_full (l : Launch) (D : va_G) (cI cZ cJ : ClassId) (h : Nat) (q : Nat → Nat) (F : Nat → Int32) (B : Nat → Nat → Int32) (f kp g : Nat → Int32) (M : gm_M) (vg vt : Nat) (wf : gm_wf M) (hs : gr_st F B M) (hn : gr_now f M) (h1 : 1 ≤ vg) (h1b : vg < 61) (h2 : 1 ≤ vt) (h2b : vt < 201) (h16 : M 11 0 = 16) : gk_I l yX2_wouldBeInTime wsX2_wouldBeInTime ({ frames := 4, cells := 0, slots := 0, locals := 90 } : Room) D (g_T cI cZ cJ) gk_E0 [.ref h, .int (nI vg), .int (nI vt)] (gd_W cI h q F B f kp g) 0 0 (fun (r : Int32) (u : gd_U) => r = nI 0 ∧ gd_R u M 0) (fun u => (gd_X cI h q u)) := by
  refine gk_I_of (ty := .boolean) (cc := cX2_wouldBeInTime) (nL := 4) (by decide +kernel) rfl (Nat.le_of_ble_eq_true rfl) ?_
  intro p e s m below meth c A Q hnm hE G RET
  obtain ⟨hz1, hz2, hz3, hz4, hz5, hz6, hz7, hz8⟩ := id wf
  have hinX2 : ∀ w ∈ wsX20, w ∈ wsX2_wouldBeInTime := fun w h9 => (List.mem_cons_of_mem _ (List.mem_append_right _ h9))
  have k31 := G.2.2.2.2.1 (.fieldLink RX2 31 "GustMillModel" "thrown" "I") (List.mem_cons_of_mem _ (List.mem_append_left _ (List.mem_append_left _ (List.mem_of_getElem? (i := 0) rfl))))
  have k42 := G.2.2.2.2.1 (.fieldLink RX2 42 "GustMillModel" "sacks" "I") (List.mem_cons_of_mem _ (List.mem_append_left _ (List.mem_append_left _ (List.mem_of_getElem? (i := 1) rfl))))
  refine gk_aload_n G dX2_wouldBeInTime_0 0 rfl ?_
  refine gk_iload_n G dX2_wouldBeInTime_1 1 rfl ?_
  refine gk_iconst (v := nI 1) G dX2_wouldBeInTime_2 (by decide) ?_
  refine gk_bipush (v := nI 60) G dX2_wouldBeInTime_3 (by decide) ?_
  refine gk_callIS (wc := []) (wr := (gd_W cI h q F B f kp g)) (isC := []) (isR := [0, 1, 2, 3, 4, 5, 6, 7]) G (c2_isIn l D cI cZ cJ (nI vg) (nI 1) (nI 60)) gX2_wouldBeInTime_X2_isIn rfl 3 (by decide +kernel) rfl rfl ⟨(Nat.le_of_ble_eq_true rfl), (Nat.le_of_ble_eq_true rfl)⟩ rfl gk_ok0 trivial rfl (by decide) rfl (by decide) (by decide) rfl (Nat.le_of_ble_eq_true rfl) dX2_wouldBeInTime_5 ⟨(Nat.le_of_ble_eq_true rfl), (Nat.le_of_ble_eq_true rfl)⟩ (fun r5 u5 hp5 => ?_)
  obtain rfl : r5 = nI 1 := (hp5.trans (gm_b1 (gm_in1 (by omega) (by omega) (by decide))))
  show gk_C p l e ({ frames := 4, cells := 0, slots := 0, locals := 90 } : Room) s m ([.ref h, .int (nI vg), .int (nI vt)] : List Value).toArray below meth c 4 D A Q 0 0 (gd_W cI h q F B f kp g) [(0, .ref h), (1, .int (nI vg)), (2, .int (nI vt))] 8 [.int (nI 1), .ref h]
  refine gk_if_eq (tgt := 26) G dX2_wouldBeInTime_8 (by decide) (fun c_8 => ?_) (fun c_8 => ?_)
  · replace c_8 := (nI_eq (a := 1) (b := 0) (by omega) (by omega)).mp c_8
    exact absurd c_8 (by decide)
  · replace c_8 := (not_congr (nI_eq (a := 1) (b := 0) (by omega) (by omega))).mp c_8
    refine gk_iload_n G dX2_wouldBeInTime_11 2 rfl ?_
    refine gk_iconst (v := nI 1) G dX2_wouldBeInTime_12 (by decide) ?_
    refine gk_sipush (v := nI 200) G dX2_wouldBeInTime_13 (by decide) ?_
    refine gk_callIS (wc := []) (wr := (gd_W cI h q F B f kp g)) (isC := []) (isR := [0, 1, 2, 3, 4, 5, 6, 7]) G (c2_isIn l D cI cZ cJ (nI vt) (nI 1) (nI 200)) gX2_wouldBeInTime_X2_isIn rfl 3 (by decide +kernel) rfl rfl ⟨(Nat.le_of_ble_eq_true rfl), (Nat.le_of_ble_eq_true rfl)⟩ rfl gk_ok0 trivial rfl (by decide) rfl (by decide) (by decide) rfl (Nat.le_of_ble_eq_true rfl) dX2_wouldBeInTime_16 ⟨(Nat.le_of_ble_eq_true rfl), (Nat.le_of_ble_eq_true rfl)⟩ (fun r16 u16 hp16 => ?_)
    obtain rfl : r16 = nI 1 := (hp16.trans (gm_b1 (gm_in1 (by omega) (by omega) (by decide))))
    show gk_C p l e ({ frames := 4, cells := 0, slots := 0, locals := 90 } : Room) s m ([.ref h, .int (nI vg), .int (nI vt)] : List Value).toArray below meth c 4 D A Q 0 0 (gd_W cI h q F B f kp g) [(0, .ref h), (1, .int (nI vg)), (2, .int (nI vt))] 19 [.int (nI 1), .ref h]
    refine gk_if_eq (tgt := 26) G dX2_wouldBeInTime_19 (by decide) (fun c_19 => ?_) (fun c_19 => ?_)
    · replace c_19 := (nI_eq (a := 1) (b := 0) (by omega) (by omega)).mp c_19
      exact absurd c_19 (by decide)
    · replace c_19 := (not_congr (nI_eq (a := 1) (b := 0) (by omega) (by omega))).mp c_19
      refine gk_iconst (v := nI 0) G dX2_wouldBeInTime_22 (by decide) ?_
      refine gk_goto (tgt := 27) G dX2_wouldBeInTime_23 (by decide) ?_
      refine gk_topi (fun v27 ev27 => ?_)
      refine gk_put (w' := (gd_W cI h q (upd F 0 v27) B f kp g)) G hinX2 tyX2_ok nmX2 (q0 := 0) rfl rfl 0 (by decide) k31 rfl rfl rfl (Nat.le_of_ble_eq_true rfl) rfl dX2_wouldBeInTime_27 ?_
      generalize eF27 : upd F 0 v27 = F27
      have hsT : gr_st F27 B M := by rw [← eF27]; exact gr_st_0 hs
      have hT : F27 0 = nI 0 := by rw [← eF27, pk_us]; exact ev27
      refine gk_aload_n G dX2_wouldBeInTime_30 0 rfl ?_
      refine gk_get (v' := .int (nI 0)) G hinX2 (q0 := 0) rfl rfl 0 (by decide) k31 rfl (congrArg Value.int (hT)) dX2_wouldBeInTime_31 ?_
      refine gk_if_gt (tgt := 46) G dX2_wouldBeInTime_34 (by decide) (fun c_34 => ?_) (fun c_34 => ?_)
      · replace c_34 := (nI_ltI (a := 0) (b := 0) (by omega) (by omega)).mp c_34
        exact absurd c_34 (by decide)
      · replace c_34 := (not_congr (nI_ltI (a := 0) (b := 0) (by omega) (by omega))).mp c_34
        refine gk_aload_n G dX2_wouldBeInTime_37 0 rfl ?_
        refine gk_get (v' := .int (nI (M 11 0))) G hinX2 (q0 := 0) rfl rfl 6 (by decide) k42 rfl (congrArg Value.int (hsT.2.2.2.1)) dX2_wouldBeInTime_38 ?_
        refine gk_bipush (v := nI 16) G dX2_wouldBeInTime_41 (by decide) ?_
        refine gk_icmp_ne (tgt := 48) G dX2_wouldBeInTime_43 (by decide) (fun c_43 => ?_) (fun c_43 => ?_)
        · replace c_43 := (not_congr (nI_eq (a := M 11 0) (b := 16) (by omega) (by omega))).mp c_43
          exact absurd h16 c_43
        · replace c_43 := (nI_eq (a := M 11 0) (b := 16) (by omega) (by omega)).mp c_43
          refine gk_iconst (v := nI 0) G dX2_wouldBeInTime_46 (by decide) ?_
          exact RET _ _ _ _ _ _ (F27, B, f, kp, g) dX2_wouldBeInTime_47 rfl ⟨rfl, hsT, hn, hT⟩ rfl (Nat.le_of_ble_eq_true rfl) (Nat.le_of_ble_eq_true rfl)
set_option maxRecDepth 100000 in
set_option maxHeartbeats 1000000 in
theorem c2_wouldBeInTime_ok (l : Launch) (D : va_G) (cI cZ cJ : ClassId) (h : Nat) (q : Nat → Nat) (F : Nat → Int32) (B : Nat → Nat → Int32) (f kp g : Nat → Int32) (M : gm_M) (vg vt : Nat) (wf : gm_wf M) (hs : gr_st F B M) (hn : gr_now f M) (hrest : gm_rest M) (hh : M 9 0 < 1999000) (h1 : 1 ≤ vg) (h1b : vg < 61) (h2 : 1 ≤ vt) (h2b : vt < 201) (h16 : M 11 0 < 16) : gk_I l yX2_wouldBeInTime wsX2_wouldBeInTime ({ frames := 4, cells := 0, slots := 0, locals := 90 } : Room) D (g_T cI cZ cJ) gk_E0 [.ref h, .int (nI vg), .int (nI vt)] (gd_W cI h q F B f kp g) 0 0 (fun (r : Int32) (u : gd_U) => r = gm_b (gm_wbt M vg vt) ∧ gd_R u M 0) (fun u => (gd_X cI h q u)) := by
  refine gk_I_of (ty := .boolean) (cc := cX2_wouldBeInTime) (nL := 4) (by decide +kernel) rfl (Nat.le_of_ble_eq_true rfl) ?_
  intro p e s m below meth c A Q hnm hE G RET
  obtain ⟨hz1, hz2, hz3, hz4, hz5, hz6, hz7, hz8⟩ := id wf
  have hinX2 : ∀ w ∈ wsX20, w ∈ wsX2_wouldBeInTime := fun w h9 => (List.mem_cons_of_mem _ (List.mem_append_right _ h9))
  have k22 := G.2.2.2.2.1 (.fieldLink RX2 22 "GustMillModel" "now" "[I") (List.mem_cons_of_mem _ (List.mem_append_left _ (List.mem_append_left _ (List.mem_of_getElem? (i := 2) rfl))))
  have k31 := G.2.2.2.2.1 (.fieldLink RX2 31 "GustMillModel" "thrown" "I") (List.mem_cons_of_mem _ (List.mem_append_left _ (List.mem_append_left _ (List.mem_of_getElem? (i := 0) rfl))))
  have k42 := G.2.2.2.2.1 (.fieldLink RX2 42 "GustMillModel" "sacks" "I") (List.mem_cons_of_mem _ (List.mem_append_left _ (List.mem_append_left _ (List.mem_of_getElem? (i := 1) rfl))))
  refine gk_aload_n G dX2_wouldBeInTime_0 0 rfl ?_
  refine gk_iload_n G dX2_wouldBeInTime_1 1 rfl ?_
  refine gk_iconst (v := nI 1) G dX2_wouldBeInTime_2 (by decide) ?_
  refine gk_bipush (v := nI 60) G dX2_wouldBeInTime_3 (by decide) ?_
  refine gk_callIS (wc := []) (wr := (gd_W cI h q F B f kp g)) (isC := []) (isR := [0, 1, 2, 3, 4, 5, 6, 7]) G (c2_isIn l D cI cZ cJ (nI vg) (nI 1) (nI 60)) gX2_wouldBeInTime_X2_isIn rfl 3 (by decide +kernel) rfl rfl ⟨(Nat.le_of_ble_eq_true rfl), (Nat.le_of_ble_eq_true rfl)⟩ rfl gk_ok0 trivial rfl (by decide) rfl (by decide) (by decide) rfl (Nat.le_of_ble_eq_true rfl) dX2_wouldBeInTime_5 ⟨(Nat.le_of_ble_eq_true rfl), (Nat.le_of_ble_eq_true rfl)⟩ (fun r5 u5 hp5 => ?_)
  obtain rfl : r5 = nI 1 := (hp5.trans (gm_b1 (gm_in1 (by omega) (by omega) (by decide))))
  show gk_C p l e ({ frames := 4, cells := 0, slots := 0, locals := 90 } : Room) s m ([.ref h, .int (nI vg), .int (nI vt)] : List Value).toArray below meth c 4 D A Q 0 0 (gd_W cI h q F B f kp g) [(0, .ref h), (1, .int (nI vg)), (2, .int (nI vt))] 8 [.int (nI 1), .ref h]
  refine gk_if_eq (tgt := 26) G dX2_wouldBeInTime_8 (by decide) (fun c_8 => ?_) (fun c_8 => ?_)
  · replace c_8 := (nI_eq (a := 1) (b := 0) (by omega) (by omega)).mp c_8
    exact absurd c_8 (by decide)
  · replace c_8 := (not_congr (nI_eq (a := 1) (b := 0) (by omega) (by omega))).mp c_8
    refine gk_iload_n G dX2_wouldBeInTime_11 2 rfl ?_
    refine gk_iconst (v := nI 1) G dX2_wouldBeInTime_12 (by decide) ?_
    refine gk_sipush (v := nI 200) G dX2_wouldBeInTime_13 (by decide) ?_
    refine gk_callIS (wc := []) (wr := (gd_W cI h q F B f kp g)) (isC := []) (isR := [0, 1, 2, 3, 4, 5, 6, 7]) G (c2_isIn l D cI cZ cJ (nI vt) (nI 1) (nI 200)) gX2_wouldBeInTime_X2_isIn rfl 3 (by decide +kernel) rfl rfl ⟨(Nat.le_of_ble_eq_true rfl), (Nat.le_of_ble_eq_true rfl)⟩ rfl gk_ok0 trivial rfl (by decide) rfl (by decide) (by decide) rfl (Nat.le_of_ble_eq_true rfl) dX2_wouldBeInTime_16 ⟨(Nat.le_of_ble_eq_true rfl), (Nat.le_of_ble_eq_true rfl)⟩ (fun r16 u16 hp16 => ?_)
    obtain rfl : r16 = nI 1 := (hp16.trans (gm_b1 (gm_in1 (by omega) (by omega) (by decide))))
    show gk_C p l e ({ frames := 4, cells := 0, slots := 0, locals := 90 } : Room) s m ([.ref h, .int (nI vg), .int (nI vt)] : List Value).toArray below meth c 4 D A Q 0 0 (gd_W cI h q F B f kp g) [(0, .ref h), (1, .int (nI vg)), (2, .int (nI vt))] 19 [.int (nI 1), .ref h]
    refine gk_if_eq (tgt := 26) G dX2_wouldBeInTime_19 (by decide) (fun c_19 => ?_) (fun c_19 => ?_)
    · replace c_19 := (nI_eq (a := 1) (b := 0) (by omega) (by omega)).mp c_19
      exact absurd c_19 (by decide)
    · replace c_19 := (not_congr (nI_eq (a := 1) (b := 0) (by omega) (by omega))).mp c_19
      refine gk_iconst (v := nI 0) G dX2_wouldBeInTime_22 (by decide) ?_
      refine gk_goto (tgt := 27) G dX2_wouldBeInTime_23 (by decide) ?_
      refine gk_topi (fun v27 ev27 => ?_)
      refine gk_put (w' := (gd_W cI h q (upd F 0 v27) B f kp g)) G hinX2 tyX2_ok nmX2 (q0 := 0) rfl rfl 0 (by decide) k31 rfl rfl rfl (Nat.le_of_ble_eq_true rfl) rfl dX2_wouldBeInTime_27 ?_
      generalize eF27 : upd F 0 v27 = F27
      have hsT : gr_st F27 B M := by rw [← eF27]; exact gr_st_0 hs
      have hT : F27 0 = nI 0 := by rw [← eF27, pk_us]; exact ev27
      refine gk_aload_n G dX2_wouldBeInTime_30 0 rfl ?_
      refine gk_get (v' := .int (nI 0)) G hinX2 (q0 := 0) rfl rfl 0 (by decide) k31 rfl (congrArg Value.int (hT)) dX2_wouldBeInTime_31 ?_
      refine gk_if_gt (tgt := 46) G dX2_wouldBeInTime_34 (by decide) (fun c_34 => ?_) (fun c_34 => ?_)
      · replace c_34 := (nI_ltI (a := 0) (b := 0) (by omega) (by omega)).mp c_34
        exact absurd c_34 (by decide)
      · replace c_34 := (not_congr (nI_ltI (a := 0) (b := 0) (by omega) (by omega))).mp c_34
        refine gk_aload_n G dX2_wouldBeInTime_37 0 rfl ?_
        refine gk_get (v' := .int (nI (M 11 0))) G hinX2 (q0 := 0) rfl rfl 6 (by decide) k42 rfl (congrArg Value.int (hsT.2.2.2.1)) dX2_wouldBeInTime_38 ?_
        refine gk_bipush (v := nI 16) G dX2_wouldBeInTime_41 (by decide) ?_
        refine gk_icmp_ne (tgt := 48) G dX2_wouldBeInTime_43 (by decide) (fun c_43 => ?_) (fun c_43 => ?_)
        · replace c_43 := (not_congr (nI_eq (a := M 11 0) (b := 16) (by omega) (by omega))).mp c_43
          refine gk_aload_n G dX2_wouldBeInTime_48 0 rfl ?_
          refine gk_callVV (wr := []) G (c2_keep l D cI cZ cJ h q F27 B f kp g M ) gX2_wouldBeInTime_X2_keep rfl 0 (by decide +kernel) rfl rfl ⟨(Nat.le_of_ble_eq_true rfl), (Nat.le_of_ble_eq_true rfl)⟩ rfl (q0 := 0) rfl (T := TX2) (N := 12) rfl gk_ok0 trivial [0, 1, 2, 3, 4, 5, 6, 7] rfl (by decide) [] rfl (by decide) (by decide) rfl (Nat.le_of_ble_eq_true rfl) dX2_wouldBeInTime_49 ⟨(Nat.le_of_ble_eq_true rfl), (Nat.le_of_ble_eq_true rfl)⟩ (fun u49 hp49 => ?_)
          show gk_C p l e ({ frames := 4, cells := 0, slots := 0, locals := 90 } : Room) s m ([.ref h, .int (nI vg), .int (nI vt)] : List Value).toArray below meth c 4 D A Q 0 0 (gd_W cI h q F27 B f (va_cpy f kp 0 0 51) g) [(0, .ref h), (1, .int (nI vg)), (2, .int (nI vt))] 52 []
          refine gk_aload_n G dX2_wouldBeInTime_52 0 rfl ?_
          refine gk_iconst (v := nI 0) G dX2_wouldBeInTime_53 (by decide) ?_
          refine gk_iload_n G dX2_wouldBeInTime_54 1 rfl ?_
          refine gk_iload_n G dX2_wouldBeInTime_55 2 rfl ?_
          refine gk_callVV (wr := []) G (c2_put l D cI cZ cJ h q F27 B f (va_cpy f kp 0 0 51) g M 0 vg vt wf hsT hn h16) gX2_wouldBeInTime_X2_put rfl 3 (by decide +kernel) rfl rfl ⟨(Nat.le_of_ble_eq_true rfl), (Nat.le_of_ble_eq_true rfl)⟩ rfl (q0 := 0) rfl (T := TX2) (N := 12) rfl gk_ok0 trivial [0, 1, 2, 3, 4, 5, 6, 7] rfl (by decide) [] rfl (by decide) (by decide) rfl (Nat.le_of_ble_eq_true rfl) dX2_wouldBeInTime_56 ⟨(Nat.le_of_ble_eq_true rfl), (Nat.le_of_ble_eq_true rfl)⟩ (fun u56 hp56 => ?_)
          obtain ⟨F56, B56, f56, kp56, g56⟩ := u56
          have hs56 : gr_st F56 B56 (gm_add M 0 vg vt) := hp56.1
          have hn56 : gr_now f56 (gm_add M 0 vg vt) := hp56.2.1
          have hT56 : F56 0 = nI 0 := hp56.2.2.1.trans hT
          have hk56 : kp56 = va_cpy f kp 0 0 51 := hp56.2.2.2
          have wfA := gm_add_wf (b := 0) (g := vg) (u := vt) wf h16 (by omega) (by omega) h2 (by omega)
          have restA := gm_add_rest (b := 0) (u := vt) hrest h1
          have e9A : (gm_add M 0 vg vt) 9 0 = M 9 0 := gm_add_k M 0 vg vt 0 (by decide) (by decide)
          have e11A : (gm_hrs (gm_add M 0 vg vt) 200) 11 0 = M 11 0 + 1 := (gm_hrs_ne _ 0 (by decide) (by decide) (by decide) (by decide) (by decide) (by decide) (by decide) 200).trans (gm_add_11 M 0 vg vt)
          have hsA : gr_st F56 B56 (gm_hrs (gm_add M 0 vg vt) 200) := gr_st_eq hs56 (fun k0 i h3 h5 h7 h8 h9 h13 h16 => gm_hrs_ne _ i h3 h7 h13 h5 h16 h8 h9 _)
          have hXb := (gm_hrs_wf wfA 200).2.2.2.2.2.2.1 (M 11 0) (by omega)
          rw [gm_hrs_9] at hXb
          show gk_C p l e ({ frames := 4, cells := 0, slots := 0, locals := 90 } : Room) s m ([.ref h, .int (nI vg), .int (nI vt)] : List Value).toArray below meth c 4 D A Q 0 0 (gd_W cI h q F56 B56 f56 kp56 g56) [(0, .ref h), (1, .int (nI vg)), (2, .int (nI vt))] 59 []
          refine gk_aload_n G dX2_wouldBeInTime_59 0 rfl ?_
          refine gk_sipush (v := nI 200) G dX2_wouldBeInTime_60 (by decide) ?_
          refine gk_callVV (wr := []) G (c2_hoursOn l D cI cZ cJ h q F56 B56 f56 kp56 g56 (gm_add M 0 vg vt) 200 wfA hs56 hn56 restA (by omega)) gX2_wouldBeInTime_X2_hoursOn rfl 1 (by decide +kernel) rfl rfl ⟨(Nat.le_of_ble_eq_true rfl), (Nat.le_of_ble_eq_true rfl)⟩ rfl (q0 := 0) rfl (T := TX2) (N := 12) rfl gk_ok0 trivial [0, 1, 2, 3, 4, 5, 6, 7] rfl (by decide) [] rfl (by decide) (by decide) rfl (Nat.le_of_ble_eq_true rfl) dX2_wouldBeInTime_63 ⟨(Nat.le_of_ble_eq_true rfl), (Nat.le_of_ble_eq_true rfl)⟩ (fun u63 hp63 => ?_)
          obtain ⟨f63, g63⟩ := u63
          have hn63 : gr_now f63 (gm_hrs (gm_add M 0 vg vt) 200) := hp63
          show gk_C p l e ({ frames := 4, cells := 0, slots := 0, locals := 90 } : Room) s m ([.ref h, .int (nI vg), .int (nI vt)] : List Value).toArray below meth c 4 D A Q 0 0 (gd_W cI h q F56 B56 f63 kp56 g63) [(0, .ref h), (1, .int (nI vg)), (2, .int (nI vt))] 66 []
          refine gk_aload_n G dX2_wouldBeInTime_66 0 rfl ?_
          refine gk_dup G dX2_wouldBeInTime_67 rfl ?_
          refine gk_get (v' := .int (nI ((gm_hrs (gm_add M 0 vg vt) 200) 11 0))) G hinX2 (q0 := 0) rfl rfl 6 (by decide) k42 rfl (congrArg Value.int (hsA.2.2.2.1)) dX2_wouldBeInTime_68 ?_
          refine gk_iconst (v := nI 1) G dX2_wouldBeInTime_71 (by decide) ?_
          refine gk_isub (v := nI (M 11 0)) G dX2_wouldBeInTime_72 (by rw [e11A, pk_sub (by omega), Nat.add_sub_cancel]) ?_
          refine gk_topi (fun v73 ev73 => ?_)
          refine gk_put (w' := (gd_W cI h q (upd F56 6 v73) B56 f63 kp56 g63)) G hinX2 tyX2_ok nmX2 (q0 := 0) rfl rfl 6 (by decide) k42 rfl rfl rfl (Nat.le_of_ble_eq_true rfl) rfl dX2_wouldBeInTime_73 ?_
          generalize eF73 : upd F56 6 v73 = F73
          have hs73 : gr_st F73 B56 M := by subst eF73; subst ev73; exact gr_st_drop hs56
          have hT73 : F73 0 = nI 0 := by subst eF73; exact (pk_un (show (0 : Nat) ≠ 6 by decide)).trans hT56
          refine gk_aload_n G dX2_wouldBeInTime_76 0 rfl ?_
          refine gk_get (v' := .ref (q 9)) G hinX2 (q0 := 0) rfl rfl 9 (by decide) k22 rfl rfl dX2_wouldBeInTime_77 ?_
          refine gk_bipush (v := nI 19) G dX2_wouldBeInTime_80 (by decide) ?_
          refine gk_aload_n G dX2_wouldBeInTime_82 0 rfl ?_
          refine gk_get (v' := .int (nI (M 11 0))) G hinX2 (q0 := 0) rfl rfl 6 (by decide) k42 rfl (congrArg Value.int (hs73.2.2.2.1)) dX2_wouldBeInTime_83 ?_
          refine gk_iadd (v := nI (19 + (M 11 0))) G dX2_wouldBeInTime_86 (nI_add 19 (M 11 0)) ?_
          refine gk_iald (v := gm_e ((gm_hrs (gm_add M 0 vg vt) 200) 8 (M 11 0))) G (q0 := 5) (t0 := 0) rfl rfl (19 + (M 11 0)) rfl (by omega) (by decide) (hn63.2.2.2.2.1 (M 11 0) (by omega)) dX2_wouldBeInTime_87 ?_
          refine gk_istore_n (lv' := [(3, .int (gm_e ((gm_hrs (gm_add M 0 vg vt) 200) 8 (M 11 0)))), (0, .ref h), (1, .int (nI vg)), (2, .int (nI vt))]) G dX2_wouldBeInTime_88 rfl (by decide) rfl ?_
          refine gk_aload_n G dX2_wouldBeInTime_89 1 rfl ?_
          refine gk_callVV (wr := []) G (c2_bringBack l D cI cZ cJ h q F73 B56 f63 kp56 g63 (gm_hrs (gm_add M 0 vg vt) 200) ) gX2_wouldBeInTime_X2_bringBack rfl 0 (by decide +kernel) rfl rfl ⟨(Nat.le_of_ble_eq_true rfl), (Nat.le_of_ble_eq_true rfl)⟩ rfl (q0 := 0) rfl (T := TX2) (N := 12) rfl gk_ok0 trivial [0, 1, 2, 3, 4, 5, 6, 7] rfl (by decide) [] rfl (by decide) (by decide) rfl (Nat.le_of_ble_eq_true rfl) dX2_wouldBeInTime_90 ⟨(Nat.le_of_ble_eq_true rfl), (Nat.le_of_ble_eq_true rfl)⟩ (fun u90 hp90 => ?_)
          have hn90 : gr_now (va_cpy kp56 f63 0 0 51) M := gr_now_cp hn (by omega) (fun j hj => by rw [gm_cpy51 hj, hk56, gm_cpy51 hj])
          show gk_C p l e ({ frames := 4, cells := 0, slots := 0, locals := 90 } : Room) s m ([.ref h, .int (nI vg), .int (nI vt)] : List Value).toArray below meth c 4 D A Q 0 0 (gd_W cI h q F73 B56 (va_cpy kp56 f63 0 0 51) kp56 g63) [(3, .int (gm_e ((gm_hrs (gm_add M 0 vg vt) 200) 8 (M 11 0)))), (0, .ref h), (1, .int (nI vg)), (2, .int (nI vt))] 93 []
          refine gk_iload_n G dX2_wouldBeInTime_93 0 rfl ?_
          refine gk_iconst (v := -1) G dX2_wouldBeInTime_94 (by decide) ?_
          refine gk_icmp_eq (tgt := 107) G dX2_wouldBeInTime_95 (by decide) (fun c_95 => ?_) (fun c_95 => ?_)
          · replace c_95 := (gm_e_none (a := (gm_hrs (gm_add M 0 vg vt) 200) 8 (M 11 0)) (by omega)).mp c_95
            refine gk_iconst (v := nI 0) G dX2_wouldBeInTime_107 (by decide) ?_
            exact RET _ _ _ _ _ _ (F73, B56, (va_cpy kp56 f63 0 0 51), kp56, g63) dX2_wouldBeInTime_108 rfl ⟨(gm_b0 (P := gm_wbt M vg vt) (fun q => q.1 c_95)).symm, hs73, hn90, hT73⟩ rfl (Nat.le_of_ble_eq_true rfl) (Nat.le_of_ble_eq_true rfl)
          · replace c_95 := (not_congr (gm_e_none (a := (gm_hrs (gm_add M 0 vg vt) 200) 8 (M 11 0)) (by omega))).mp c_95
            refine gk_iload_n G dX2_wouldBeInTime_98 0 rfl ?_
            refine gk_iload_n G dX2_wouldBeInTime_99 3 rfl ?_
            refine gk_icmp_gt (tgt := 107) G dX2_wouldBeInTime_100 (by decide) (fun c_100 => ?_) (fun c_100 => ?_)
            · rw [gm_e_pred c_95] at c_100
              replace c_100 := (nI_ltI (by omega) (by omega)).mp c_100
              refine gk_iconst (v := nI 0) G dX2_wouldBeInTime_107 (by decide) ?_
              exact RET _ _ _ _ _ _ (F73, B56, (va_cpy kp56 f63 0 0 51), kp56, g63) dX2_wouldBeInTime_108 rfl ⟨(gm_b0 (P := gm_wbt M vg vt) (fun q => by have q2 := q.2; omega)).symm, hs73, hn90, hT73⟩ rfl (Nat.le_of_ble_eq_true rfl) (Nat.le_of_ble_eq_true rfl)
            · rw [gm_e_pred c_95] at c_100
              replace c_100 := (not_congr (nI_ltI (by omega) (by omega))).mp c_100
              refine gk_iconst (v := nI 1) G dX2_wouldBeInTime_103 (by decide) ?_
              refine gk_goto (tgt := 108) G dX2_wouldBeInTime_104 (by decide) ?_
              exact RET _ _ _ _ _ _ (F73, B56, (va_cpy kp56 f63 0 0 51), kp56, g63) dX2_wouldBeInTime_108 rfl ⟨(gm_b1 (P := gm_wbt M vg vt) ⟨c_95, by omega⟩).symm, hs73, hn90, hT73⟩ rfl (Nat.le_of_ble_eq_true rfl) (Nat.le_of_ble_eq_true rfl)
        · replace c_43 := (nI_eq (a := M 11 0) (b := 16) (by omega) (by omega)).mp c_43
          exact absurd c_43 (by omega)
