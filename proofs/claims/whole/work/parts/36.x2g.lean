set_option maxRecDepth 100000 in
set_option maxHeartbeats 1000000 in
theorem c2_bring_no1 (l : Launch) (D : va_G) (cI cZ cJ : ClassId) (h : Nat) (q : Nat → Nat) (F : Nat → Int32) (B : Nat → Nat → Int32) (f kp g : Nat → Int32) (M : gm_M) (p0 p1 p2 : Int32) (wf : gm_wf M) (hs : gr_st F B M) (hn : gr_now f M) (hb : ¬ gm_rg p0 0 8) : gk_I l yX2_bring wsX2_bring ({ frames := 1, cells := 0, slots := 0, locals := 23 } : Room) D (g_T cI cZ cJ) gk_E0 [.ref h, .int p0, .int p1, .int p2] (gd_W cI h q F B f kp g) 0 0 (fun (r : Int32) (u : gd_U) => r = nI 0 ∧ gd_R u M 1) (fun u => (gd_X cI h q u)) := by
  refine gk_I_of (ty := .int) (cc := cX2_bring) (nL := 4) (by decide +kernel) rfl (Nat.le_of_ble_eq_true rfl) ?_
  intro p e s m below meth c A Q hnm hE G RET
  obtain ⟨hz1, hz2, hz3, hz4, hz5, hz6, hz7, hz8⟩ := id wf
  have hinX2 : ∀ w ∈ wsX20, w ∈ wsX2_bring := fun w h9 => (List.mem_cons_of_mem _ (List.mem_append_right _ h9))
  have k31 := G.2.2.2.2.1 (.fieldLink RX2 31 "GustMillModel" "thrown" "I") (List.mem_cons_of_mem _ (List.mem_append_left _ (List.mem_of_getElem? (i := 0) rfl)))
  refine gk_aload_n G dX2_bring_0 0 rfl ?_
  refine gk_iconst (v := nI 0) G dX2_bring_1 (by decide) ?_
  refine gk_topi (fun v2 ev2 => ?_)
  refine gk_put (w' := (gd_W cI h q (upd F 0 v2) B f kp g)) G hinX2 tyX2_ok nmX2 (q0 := 0) rfl rfl 0 (by decide) k31 rfl rfl rfl (Nat.le_of_ble_eq_true rfl) rfl dX2_bring_2 ?_
  generalize eF2 : upd F 0 v2 = F2
  have hsT : gr_st F2 B M := by rw [← eF2]; exact gr_st_0 hs
  have hT : F2 0 = nI 0 := by rw [← eF2, pk_us]; exact ev2
  refine gk_iload_n G dX2_bring_5 1 rfl ?_
  refine gk_iconst (v := nI 0) G dX2_bring_6 (by decide) ?_
  refine gk_bipush (v := nI 7) G dX2_bring_7 (by decide) ?_
  refine gk_callIS (wc := []) (wr := (gd_W cI h q F2 B f kp g)) (isC := []) (isR := [0, 1, 2, 3, 4, 5, 6, 7]) G (c2_isIn l D cI cZ cJ p0 (nI 0) (nI 7)) gX2_bring_X2_isIn rfl 3 (by decide +kernel) rfl rfl ⟨(Nat.le_of_ble_eq_true rfl), (Nat.le_of_ble_eq_true rfl)⟩ rfl gk_ok0 trivial rfl (by decide) rfl (by decide) (by decide) rfl (Nat.le_of_ble_eq_true rfl) dX2_bring_9 ⟨(Nat.le_of_ble_eq_true rfl), (Nat.le_of_ble_eq_true rfl)⟩ (fun r9 u9 hp9 => ?_)
  obtain rfl : r9 = nI 0 := (hp9.trans (gm_b0 (gm_in0 hb (by decide) (by decide))))
  show gk_C p l e ({ frames := 1, cells := 0, slots := 0, locals := 23 } : Room) s m ([.ref h, .int p0, .int p1, .int p2] : List Value).toArray below meth c 4 D A Q 0 0 (gd_W cI h q F2 B f kp g) [(0, .ref h), (1, .int p0), (2, .int p1), (3, .int p2)] 12 [.int (nI 0)]
  refine gk_if_eq (tgt := 36) G dX2_bring_12 (by decide) (fun c_12 => ?_) (fun c_12 => ?_)
  · replace c_12 := (nI_eq (a := 0) (b := 0) (by omega) (by omega)).mp c_12
    refine gk_aload_n G dX2_bring_36 0 rfl ?_
    refine gk_iconst (v := nI 1) G dX2_bring_37 (by decide) ?_
    refine gk_callIV (wr := []) G (c2_fail l D cI cZ cJ h q F2 B f kp g M (nI 1)) gX2_bring_X2_fail rfl 1 (by decide +kernel) rfl rfl ⟨(Nat.le_of_ble_eq_true rfl), (Nat.le_of_ble_eq_true rfl)⟩ rfl (q0 := 0) rfl (T := TX2) (N := 12) rfl gk_ok0 trivial [0, 1, 2, 3, 4, 5, 6, 7] rfl (by decide) [] rfl (by decide) (by decide) rfl (Nat.le_of_ble_eq_true rfl) dX2_bring_38 ⟨(Nat.le_of_ble_eq_true rfl), (Nat.le_of_ble_eq_true rfl)⟩ (fun r38 u38 hp38 => ?_)
    obtain rfl : r38 = nI 0 := hp38.1
    have hF38 : u38 = upd F2 0 (nI 1) := hp38.2
    have hs38 : gr_st u38 B M := by rw [hF38]; exact gr_st_0 hsT
    have hT38 : u38 0 = nI 1 := by rw [hF38, pk_us]
    show gk_C p l e ({ frames := 1, cells := 0, slots := 0, locals := 23 } : Room) s m ([.ref h, .int p0, .int p1, .int p2] : List Value).toArray below meth c 4 D A Q 0 0 (gd_W cI h q u38 B f kp g) [(0, .ref h), (1, .int p0), (2, .int p1), (3, .int p2)] 41 [.int (nI 0)]
    exact RET _ _ _ _ _ _ (u38, B, f, kp, g) dX2_bring_41 rfl ⟨rfl, hs38, hn, hT38⟩ rfl (Nat.le_of_ble_eq_true rfl) (Nat.le_of_ble_eq_true rfl)
  · replace c_12 := (not_congr (nI_eq (a := 0) (b := 0) (by omega) (by omega))).mp c_12
    exact absurd c_12 (by decide)
set_option maxRecDepth 100000 in
set_option maxHeartbeats 1000000 in
theorem c2_bring_no2 (l : Launch) (D : va_G) (cI cZ cJ : ClassId) (h : Nat) (q : Nat → Nat) (F : Nat → Int32) (B : Nat → Nat → Int32) (f kp g : Nat → Int32) (M : gm_M) (vb : Nat) (p1 p2 : Int32) (wf : gm_wf M) (hs : gr_st F B M) (hn : gr_now f M) (h0 : vb < 8) (hb : ¬ gm_rg p1 1 61) : gk_I l yX2_bring wsX2_bring ({ frames := 1, cells := 0, slots := 0, locals := 23 } : Room) D (g_T cI cZ cJ) gk_E0 [.ref h, .int (nI vb), .int p1, .int p2] (gd_W cI h q F B f kp g) 0 0 (fun (r : Int32) (u : gd_U) => r = nI 0 ∧ gd_R u M 1) (fun u => (gd_X cI h q u)) := by
  refine gk_I_of (ty := .int) (cc := cX2_bring) (nL := 4) (by decide +kernel) rfl (Nat.le_of_ble_eq_true rfl) ?_
  intro p e s m below meth c A Q hnm hE G RET
  obtain ⟨hz1, hz2, hz3, hz4, hz5, hz6, hz7, hz8⟩ := id wf
  have hinX2 : ∀ w ∈ wsX20, w ∈ wsX2_bring := fun w h9 => (List.mem_cons_of_mem _ (List.mem_append_right _ h9))
  have k31 := G.2.2.2.2.1 (.fieldLink RX2 31 "GustMillModel" "thrown" "I") (List.mem_cons_of_mem _ (List.mem_append_left _ (List.mem_of_getElem? (i := 0) rfl)))
  refine gk_aload_n G dX2_bring_0 0 rfl ?_
  refine gk_iconst (v := nI 0) G dX2_bring_1 (by decide) ?_
  refine gk_topi (fun v2 ev2 => ?_)
  refine gk_put (w' := (gd_W cI h q (upd F 0 v2) B f kp g)) G hinX2 tyX2_ok nmX2 (q0 := 0) rfl rfl 0 (by decide) k31 rfl rfl rfl (Nat.le_of_ble_eq_true rfl) rfl dX2_bring_2 ?_
  generalize eF2 : upd F 0 v2 = F2
  have hsT : gr_st F2 B M := by rw [← eF2]; exact gr_st_0 hs
  have hT : F2 0 = nI 0 := by rw [← eF2, pk_us]; exact ev2
  refine gk_iload_n G dX2_bring_5 1 rfl ?_
  refine gk_iconst (v := nI 0) G dX2_bring_6 (by decide) ?_
  refine gk_bipush (v := nI 7) G dX2_bring_7 (by decide) ?_
  refine gk_callIS (wc := []) (wr := (gd_W cI h q F2 B f kp g)) (isC := []) (isR := [0, 1, 2, 3, 4, 5, 6, 7]) G (c2_isIn l D cI cZ cJ (nI vb) (nI 0) (nI 7)) gX2_bring_X2_isIn rfl 3 (by decide +kernel) rfl rfl ⟨(Nat.le_of_ble_eq_true rfl), (Nat.le_of_ble_eq_true rfl)⟩ rfl gk_ok0 trivial rfl (by decide) rfl (by decide) (by decide) rfl (Nat.le_of_ble_eq_true rfl) dX2_bring_9 ⟨(Nat.le_of_ble_eq_true rfl), (Nat.le_of_ble_eq_true rfl)⟩ (fun r9 u9 hp9 => ?_)
  obtain rfl : r9 = nI 1 := (hp9.trans (gm_b1 (gm_in1 (by omega) (by omega) (by decide))))
  show gk_C p l e ({ frames := 1, cells := 0, slots := 0, locals := 23 } : Room) s m ([.ref h, .int (nI vb), .int p1, .int p2] : List Value).toArray below meth c 4 D A Q 0 0 (gd_W cI h q F2 B f kp g) [(0, .ref h), (1, .int (nI vb)), (2, .int p1), (3, .int p2)] 12 [.int (nI 1)]
  refine gk_if_eq (tgt := 36) G dX2_bring_12 (by decide) (fun c_12 => ?_) (fun c_12 => ?_)
  · replace c_12 := (nI_eq (a := 1) (b := 0) (by omega) (by omega)).mp c_12
    exact absurd c_12 (by decide)
  · replace c_12 := (not_congr (nI_eq (a := 1) (b := 0) (by omega) (by omega))).mp c_12
    refine gk_iload_n G dX2_bring_15 2 rfl ?_
    refine gk_iconst (v := nI 1) G dX2_bring_16 (by decide) ?_
    refine gk_bipush (v := nI 60) G dX2_bring_17 (by decide) ?_
    refine gk_callIS (wc := []) (wr := (gd_W cI h q F2 B f kp g)) (isC := []) (isR := [0, 1, 2, 3, 4, 5, 6, 7]) G (c2_isIn l D cI cZ cJ p1 (nI 1) (nI 60)) gX2_bring_X2_isIn rfl 3 (by decide +kernel) rfl rfl ⟨(Nat.le_of_ble_eq_true rfl), (Nat.le_of_ble_eq_true rfl)⟩ rfl gk_ok0 trivial rfl (by decide) rfl (by decide) (by decide) rfl (Nat.le_of_ble_eq_true rfl) dX2_bring_19 ⟨(Nat.le_of_ble_eq_true rfl), (Nat.le_of_ble_eq_true rfl)⟩ (fun r19 u19 hp19 => ?_)
    obtain rfl : r19 = nI 0 := (hp19.trans (gm_b0 (gm_in0 hb (by decide) (by decide))))
    show gk_C p l e ({ frames := 1, cells := 0, slots := 0, locals := 23 } : Room) s m ([.ref h, .int (nI vb), .int p1, .int p2] : List Value).toArray below meth c 4 D A Q 0 0 (gd_W cI h q F2 B f kp g) [(0, .ref h), (1, .int (nI vb)), (2, .int p1), (3, .int p2)] 22 [.int (nI 0)]
    refine gk_if_eq (tgt := 36) G dX2_bring_22 (by decide) (fun c_22 => ?_) (fun c_22 => ?_)
    · replace c_22 := (nI_eq (a := 0) (b := 0) (by omega) (by omega)).mp c_22
      refine gk_aload_n G dX2_bring_36 0 rfl ?_
      refine gk_iconst (v := nI 1) G dX2_bring_37 (by decide) ?_
      refine gk_callIV (wr := []) G (c2_fail l D cI cZ cJ h q F2 B f kp g M (nI 1)) gX2_bring_X2_fail rfl 1 (by decide +kernel) rfl rfl ⟨(Nat.le_of_ble_eq_true rfl), (Nat.le_of_ble_eq_true rfl)⟩ rfl (q0 := 0) rfl (T := TX2) (N := 12) rfl gk_ok0 trivial [0, 1, 2, 3, 4, 5, 6, 7] rfl (by decide) [] rfl (by decide) (by decide) rfl (Nat.le_of_ble_eq_true rfl) dX2_bring_38 ⟨(Nat.le_of_ble_eq_true rfl), (Nat.le_of_ble_eq_true rfl)⟩ (fun r38 u38 hp38 => ?_)
      obtain rfl : r38 = nI 0 := hp38.1
      have hF38 : u38 = upd F2 0 (nI 1) := hp38.2
      have hs38 : gr_st u38 B M := by rw [hF38]; exact gr_st_0 hsT
      have hT38 : u38 0 = nI 1 := by rw [hF38, pk_us]
      show gk_C p l e ({ frames := 1, cells := 0, slots := 0, locals := 23 } : Room) s m ([.ref h, .int (nI vb), .int p1, .int p2] : List Value).toArray below meth c 4 D A Q 0 0 (gd_W cI h q u38 B f kp g) [(0, .ref h), (1, .int (nI vb)), (2, .int p1), (3, .int p2)] 41 [.int (nI 0)]
      exact RET _ _ _ _ _ _ (u38, B, f, kp, g) dX2_bring_41 rfl ⟨rfl, hs38, hn, hT38⟩ rfl (Nat.le_of_ble_eq_true rfl) (Nat.le_of_ble_eq_true rfl)
    · replace c_22 := (not_congr (nI_eq (a := 0) (b := 0) (by omega) (by omega))).mp c_22
      exact absurd c_22 (by decide)
set_option maxRecDepth 100000 in
set_option maxHeartbeats 1000000 in
theorem c2_bring_no3 (l : Launch) (D : va_G) (cI cZ cJ : ClassId) (h : Nat) (q : Nat → Nat) (F : Nat → Int32) (B : Nat → Nat → Int32) (f kp g : Nat → Int32) (M : gm_M) (vb vg : Nat) (p2 : Int32) (wf : gm_wf M) (hs : gr_st F B M) (hn : gr_now f M) (h0 : vb < 8) (h1 : 1 ≤ vg) (h1b : vg < 61) (hb : ¬ gm_rg p2 1 201) : gk_I l yX2_bring wsX2_bring ({ frames := 1, cells := 0, slots := 0, locals := 23 } : Room) D (g_T cI cZ cJ) gk_E0 [.ref h, .int (nI vb), .int (nI vg), .int p2] (gd_W cI h q F B f kp g) 0 0 (fun (r : Int32) (u : gd_U) => r = nI 0 ∧ gd_R u M 1) (fun u => (gd_X cI h q u)) := by
  refine gk_I_of (ty := .int) (cc := cX2_bring) (nL := 4) (by decide +kernel) rfl (Nat.le_of_ble_eq_true rfl) ?_
  intro p e s m below meth c A Q hnm hE G RET
  obtain ⟨hz1, hz2, hz3, hz4, hz5, hz6, hz7, hz8⟩ := id wf
  have hinX2 : ∀ w ∈ wsX20, w ∈ wsX2_bring := fun w h9 => (List.mem_cons_of_mem _ (List.mem_append_right _ h9))
  have k31 := G.2.2.2.2.1 (.fieldLink RX2 31 "GustMillModel" "thrown" "I") (List.mem_cons_of_mem _ (List.mem_append_left _ (List.mem_of_getElem? (i := 0) rfl)))
  refine gk_aload_n G dX2_bring_0 0 rfl ?_
  refine gk_iconst (v := nI 0) G dX2_bring_1 (by decide) ?_
  refine gk_topi (fun v2 ev2 => ?_)
  refine gk_put (w' := (gd_W cI h q (upd F 0 v2) B f kp g)) G hinX2 tyX2_ok nmX2 (q0 := 0) rfl rfl 0 (by decide) k31 rfl rfl rfl (Nat.le_of_ble_eq_true rfl) rfl dX2_bring_2 ?_
  generalize eF2 : upd F 0 v2 = F2
  have hsT : gr_st F2 B M := by rw [← eF2]; exact gr_st_0 hs
  have hT : F2 0 = nI 0 := by rw [← eF2, pk_us]; exact ev2
  refine gk_iload_n G dX2_bring_5 1 rfl ?_
  refine gk_iconst (v := nI 0) G dX2_bring_6 (by decide) ?_
  refine gk_bipush (v := nI 7) G dX2_bring_7 (by decide) ?_
  refine gk_callIS (wc := []) (wr := (gd_W cI h q F2 B f kp g)) (isC := []) (isR := [0, 1, 2, 3, 4, 5, 6, 7]) G (c2_isIn l D cI cZ cJ (nI vb) (nI 0) (nI 7)) gX2_bring_X2_isIn rfl 3 (by decide +kernel) rfl rfl ⟨(Nat.le_of_ble_eq_true rfl), (Nat.le_of_ble_eq_true rfl)⟩ rfl gk_ok0 trivial rfl (by decide) rfl (by decide) (by decide) rfl (Nat.le_of_ble_eq_true rfl) dX2_bring_9 ⟨(Nat.le_of_ble_eq_true rfl), (Nat.le_of_ble_eq_true rfl)⟩ (fun r9 u9 hp9 => ?_)
  obtain rfl : r9 = nI 1 := (hp9.trans (gm_b1 (gm_in1 (by omega) (by omega) (by decide))))
  show gk_C p l e ({ frames := 1, cells := 0, slots := 0, locals := 23 } : Room) s m ([.ref h, .int (nI vb), .int (nI vg), .int p2] : List Value).toArray below meth c 4 D A Q 0 0 (gd_W cI h q F2 B f kp g) [(0, .ref h), (1, .int (nI vb)), (2, .int (nI vg)), (3, .int p2)] 12 [.int (nI 1)]
  refine gk_if_eq (tgt := 36) G dX2_bring_12 (by decide) (fun c_12 => ?_) (fun c_12 => ?_)
  · replace c_12 := (nI_eq (a := 1) (b := 0) (by omega) (by omega)).mp c_12
    exact absurd c_12 (by decide)
  · replace c_12 := (not_congr (nI_eq (a := 1) (b := 0) (by omega) (by omega))).mp c_12
    refine gk_iload_n G dX2_bring_15 2 rfl ?_
    refine gk_iconst (v := nI 1) G dX2_bring_16 (by decide) ?_
    refine gk_bipush (v := nI 60) G dX2_bring_17 (by decide) ?_
    refine gk_callIS (wc := []) (wr := (gd_W cI h q F2 B f kp g)) (isC := []) (isR := [0, 1, 2, 3, 4, 5, 6, 7]) G (c2_isIn l D cI cZ cJ (nI vg) (nI 1) (nI 60)) gX2_bring_X2_isIn rfl 3 (by decide +kernel) rfl rfl ⟨(Nat.le_of_ble_eq_true rfl), (Nat.le_of_ble_eq_true rfl)⟩ rfl gk_ok0 trivial rfl (by decide) rfl (by decide) (by decide) rfl (Nat.le_of_ble_eq_true rfl) dX2_bring_19 ⟨(Nat.le_of_ble_eq_true rfl), (Nat.le_of_ble_eq_true rfl)⟩ (fun r19 u19 hp19 => ?_)
    obtain rfl : r19 = nI 1 := (hp19.trans (gm_b1 (gm_in1 (by omega) (by omega) (by decide))))
    show gk_C p l e ({ frames := 1, cells := 0, slots := 0, locals := 23 } : Room) s m ([.ref h, .int (nI vb), .int (nI vg), .int p2] : List Value).toArray below meth c 4 D A Q 0 0 (gd_W cI h q F2 B f kp g) [(0, .ref h), (1, .int (nI vb)), (2, .int (nI vg)), (3, .int p2)] 22 [.int (nI 1)]
    refine gk_if_eq (tgt := 36) G dX2_bring_22 (by decide) (fun c_22 => ?_) (fun c_22 => ?_)
    · replace c_22 := (nI_eq (a := 1) (b := 0) (by omega) (by omega)).mp c_22
      exact absurd c_22 (by decide)
    · replace c_22 := (not_congr (nI_eq (a := 1) (b := 0) (by omega) (by omega))).mp c_22
      refine gk_iload_n G dX2_bring_25 3 rfl ?_
      refine gk_iconst (v := nI 1) G dX2_bring_26 (by decide) ?_
      refine gk_sipush (v := nI 200) G dX2_bring_27 (by decide) ?_
      refine gk_callIS (wc := []) (wr := (gd_W cI h q F2 B f kp g)) (isC := []) (isR := [0, 1, 2, 3, 4, 5, 6, 7]) G (c2_isIn l D cI cZ cJ p2 (nI 1) (nI 200)) gX2_bring_X2_isIn rfl 3 (by decide +kernel) rfl rfl ⟨(Nat.le_of_ble_eq_true rfl), (Nat.le_of_ble_eq_true rfl)⟩ rfl gk_ok0 trivial rfl (by decide) rfl (by decide) (by decide) rfl (Nat.le_of_ble_eq_true rfl) dX2_bring_30 ⟨(Nat.le_of_ble_eq_true rfl), (Nat.le_of_ble_eq_true rfl)⟩ (fun r30 u30 hp30 => ?_)
      obtain rfl : r30 = nI 0 := (hp30.trans (gm_b0 (gm_in0 hb (by decide) (by decide))))
      show gk_C p l e ({ frames := 1, cells := 0, slots := 0, locals := 23 } : Room) s m ([.ref h, .int (nI vb), .int (nI vg), .int p2] : List Value).toArray below meth c 4 D A Q 0 0 (gd_W cI h q F2 B f kp g) [(0, .ref h), (1, .int (nI vb)), (2, .int (nI vg)), (3, .int p2)] 33 [.int (nI 0)]
      refine gk_if_ne (tgt := 42) G dX2_bring_33 (by decide) (fun c_33 => ?_) (fun c_33 => ?_)
      · replace c_33 := (not_congr (nI_eq (a := 0) (b := 0) (by omega) (by omega))).mp c_33
        exact absurd c_33 (by decide)
      · replace c_33 := (nI_eq (a := 0) (b := 0) (by omega) (by omega)).mp c_33
        refine gk_aload_n G dX2_bring_36 0 rfl ?_
        refine gk_iconst (v := nI 1) G dX2_bring_37 (by decide) ?_
        refine gk_callIV (wr := []) G (c2_fail l D cI cZ cJ h q F2 B f kp g M (nI 1)) gX2_bring_X2_fail rfl 1 (by decide +kernel) rfl rfl ⟨(Nat.le_of_ble_eq_true rfl), (Nat.le_of_ble_eq_true rfl)⟩ rfl (q0 := 0) rfl (T := TX2) (N := 12) rfl gk_ok0 trivial [0, 1, 2, 3, 4, 5, 6, 7] rfl (by decide) [] rfl (by decide) (by decide) rfl (Nat.le_of_ble_eq_true rfl) dX2_bring_38 ⟨(Nat.le_of_ble_eq_true rfl), (Nat.le_of_ble_eq_true rfl)⟩ (fun r38 u38 hp38 => ?_)
        obtain rfl : r38 = nI 0 := hp38.1
        have hF38 : u38 = upd F2 0 (nI 1) := hp38.2
        have hs38 : gr_st u38 B M := by rw [hF38]; exact gr_st_0 hsT
        have hT38 : u38 0 = nI 1 := by rw [hF38, pk_us]
        show gk_C p l e ({ frames := 1, cells := 0, slots := 0, locals := 23 } : Room) s m ([.ref h, .int (nI vb), .int (nI vg), .int p2] : List Value).toArray below meth c 4 D A Q 0 0 (gd_W cI h q u38 B f kp g) [(0, .ref h), (1, .int (nI vb)), (2, .int (nI vg)), (3, .int p2)] 41 [.int (nI 0)]
        exact RET _ _ _ _ _ _ (u38, B, f, kp, g) dX2_bring_41 rfl ⟨rfl, hs38, hn, hT38⟩ rfl (Nat.le_of_ble_eq_true rfl) (Nat.le_of_ble_eq_true rfl)
set_option maxRecDepth 100000 in
set_option maxHeartbeats 1000000 in
theorem c2_bring_full (l : Launch) (D : va_G) (cI cZ cJ : ClassId) (h : Nat) (q : Nat → Nat) (F : Nat → Int32) (B : Nat → Nat → Int32) (f kp g : Nat → Int32) (M : gm_M) (vb vg vt : Nat) (wf : gm_wf M) (hs : gr_st F B M) (hn : gr_now f M) (h0 : vb < 8) (h1 : 1 ≤ vg) (h1b : vg < 61) (h2 : 1 ≤ vt) (h2b : vt < 201) (h16 : M 11 0 = 16) : gk_I l yX2_bring wsX2_bring ({ frames := 1, cells := 0, slots := 0, locals := 23 } : Room) D (g_T cI cZ cJ) gk_E0 [.ref h, .int (nI vb), .int (nI vg), .int (nI vt)] (gd_W cI h q F B f kp g) 0 0 (fun (r : Int32) (u : gd_U) => r = nI 0 ∧ gd_R u M 2) (fun u => (gd_X cI h q u)) := by
  refine gk_I_of (ty := .int) (cc := cX2_bring) (nL := 4) (by decide +kernel) rfl (Nat.le_of_ble_eq_true rfl) ?_
  intro p e s m below meth c A Q hnm hE G RET
  obtain ⟨hz1, hz2, hz3, hz4, hz5, hz6, hz7, hz8⟩ := id wf
  have hinX2 : ∀ w ∈ wsX20, w ∈ wsX2_bring := fun w h9 => (List.mem_cons_of_mem _ (List.mem_append_right _ h9))
  have k31 := G.2.2.2.2.1 (.fieldLink RX2 31 "GustMillModel" "thrown" "I") (List.mem_cons_of_mem _ (List.mem_append_left _ (List.mem_of_getElem? (i := 0) rfl)))
  have k42 := G.2.2.2.2.1 (.fieldLink RX2 42 "GustMillModel" "sacks" "I") (List.mem_cons_of_mem _ (List.mem_append_left _ (List.mem_of_getElem? (i := 1) rfl)))
  refine gk_aload_n G dX2_bring_0 0 rfl ?_
  refine gk_iconst (v := nI 0) G dX2_bring_1 (by decide) ?_
  refine gk_topi (fun v2 ev2 => ?_)
  refine gk_put (w' := (gd_W cI h q (upd F 0 v2) B f kp g)) G hinX2 tyX2_ok nmX2 (q0 := 0) rfl rfl 0 (by decide) k31 rfl rfl rfl (Nat.le_of_ble_eq_true rfl) rfl dX2_bring_2 ?_
  generalize eF2 : upd F 0 v2 = F2
  have hsT : gr_st F2 B M := by rw [← eF2]; exact gr_st_0 hs
  have hT : F2 0 = nI 0 := by rw [← eF2, pk_us]; exact ev2
  refine gk_iload_n G dX2_bring_5 1 rfl ?_
  refine gk_iconst (v := nI 0) G dX2_bring_6 (by decide) ?_
  refine gk_bipush (v := nI 7) G dX2_bring_7 (by decide) ?_
  refine gk_callIS (wc := []) (wr := (gd_W cI h q F2 B f kp g)) (isC := []) (isR := [0, 1, 2, 3, 4, 5, 6, 7]) G (c2_isIn l D cI cZ cJ (nI vb) (nI 0) (nI 7)) gX2_bring_X2_isIn rfl 3 (by decide +kernel) rfl rfl ⟨(Nat.le_of_ble_eq_true rfl), (Nat.le_of_ble_eq_true rfl)⟩ rfl gk_ok0 trivial rfl (by decide) rfl (by decide) (by decide) rfl (Nat.le_of_ble_eq_true rfl) dX2_bring_9 ⟨(Nat.le_of_ble_eq_true rfl), (Nat.le_of_ble_eq_true rfl)⟩ (fun r9 u9 hp9 => ?_)
  obtain rfl : r9 = nI 1 := (hp9.trans (gm_b1 (gm_in1 (by omega) (by omega) (by decide))))
  show gk_C p l e ({ frames := 1, cells := 0, slots := 0, locals := 23 } : Room) s m ([.ref h, .int (nI vb), .int (nI vg), .int (nI vt)] : List Value).toArray below meth c 4 D A Q 0 0 (gd_W cI h q F2 B f kp g) [(0, .ref h), (1, .int (nI vb)), (2, .int (nI vg)), (3, .int (nI vt))] 12 [.int (nI 1)]
  refine gk_if_eq (tgt := 36) G dX2_bring_12 (by decide) (fun c_12 => ?_) (fun c_12 => ?_)
  · replace c_12 := (nI_eq (a := 1) (b := 0) (by omega) (by omega)).mp c_12
    exact absurd c_12 (by decide)
  · replace c_12 := (not_congr (nI_eq (a := 1) (b := 0) (by omega) (by omega))).mp c_12
    refine gk_iload_n G dX2_bring_15 2 rfl ?_
    refine gk_iconst (v := nI 1) G dX2_bring_16 (by decide) ?_
    refine gk_bipush (v := nI 60) G dX2_bring_17 (by decide) ?_
    refine gk_callIS (wc := []) (wr := (gd_W cI h q F2 B f kp g)) (isC := []) (isR := [0, 1, 2, 3, 4, 5, 6, 7]) G (c2_isIn l D cI cZ cJ (nI vg) (nI 1) (nI 60)) gX2_bring_X2_isIn rfl 3 (by decide +kernel) rfl rfl ⟨(Nat.le_of_ble_eq_true rfl), (Nat.le_of_ble_eq_true rfl)⟩ rfl gk_ok0 trivial rfl (by decide) rfl (by decide) (by decide) rfl (Nat.le_of_ble_eq_true rfl) dX2_bring_19 ⟨(Nat.le_of_ble_eq_true rfl), (Nat.le_of_ble_eq_true rfl)⟩ (fun r19 u19 hp19 => ?_)
    obtain rfl : r19 = nI 1 := (hp19.trans (gm_b1 (gm_in1 (by omega) (by omega) (by decide))))
    show gk_C p l e ({ frames := 1, cells := 0, slots := 0, locals := 23 } : Room) s m ([.ref h, .int (nI vb), .int (nI vg), .int (nI vt)] : List Value).toArray below meth c 4 D A Q 0 0 (gd_W cI h q F2 B f kp g) [(0, .ref h), (1, .int (nI vb)), (2, .int (nI vg)), (3, .int (nI vt))] 22 [.int (nI 1)]
    refine gk_if_eq (tgt := 36) G dX2_bring_22 (by decide) (fun c_22 => ?_) (fun c_22 => ?_)
    · replace c_22 := (nI_eq (a := 1) (b := 0) (by omega) (by omega)).mp c_22
      exact absurd c_22 (by decide)
    · replace c_22 := (not_congr (nI_eq (a := 1) (b := 0) (by omega) (by omega))).mp c_22
      refine gk_iload_n G dX2_bring_25 3 rfl ?_
      refine gk_iconst (v := nI 1) G dX2_bring_26 (by decide) ?_
      refine gk_sipush (v := nI 200) G dX2_bring_27 (by decide) ?_
      refine gk_callIS (wc := []) (wr := (gd_W cI h q F2 B f kp g)) (isC := []) (isR := [0, 1, 2, 3, 4, 5, 6, 7]) G (c2_isIn l D cI cZ cJ (nI vt) (nI 1) (nI 200)) gX2_bring_X2_isIn rfl 3 (by decide +kernel) rfl rfl ⟨(Nat.le_of_ble_eq_true rfl), (Nat.le_of_ble_eq_true rfl)⟩ rfl gk_ok0 trivial rfl (by decide) rfl (by decide) (by decide) rfl (Nat.le_of_ble_eq_true rfl) dX2_bring_30 ⟨(Nat.le_of_ble_eq_true rfl), (Nat.le_of_ble_eq_true rfl)⟩ (fun r30 u30 hp30 => ?_)
      obtain rfl : r30 = nI 1 := (hp30.trans (gm_b1 (gm_in1 (by omega) (by omega) (by decide))))
      show gk_C p l e ({ frames := 1, cells := 0, slots := 0, locals := 23 } : Room) s m ([.ref h, .int (nI vb), .int (nI vg), .int (nI vt)] : List Value).toArray below meth c 4 D A Q 0 0 (gd_W cI h q F2 B f kp g) [(0, .ref h), (1, .int (nI vb)), (2, .int (nI vg)), (3, .int (nI vt))] 33 [.int (nI 1)]
      refine gk_if_ne (tgt := 42) G dX2_bring_33 (by decide) (fun c_33 => ?_) (fun c_33 => ?_)
      · replace c_33 := (not_congr (nI_eq (a := 1) (b := 0) (by omega) (by omega))).mp c_33
        refine gk_aload_n G dX2_bring_42 0 rfl ?_
        refine gk_get (v' := .int (nI (M 11 0))) G hinX2 (q0 := 0) rfl rfl 6 (by decide) k42 rfl (congrArg Value.int (hsT.2.2.2.1)) dX2_bring_43 ?_
        refine gk_bipush (v := nI 16) G dX2_bring_46 (by decide) ?_
        refine gk_icmp_ne (tgt := 57) G dX2_bring_48 (by decide) (fun c_48 => ?_) (fun c_48 => ?_)
        · replace c_48 := (not_congr (nI_eq (a := M 11 0) (b := 16) (by omega) (by omega))).mp c_48
          exact absurd h16 c_48
        · replace c_48 := (nI_eq (a := M 11 0) (b := 16) (by omega) (by omega)).mp c_48
          refine gk_aload_n G dX2_bring_51 0 rfl ?_
          refine gk_iconst (v := nI 2) G dX2_bring_52 (by decide) ?_
          refine gk_callIV (wr := []) G (c2_fail l D cI cZ cJ h q F2 B f kp g M (nI 2)) gX2_bring_X2_fail rfl 1 (by decide +kernel) rfl rfl ⟨(Nat.le_of_ble_eq_true rfl), (Nat.le_of_ble_eq_true rfl)⟩ rfl (q0 := 0) rfl (T := TX2) (N := 12) rfl gk_ok0 trivial [0, 1, 2, 3, 4, 5, 6, 7] rfl (by decide) [] rfl (by decide) (by decide) rfl (Nat.le_of_ble_eq_true rfl) dX2_bring_53 ⟨(Nat.le_of_ble_eq_true rfl), (Nat.le_of_ble_eq_true rfl)⟩ (fun r53 u53 hp53 => ?_)
          obtain rfl : r53 = nI 0 := hp53.1
          have hF53 : u53 = upd F2 0 (nI 2) := hp53.2
          have hs53 : gr_st u53 B M := by rw [hF53]; exact gr_st_0 hsT
          have hT53 : u53 0 = nI 2 := by rw [hF53, pk_us]
          show gk_C p l e ({ frames := 1, cells := 0, slots := 0, locals := 23 } : Room) s m ([.ref h, .int (nI vb), .int (nI vg), .int (nI vt)] : List Value).toArray below meth c 4 D A Q 0 0 (gd_W cI h q u53 B f kp g) [(0, .ref h), (1, .int (nI vb)), (2, .int (nI vg)), (3, .int (nI vt))] 56 [.int (nI 0)]
          exact RET _ _ _ _ _ _ (u53, B, f, kp, g) dX2_bring_56 rfl ⟨rfl, hs53, hn, hT53⟩ rfl (Nat.le_of_ble_eq_true rfl) (Nat.le_of_ble_eq_true rfl)
      · replace c_33 := (nI_eq (a := 1) (b := 0) (by omega) (by omega)).mp c_33
        exact absurd c_33 (by decide)
set_option maxRecDepth 100000 in
set_option maxHeartbeats 1000000 in
theorem c2_bring_ok (l : Launch) (D : va_G) (cI cZ cJ : ClassId) (h : Nat) (q : Nat → Nat) (F : Nat → Int32) (B : Nat → Nat → Int32) (f kp g : Nat → Int32) (M : gm_M) (vb vg vt : Nat) (wf : gm_wf M) (hs : gr_st F B M) (hn : gr_now f M) (h0 : vb < 8) (h1 : 1 ≤ vg) (h1b : vg < 61) (h2 : 1 ≤ vt) (h2b : vt < 201) (h16 : M 11 0 < 16) : gk_I l yX2_bring wsX2_bring ({ frames := 1, cells := 0, slots := 0, locals := 23 } : Room) D (g_T cI cZ cJ) gk_E0 [.ref h, .int (nI vb), .int (nI vg), .int (nI vt)] (gd_W cI h q F B f kp g) 0 0 (fun (r : Int32) (u : gd_U) => r = nI (M 11 0) ∧ gd_R u (gm_add M vb vg vt) 0) (fun u => (gd_X cI h q u)) := by
  refine gk_I_of (ty := .int) (cc := cX2_bring) (nL := 4) (by decide +kernel) rfl (Nat.le_of_ble_eq_true rfl) ?_
  intro p e s m below meth c A Q hnm hE G RET
  obtain ⟨hz1, hz2, hz3, hz4, hz5, hz6, hz7, hz8⟩ := id wf
  have hinX2 : ∀ w ∈ wsX20, w ∈ wsX2_bring := fun w h9 => (List.mem_cons_of_mem _ (List.mem_append_right _ h9))
  have k31 := G.2.2.2.2.1 (.fieldLink RX2 31 "GustMillModel" "thrown" "I") (List.mem_cons_of_mem _ (List.mem_append_left _ (List.mem_of_getElem? (i := 0) rfl)))
  have k42 := G.2.2.2.2.1 (.fieldLink RX2 42 "GustMillModel" "sacks" "I") (List.mem_cons_of_mem _ (List.mem_append_left _ (List.mem_of_getElem? (i := 1) rfl)))
  refine gk_aload_n G dX2_bring_0 0 rfl ?_
  refine gk_iconst (v := nI 0) G dX2_bring_1 (by decide) ?_
  refine gk_topi (fun v2 ev2 => ?_)
  refine gk_put (w' := (gd_W cI h q (upd F 0 v2) B f kp g)) G hinX2 tyX2_ok nmX2 (q0 := 0) rfl rfl 0 (by decide) k31 rfl rfl rfl (Nat.le_of_ble_eq_true rfl) rfl dX2_bring_2 ?_
  generalize eF2 : upd F 0 v2 = F2
  have hsT : gr_st F2 B M := by rw [← eF2]; exact gr_st_0 hs
  have hT : F2 0 = nI 0 := by rw [← eF2, pk_us]; exact ev2
  refine gk_iload_n G dX2_bring_5 1 rfl ?_
  refine gk_iconst (v := nI 0) G dX2_bring_6 (by decide) ?_
  refine gk_bipush (v := nI 7) G dX2_bring_7 (by decide) ?_
  refine gk_callIS (wc := []) (wr := (gd_W cI h q F2 B f kp g)) (isC := []) (isR := [0, 1, 2, 3, 4, 5, 6, 7]) G (c2_isIn l D cI cZ cJ (nI vb) (nI 0) (nI 7)) gX2_bring_X2_isIn rfl 3 (by decide +kernel) rfl rfl ⟨(Nat.le_of_ble_eq_true rfl), (Nat.le_of_ble_eq_true rfl)⟩ rfl gk_ok0 trivial rfl (by decide) rfl (by decide) (by decide) rfl (Nat.le_of_ble_eq_true rfl) dX2_bring_9 ⟨(Nat.le_of_ble_eq_true rfl), (Nat.le_of_ble_eq_true rfl)⟩ (fun r9 u9 hp9 => ?_)
  obtain rfl : r9 = nI 1 := (hp9.trans (gm_b1 (gm_in1 (by omega) (by omega) (by decide))))
  show gk_C p l e ({ frames := 1, cells := 0, slots := 0, locals := 23 } : Room) s m ([.ref h, .int (nI vb), .int (nI vg), .int (nI vt)] : List Value).toArray below meth c 4 D A Q 0 0 (gd_W cI h q F2 B f kp g) [(0, .ref h), (1, .int (nI vb)), (2, .int (nI vg)), (3, .int (nI vt))] 12 [.int (nI 1)]
  refine gk_if_eq (tgt := 36) G dX2_bring_12 (by decide) (fun c_12 => ?_) (fun c_12 => ?_)
  · replace c_12 := (nI_eq (a := 1) (b := 0) (by omega) (by omega)).mp c_12
    exact absurd c_12 (by decide)
  · replace c_12 := (not_congr (nI_eq (a := 1) (b := 0) (by omega) (by omega))).mp c_12
    refine gk_iload_n G dX2_bring_15 2 rfl ?_
    refine gk_iconst (v := nI 1) G dX2_bring_16 (by decide) ?_
    refine gk_bipush (v := nI 60) G dX2_bring_17 (by decide) ?_
    refine gk_callIS (wc := []) (wr := (gd_W cI h q F2 B f kp g)) (isC := []) (isR := [0, 1, 2, 3, 4, 5, 6, 7]) G (c2_isIn l D cI cZ cJ (nI vg) (nI 1) (nI 60)) gX2_bring_X2_isIn rfl 3 (by decide +kernel) rfl rfl ⟨(Nat.le_of_ble_eq_true rfl), (Nat.le_of_ble_eq_true rfl)⟩ rfl gk_ok0 trivial rfl (by decide) rfl (by decide) (by decide) rfl (Nat.le_of_ble_eq_true rfl) dX2_bring_19 ⟨(Nat.le_of_ble_eq_true rfl), (Nat.le_of_ble_eq_true rfl)⟩ (fun r19 u19 hp19 => ?_)
    obtain rfl : r19 = nI 1 := (hp19.trans (gm_b1 (gm_in1 (by omega) (by omega) (by decide))))
    show gk_C p l e ({ frames := 1, cells := 0, slots := 0, locals := 23 } : Room) s m ([.ref h, .int (nI vb), .int (nI vg), .int (nI vt)] : List Value).toArray below meth c 4 D A Q 0 0 (gd_W cI h q F2 B f kp g) [(0, .ref h), (1, .int (nI vb)), (2, .int (nI vg)), (3, .int (nI vt))] 22 [.int (nI 1)]
    refine gk_if_eq (tgt := 36) G dX2_bring_22 (by decide) (fun c_22 => ?_) (fun c_22 => ?_)
    · replace c_22 := (nI_eq (a := 1) (b := 0) (by omega) (by omega)).mp c_22
      exact absurd c_22 (by decide)
    · replace c_22 := (not_congr (nI_eq (a := 1) (b := 0) (by omega) (by omega))).mp c_22
      refine gk_iload_n G dX2_bring_25 3 rfl ?_
      refine gk_iconst (v := nI 1) G dX2_bring_26 (by decide) ?_
      refine gk_sipush (v := nI 200) G dX2_bring_27 (by decide) ?_
      refine gk_callIS (wc := []) (wr := (gd_W cI h q F2 B f kp g)) (isC := []) (isR := [0, 1, 2, 3, 4, 5, 6, 7]) G (c2_isIn l D cI cZ cJ (nI vt) (nI 1) (nI 200)) gX2_bring_X2_isIn rfl 3 (by decide +kernel) rfl rfl ⟨(Nat.le_of_ble_eq_true rfl), (Nat.le_of_ble_eq_true rfl)⟩ rfl gk_ok0 trivial rfl (by decide) rfl (by decide) (by decide) rfl (Nat.le_of_ble_eq_true rfl) dX2_bring_30 ⟨(Nat.le_of_ble_eq_true rfl), (Nat.le_of_ble_eq_true rfl)⟩ (fun r30 u30 hp30 => ?_)
      obtain rfl : r30 = nI 1 := (hp30.trans (gm_b1 (gm_in1 (by omega) (by omega) (by decide))))
      show gk_C p l e ({ frames := 1, cells := 0, slots := 0, locals := 23 } : Room) s m ([.ref h, .int (nI vb), .int (nI vg), .int (nI vt)] : List Value).toArray below meth c 4 D A Q 0 0 (gd_W cI h q F2 B f kp g) [(0, .ref h), (1, .int (nI vb)), (2, .int (nI vg)), (3, .int (nI vt))] 33 [.int (nI 1)]
      refine gk_if_ne (tgt := 42) G dX2_bring_33 (by decide) (fun c_33 => ?_) (fun c_33 => ?_)
      · replace c_33 := (not_congr (nI_eq (a := 1) (b := 0) (by omega) (by omega))).mp c_33
        refine gk_aload_n G dX2_bring_42 0 rfl ?_
        refine gk_get (v' := .int (nI (M 11 0))) G hinX2 (q0 := 0) rfl rfl 6 (by decide) k42 rfl (congrArg Value.int (hsT.2.2.2.1)) dX2_bring_43 ?_
        refine gk_bipush (v := nI 16) G dX2_bring_46 (by decide) ?_
        refine gk_icmp_ne (tgt := 57) G dX2_bring_48 (by decide) (fun c_48 => ?_) (fun c_48 => ?_)
        · replace c_48 := (not_congr (nI_eq (a := M 11 0) (b := 16) (by omega) (by omega))).mp c_48
          refine gk_aload_n G dX2_bring_57 0 rfl ?_
          refine gk_iload_n G dX2_bring_58 1 rfl ?_
          refine gk_iload_n G dX2_bring_59 2 rfl ?_
          refine gk_iload_n G dX2_bring_60 3 rfl ?_
          refine gk_callVV (wr := []) G (c2_put l D cI cZ cJ h q F2 B f kp g M vb vg vt wf hsT hn h16) gX2_bring_X2_put rfl 3 (by decide +kernel) rfl rfl ⟨(Nat.le_of_ble_eq_true rfl), (Nat.le_of_ble_eq_true rfl)⟩ rfl (q0 := 0) rfl (T := TX2) (N := 12) rfl gk_ok0 trivial [0, 1, 2, 3, 4, 5, 6, 7] rfl (by decide) [] rfl (by decide) (by decide) rfl (Nat.le_of_ble_eq_true rfl) dX2_bring_61 ⟨(Nat.le_of_ble_eq_true rfl), (Nat.le_of_ble_eq_true rfl)⟩ (fun u61 hp61 => ?_)
          obtain ⟨F61, B61, f61, kp61, g61⟩ := u61
          have hs61 : gr_st F61 B61 (gm_add M vb vg vt) := hp61.1
          have hn61 : gr_now f61 (gm_add M vb vg vt) := hp61.2.1
          have hT61 : F61 0 = nI 0 := hp61.2.2.1.trans hT
          have e11 : gm_add M vb vg vt 11 0 = M 11 0 + 1 := gm_add_11 M vb vg vt
          show gk_C p l e ({ frames := 1, cells := 0, slots := 0, locals := 23 } : Room) s m ([.ref h, .int (nI vb), .int (nI vg), .int (nI vt)] : List Value).toArray below meth c 4 D A Q 0 0 (gd_W cI h q F61 B61 f61 kp61 g61) [(0, .ref h), (1, .int (nI vb)), (2, .int (nI vg)), (3, .int (nI vt))] 64 []
          refine gk_aload_n G dX2_bring_64 0 rfl ?_
          refine gk_get (v' := .int (nI ((gm_add M vb vg vt) 11 0))) G hinX2 (q0 := 0) rfl rfl 6 (by decide) k42 rfl (congrArg Value.int (hs61.2.2.2.1)) dX2_bring_65 ?_
          refine gk_iconst (v := nI 1) G dX2_bring_68 (by decide) ?_
          refine gk_isub (v := nI (M 11 0)) G dX2_bring_69 (by rw [e11, pk_sub (by omega), Nat.add_sub_cancel]) ?_
          exact RET _ _ _ _ _ _ (F61, B61, f61, kp61, g61) dX2_bring_70 rfl ⟨rfl, hs61, hn61, hT61⟩ rfl (Nat.le_of_ble_eq_true rfl) (Nat.le_of_ble_eq_true rfl)
        · replace c_48 := (nI_eq (a := M 11 0) (b := 16) (by omega) (by omega)).mp c_48
          exact absurd c_48 (by omega)
      · replace c_33 := (nI_eq (a := 1) (b := 0) (by omega) (by omega)).mp c_33
        exact absurd c_33 (by decide)
set_option maxRecDepth 100000 in
set_option maxHeartbeats 1000000 in
theorem c2_lift_no (l : Launch) (D : va_G) (cI cZ cJ : ClassId) (h : Nat) (q : Nat → Nat) (F : Nat → Int32) (B : Nat → Nat → Int32) (f kp g : Nat → Int32) (M : gm_M) (p0 : Int32) (wf : gm_wf M) (hs : gr_st F B M) (hn : gr_now f M) (hb : ¬ gm_rg p0 0 (M 11 0)) : gk_I l yX2_lift wsX2_lift ({ frames := 2, cells := 0, slots := 0, locals := 43 } : Room) D (g_T cI cZ cJ) gk_E0 [.ref h, .int p0] (gd_W cI h q F B f kp g) 0 0 (fun (r : Int32) (u : gd_U) => r = nI 0 ∧ gd_R u M 1) (fun u => (gd_X cI h q u)) := by
  refine gk_I_of (ty := .int) (cc := cX2_lift) (nL := 3) (by decide +kernel) rfl (Nat.le_of_ble_eq_true rfl) ?_
  intro p e s m below meth c A Q hnm hE G RET
  obtain ⟨hz1, hz2, hz3, hz4, hz5, hz6, hz7, hz8⟩ := id wf
  have hinX2 : ∀ w ∈ wsX20, w ∈ wsX2_lift := fun w h9 => (List.mem_cons_of_mem _ (List.mem_append_right _ h9))
  have k31 := G.2.2.2.2.1 (.fieldLink RX2 31 "GustMillModel" "thrown" "I") (List.mem_cons_of_mem _ (List.mem_append_left _ (List.mem_of_getElem? (i := 0) rfl)))
  refine gk_aload_n G dX2_lift_0 0 rfl ?_
  refine gk_iconst (v := nI 0) G dX2_lift_1 (by decide) ?_
  refine gk_topi (fun v2 ev2 => ?_)
  refine gk_put (w' := (gd_W cI h q (upd F 0 v2) B f kp g)) G hinX2 tyX2_ok nmX2 (q0 := 0) rfl rfl 0 (by decide) k31 rfl rfl rfl (Nat.le_of_ble_eq_true rfl) rfl dX2_lift_2 ?_
  generalize eF2 : upd F 0 v2 = F2
  have hsT : gr_st F2 B M := by rw [← eF2]; exact gr_st_0 hs
  have hT : F2 0 = nI 0 := by rw [← eF2, pk_us]; exact ev2
  refine gk_aload_n G dX2_lift_5 0 rfl ?_
  refine gk_iload_n G dX2_lift_6 1 rfl ?_
  refine gk_callIV (wr := []) G (c2_isSack_no l D cI cZ cJ h q F2 B f kp g M p0 wf hsT hb) gX2_lift_X2_isSack rfl 1 (by decide +kernel) rfl rfl ⟨(Nat.le_of_ble_eq_true rfl), (Nat.le_of_ble_eq_true rfl)⟩ rfl (q0 := 0) rfl (T := TX2) (N := 12) rfl gk_ok0 trivial [0, 1, 2, 3, 4, 5, 6, 7] rfl (by decide) [] rfl (by decide) (by decide) rfl (Nat.le_of_ble_eq_true rfl) dX2_lift_7 ⟨(Nat.le_of_ble_eq_true rfl), (Nat.le_of_ble_eq_true rfl)⟩ (fun r7 u7 hp7 => ?_)
  obtain rfl : r7 = nI 0 := hp7
  show gk_C p l e ({ frames := 2, cells := 0, slots := 0, locals := 43 } : Room) s m ([.ref h, .int p0] : List Value).toArray below meth c 3 D A Q 0 0 (gd_W cI h q F2 B f kp g) [(0, .ref h), (1, .int p0)] 10 [.int (nI 0)]
  refine gk_if_ne (tgt := 19) G dX2_lift_10 (by decide) (fun c_10 => ?_) (fun c_10 => ?_)
  · replace c_10 := (not_congr (nI_eq (a := 0) (b := 0) (by omega) (by omega))).mp c_10
    exact absurd c_10 (by decide)
  · replace c_10 := (nI_eq (a := 0) (b := 0) (by omega) (by omega)).mp c_10
    refine gk_aload_n G dX2_lift_13 0 rfl ?_
    refine gk_iconst (v := nI 1) G dX2_lift_14 (by decide) ?_
    refine gk_callIV (wr := []) G (c2_fail l D cI cZ cJ h q F2 B f kp g M (nI 1)) gX2_lift_X2_fail rfl 1 (by decide +kernel) rfl rfl ⟨(Nat.le_of_ble_eq_true rfl), (Nat.le_of_ble_eq_true rfl)⟩ rfl (q0 := 0) rfl (T := TX2) (N := 12) rfl gk_ok0 trivial [0, 1, 2, 3, 4, 5, 6, 7] rfl (by decide) [] rfl (by decide) (by decide) rfl (Nat.le_of_ble_eq_true rfl) dX2_lift_15 ⟨(Nat.le_of_ble_eq_true rfl), (Nat.le_of_ble_eq_true rfl)⟩ (fun r15 u15 hp15 => ?_)
    obtain rfl : r15 = nI 0 := hp15.1
    have hF15 : u15 = upd F2 0 (nI 1) := hp15.2
    have hs15 : gr_st u15 B M := by rw [hF15]; exact gr_st_0 hsT
    have hT15 : u15 0 = nI 1 := by rw [hF15, pk_us]
    show gk_C p l e ({ frames := 2, cells := 0, slots := 0, locals := 43 } : Room) s m ([.ref h, .int p0] : List Value).toArray below meth c 3 D A Q 0 0 (gd_W cI h q u15 B f kp g) [(0, .ref h), (1, .int p0)] 18 [.int (nI 0)]
    exact RET _ _ _ _ _ _ (u15, B, f, kp, g) dX2_lift_18 rfl ⟨rfl, hs15, hn, hT15⟩ rfl (Nat.le_of_ble_eq_true rfl) (Nat.le_of_ble_eq_true rfl)
set_option maxRecDepth 100000 in
set_option maxHeartbeats 1000000 in
theorem c2_lift_none (l : Launch) (D : va_G) (cI cZ cJ : ClassId) (h : Nat) (q : Nat → Nat) (F : Nat → Int32) (B : Nat → Nat → Int32) (f kp g : Nat → Int32) (M : gm_M) (v : Nat) (wf : gm_wf M) (hs : gr_st F B M) (hn : gr_now f M) (hv : v < M 11 0) (h0 : M 7 v = 0) : gk_I l yX2_lift wsX2_lift ({ frames := 2, cells := 0, slots := 0, locals := 43 } : Room) D (g_T cI cZ cJ) gk_E0 [.ref h, .int (nI v)] (gd_W cI h q F B f kp g) 0 0 (fun (r : Int32) (u : gd_U) => r = nI 0 ∧ gd_R u M 2) (fun u => (gd_X cI h q u)) := by
  refine gk_I_of (ty := .int) (cc := cX2_lift) (nL := 3) (by decide +kernel) rfl (Nat.le_of_ble_eq_true rfl) ?_
  intro p e s m below meth c A Q hnm hE G RET
  obtain ⟨hz1, hz2, hz3, hz4, hz5, hz6, hz7, hz8⟩ := id wf
  have hv7 := hz7 v hv
  have hinX2 : ∀ w ∈ wsX20, w ∈ wsX2_lift := fun w h9 => (List.mem_cons_of_mem _ (List.mem_append_right _ h9))
  have k22 := G.2.2.2.2.1 (.fieldLink RX2 22 "GustMillModel" "now" "[I") (List.mem_cons_of_mem _ (List.mem_append_left _ (List.mem_of_getElem? (i := 1) rfl)))
  have k31 := G.2.2.2.2.1 (.fieldLink RX2 31 "GustMillModel" "thrown" "I") (List.mem_cons_of_mem _ (List.mem_append_left _ (List.mem_of_getElem? (i := 0) rfl)))
  refine gk_aload_n G dX2_lift_0 0 rfl ?_
  refine gk_iconst (v := nI 0) G dX2_lift_1 (by decide) ?_
  refine gk_topi (fun v2 ev2 => ?_)
  refine gk_put (w' := (gd_W cI h q (upd F 0 v2) B f kp g)) G hinX2 tyX2_ok nmX2 (q0 := 0) rfl rfl 0 (by decide) k31 rfl rfl rfl (Nat.le_of_ble_eq_true rfl) rfl dX2_lift_2 ?_
  generalize eF2 : upd F 0 v2 = F2
  have hsT : gr_st F2 B M := by rw [← eF2]; exact gr_st_0 hs
  have hT : F2 0 = nI 0 := by rw [← eF2, pk_us]; exact ev2
  refine gk_aload_n G dX2_lift_5 0 rfl ?_
  refine gk_iload_n G dX2_lift_6 1 rfl ?_
  refine gk_callIV (wr := []) G (c2_isSack_ok l D cI cZ cJ h q F2 B f kp g M v wf hsT (by omega)) gX2_lift_X2_isSack rfl 1 (by decide +kernel) rfl rfl ⟨(Nat.le_of_ble_eq_true rfl), (Nat.le_of_ble_eq_true rfl)⟩ rfl (q0 := 0) rfl (T := TX2) (N := 12) rfl gk_ok0 trivial [0, 1, 2, 3, 4, 5, 6, 7] rfl (by decide) [] rfl (by decide) (by decide) rfl (Nat.le_of_ble_eq_true rfl) dX2_lift_7 ⟨(Nat.le_of_ble_eq_true rfl), (Nat.le_of_ble_eq_true rfl)⟩ (fun r7 u7 hp7 => ?_)
  obtain rfl : r7 = nI 1 := hp7
  show gk_C p l e ({ frames := 2, cells := 0, slots := 0, locals := 43 } : Room) s m ([.ref h, .int (nI v)] : List Value).toArray below meth c 3 D A Q 0 0 (gd_W cI h q F2 B f kp g) [(0, .ref h), (1, .int (nI v))] 10 [.int (nI 1)]
  refine gk_if_ne (tgt := 19) G dX2_lift_10 (by decide) (fun c_10 => ?_) (fun c_10 => ?_)
  · replace c_10 := (not_congr (nI_eq (a := 1) (b := 0) (by omega) (by omega))).mp c_10
    refine gk_aload_n G dX2_lift_19 0 rfl ?_
    refine gk_get (v' := .ref (q 9)) G hinX2 (q0 := 0) rfl rfl 9 (by decide) k22 rfl rfl dX2_lift_20 ?_
    refine gk_bipush (v := nI 35) G dX2_lift_23 (by decide) ?_
    refine gk_iload_n G dX2_lift_25 1 rfl ?_
    refine gk_iadd (v := nI (35 + v)) G dX2_lift_26 (nI_add 35 v) ?_
    refine gk_iald (v := gm_e (M 7 v)) G (q0 := 5) (t0 := 0) rfl rfl (35 + v) rfl (by omega) (by decide) (hn.2.2.2.2.2 v (by omega)) dX2_lift_27 ?_
    refine gk_istore_n (lv' := [(2, .int (gm_e (M 7 v))), (0, .ref h), (1, .int (nI v))]) G dX2_lift_28 rfl (by decide) rfl ?_
    refine gk_iload_n G dX2_lift_29 0 rfl ?_
    refine gk_iconst (v := -1) G dX2_lift_30 (by decide) ?_
    refine gk_icmp_ne (tgt := 40) G dX2_lift_31 (by decide) (fun c_31 => ?_) (fun c_31 => ?_)
    · replace c_31 := (not_congr (gm_e_none (a := M 7 v) (by omega))).mp c_31
      exact absurd h0 c_31
    · replace c_31 := (gm_e_none (a := M 7 v) (by omega)).mp c_31
      refine gk_aload_n G dX2_lift_34 1 rfl ?_
      refine gk_iconst (v := nI 2) G dX2_lift_35 (by decide) ?_
      refine gk_callIV (wr := []) G (c2_fail l D cI cZ cJ h q F2 B f kp g M (nI 2)) gX2_lift_X2_fail rfl 1 (by decide +kernel) rfl rfl ⟨(Nat.le_of_ble_eq_true rfl), (Nat.le_of_ble_eq_true rfl)⟩ rfl (q0 := 0) rfl (T := TX2) (N := 12) rfl gk_ok0 trivial [0, 1, 2, 3, 4, 5, 6, 7] rfl (by decide) [] rfl (by decide) (by decide) rfl (Nat.le_of_ble_eq_true rfl) dX2_lift_36 ⟨(Nat.le_of_ble_eq_true rfl), (Nat.le_of_ble_eq_true rfl)⟩ (fun r36 u36 hp36 => ?_)
      obtain rfl : r36 = nI 0 := hp36.1
      have hF36 : u36 = upd F2 0 (nI 2) := hp36.2
      have hs36 : gr_st u36 B M := by rw [hF36]; exact gr_st_0 hsT
      have hT36 : u36 0 = nI 2 := by rw [hF36, pk_us]
      show gk_C p l e ({ frames := 2, cells := 0, slots := 0, locals := 43 } : Room) s m ([.ref h, .int (nI v)] : List Value).toArray below meth c 3 D A Q 0 0 (gd_W cI h q u36 B f kp g) [(2, .int (gm_e (M 7 v))), (0, .ref h), (1, .int (nI v))] 39 [.int (nI 0)]
      exact RET _ _ _ _ _ _ (u36, B, f, kp, g) dX2_lift_39 rfl ⟨rfl, hs36, hn, hT36⟩ rfl (Nat.le_of_ble_eq_true rfl) (Nat.le_of_ble_eq_true rfl)
  · replace c_10 := (nI_eq (a := 1) (b := 0) (by omega) (by omega)).mp c_10
    exact absurd c_10 (by decide)
set_option maxRecDepth 100000 in
set_option maxHeartbeats 1000000 in
theorem c2_lift_ok (l : Launch) (D : va_G) (cI cZ cJ : ClassId) (h : Nat) (q : Nat → Nat) (F : Nat → Int32) (B : Nat → Nat → Int32) (f kp g : Nat → Int32) (M : gm_M) (v : Nat) (wf : gm_wf M) (hs : gr_st F B M) (hn : gr_now f M) (hv : v < M 11 0) (h0 : M 7 v ≠ 0) : gk_I l yX2_lift wsX2_lift ({ frames := 2, cells := 0, slots := 0, locals := 43 } : Room) D (g_T cI cZ cJ) gk_E0 [.ref h, .int (nI v)] (gd_W cI h q F B f kp g) 0 0 (fun (r : Int32) (u : gd_U) => r = gm_e (M 7 v) ∧ gd_R u (gm_set M 7 v 0) 0) (fun u => (gd_X cI h q u)) := by
  refine gk_I_of (ty := .int) (cc := cX2_lift) (nL := 3) (by decide +kernel) rfl (Nat.le_of_ble_eq_true rfl) ?_
  intro p e s m below meth c A Q hnm hE G RET
  obtain ⟨hz1, hz2, hz3, hz4, hz5, hz6, hz7, hz8⟩ := id wf
  have hv7 := hz7 v hv
  have hinX2 : ∀ w ∈ wsX20, w ∈ wsX2_lift := fun w h9 => (List.mem_cons_of_mem _ (List.mem_append_right _ h9))
  have k22 := G.2.2.2.2.1 (.fieldLink RX2 22 "GustMillModel" "now" "[I") (List.mem_cons_of_mem _ (List.mem_append_left _ (List.mem_of_getElem? (i := 1) rfl)))
  have k31 := G.2.2.2.2.1 (.fieldLink RX2 31 "GustMillModel" "thrown" "I") (List.mem_cons_of_mem _ (List.mem_append_left _ (List.mem_of_getElem? (i := 0) rfl)))
  refine gk_aload_n G dX2_lift_0 0 rfl ?_
  refine gk_iconst (v := nI 0) G dX2_lift_1 (by decide) ?_
  refine gk_topi (fun v2 ev2 => ?_)
  refine gk_put (w' := (gd_W cI h q (upd F 0 v2) B f kp g)) G hinX2 tyX2_ok nmX2 (q0 := 0) rfl rfl 0 (by decide) k31 rfl rfl rfl (Nat.le_of_ble_eq_true rfl) rfl dX2_lift_2 ?_
  generalize eF2 : upd F 0 v2 = F2
  have hsT : gr_st F2 B M := by rw [← eF2]; exact gr_st_0 hs
  have hT : F2 0 = nI 0 := by rw [← eF2, pk_us]; exact ev2
  refine gk_aload_n G dX2_lift_5 0 rfl ?_
  refine gk_iload_n G dX2_lift_6 1 rfl ?_
  refine gk_callIV (wr := []) G (c2_isSack_ok l D cI cZ cJ h q F2 B f kp g M v wf hsT (by omega)) gX2_lift_X2_isSack rfl 1 (by decide +kernel) rfl rfl ⟨(Nat.le_of_ble_eq_true rfl), (Nat.le_of_ble_eq_true rfl)⟩ rfl (q0 := 0) rfl (T := TX2) (N := 12) rfl gk_ok0 trivial [0, 1, 2, 3, 4, 5, 6, 7] rfl (by decide) [] rfl (by decide) (by decide) rfl (Nat.le_of_ble_eq_true rfl) dX2_lift_7 ⟨(Nat.le_of_ble_eq_true rfl), (Nat.le_of_ble_eq_true rfl)⟩ (fun r7 u7 hp7 => ?_)
  obtain rfl : r7 = nI 1 := hp7
  show gk_C p l e ({ frames := 2, cells := 0, slots := 0, locals := 43 } : Room) s m ([.ref h, .int (nI v)] : List Value).toArray below meth c 3 D A Q 0 0 (gd_W cI h q F2 B f kp g) [(0, .ref h), (1, .int (nI v))] 10 [.int (nI 1)]
  refine gk_if_ne (tgt := 19) G dX2_lift_10 (by decide) (fun c_10 => ?_) (fun c_10 => ?_)
  · replace c_10 := (not_congr (nI_eq (a := 1) (b := 0) (by omega) (by omega))).mp c_10
    refine gk_aload_n G dX2_lift_19 0 rfl ?_
    refine gk_get (v' := .ref (q 9)) G hinX2 (q0 := 0) rfl rfl 9 (by decide) k22 rfl rfl dX2_lift_20 ?_
    refine gk_bipush (v := nI 35) G dX2_lift_23 (by decide) ?_
    refine gk_iload_n G dX2_lift_25 1 rfl ?_
    refine gk_iadd (v := nI (35 + v)) G dX2_lift_26 (nI_add 35 v) ?_
    refine gk_iald (v := gm_e (M 7 v)) G (q0 := 5) (t0 := 0) rfl rfl (35 + v) rfl (by omega) (by decide) (hn.2.2.2.2.2 v (by omega)) dX2_lift_27 ?_
    refine gk_istore_n (lv' := [(2, .int (gm_e (M 7 v))), (0, .ref h), (1, .int (nI v))]) G dX2_lift_28 rfl (by decide) rfl ?_
    refine gk_iload_n G dX2_lift_29 0 rfl ?_
    refine gk_iconst (v := -1) G dX2_lift_30 (by decide) ?_
    refine gk_icmp_ne (tgt := 40) G dX2_lift_31 (by decide) (fun c_31 => ?_) (fun c_31 => ?_)
    · replace c_31 := (not_congr (gm_e_none (a := M 7 v) (by omega))).mp c_31
      refine gk_aload_n G dX2_lift_40 1 rfl ?_
      refine gk_get (v' := .ref (q 9)) G hinX2 (q0 := 0) rfl rfl 9 (by decide) k22 rfl rfl dX2_lift_41 ?_
      refine gk_bipush (v := nI 35) G dX2_lift_44 (by decide) ?_
      refine gk_iload_n G dX2_lift_46 2 rfl ?_
      refine gk_iadd (v := nI (35 + v)) G dX2_lift_47 (nI_add 35 v) ?_
      refine gk_iconst (v := -1) G dX2_lift_48 (by decide) ?_
      refine gk_topi (fun v49 ev49 => ?_)
      refine gk_iast (w' := (gd_W cI h q F2 B (upd f (35 + v) v49) kp g)) G (q0 := 5) (t0 := 0) rfl rfl (35 + v) rfl (by omega) (by decide) rfl dX2_lift_49 ?_
      generalize ef49 : upd f (35 + v) v49 = f49
      refine gk_iload_n G dX2_lift_50 0 rfl ?_
      exact RET _ _ _ _ _ _ (F2, B, f49, kp, g) dX2_lift_51 rfl (by subst ef49; subst ev49; exact ⟨rfl, gr_st_7 hsT, gr_now_7 hn hz2 hv gm_e0.symm, hT⟩) rfl (Nat.le_of_ble_eq_true rfl) (Nat.le_of_ble_eq_true rfl)
    · replace c_31 := (gm_e_none (a := M 7 v) (by omega)).mp c_31
      exact absurd c_31 h0
  · replace c_10 := (nI_eq (a := 1) (b := 0) (by omega) (by omega)).mp c_10
    exact absurd c_10 (by decide)
set_option maxRecDepth 100000 in
set_option maxHeartbeats 1000000 in
theorem c2_setUntil_no (l : Launch) (D : va_G) (cI cZ cJ : ClassId) (h : Nat) (q : Nat → Nat) (F : Nat → Int32) (B : Nat → Nat → Int32) (f kp g : Nat → Int32) (M : gm_M) (p0 p1 : Int32) (wf : gm_wf M) (hs : gr_st F B M) (hn : gr_now f M) (hb : ¬ gm_rg p0 0 (M 11 0)) : gk_I l yX2_setUntil wsX2_setUntil ({ frames := 2, cells := 0, slots := 0, locals := 43 } : Room) D (g_T cI cZ cJ) gk_E0 [.ref h, .int p0, .int p1] (gd_W cI h q F B f kp g) 0 0 (fun (r : Int32) (u : gd_U) => r = nI 0 ∧ gd_R u M 1) (fun u => (gd_X cI h q u)) := by
  refine gk_I_of (ty := .int) (cc := cX2_setUntil) (nL := 4) (by decide +kernel) rfl (Nat.le_of_ble_eq_true rfl) ?_
  intro p e s m below meth c A Q hnm hE G RET
  obtain ⟨hz1, hz2, hz3, hz4, hz5, hz6, hz7, hz8⟩ := id wf
  have hinX2 : ∀ w ∈ wsX20, w ∈ wsX2_setUntil := fun w h9 => (List.mem_cons_of_mem _ (List.mem_append_right _ h9))
  have k31 := G.2.2.2.2.1 (.fieldLink RX2 31 "GustMillModel" "thrown" "I") (List.mem_cons_of_mem _ (List.mem_append_left _ (List.mem_of_getElem? (i := 0) rfl)))
  refine gk_aload_n G dX2_setUntil_0 0 rfl ?_
  refine gk_iconst (v := nI 0) G dX2_setUntil_1 (by decide) ?_
  refine gk_topi (fun v2 ev2 => ?_)
  refine gk_put (w' := (gd_W cI h q (upd F 0 v2) B f kp g)) G hinX2 tyX2_ok nmX2 (q0 := 0) rfl rfl 0 (by decide) k31 rfl rfl rfl (Nat.le_of_ble_eq_true rfl) rfl dX2_setUntil_2 ?_
  generalize eF2 : upd F 0 v2 = F2
  have hsT : gr_st F2 B M := by rw [← eF2]; exact gr_st_0 hs
  have hT : F2 0 = nI 0 := by rw [← eF2, pk_us]; exact ev2
  refine gk_aload_n G dX2_setUntil_5 0 rfl ?_
  refine gk_iload_n G dX2_setUntil_6 1 rfl ?_
  refine gk_callIV (wr := []) G (c2_isSack_no l D cI cZ cJ h q F2 B f kp g M p0 wf hsT hb) gX2_setUntil_X2_isSack rfl 1 (by decide +kernel) rfl rfl ⟨(Nat.le_of_ble_eq_true rfl), (Nat.le_of_ble_eq_true rfl)⟩ rfl (q0 := 0) rfl (T := TX2) (N := 12) rfl gk_ok0 trivial [0, 1, 2, 3, 4, 5, 6, 7] rfl (by decide) [] rfl (by decide) (by decide) rfl (Nat.le_of_ble_eq_true rfl) dX2_setUntil_7 ⟨(Nat.le_of_ble_eq_true rfl), (Nat.le_of_ble_eq_true rfl)⟩ (fun r7 u7 hp7 => ?_)
  obtain rfl : r7 = nI 0 := hp7
  show gk_C p l e ({ frames := 2, cells := 0, slots := 0, locals := 43 } : Room) s m ([.ref h, .int p0, .int p1] : List Value).toArray below meth c 4 D A Q 0 0 (gd_W cI h q F2 B f kp g) [(0, .ref h), (1, .int p0), (2, .int p1)] 10 [.int (nI 0)]
  refine gk_if_ne (tgt := 19) G dX2_setUntil_10 (by decide) (fun c_10 => ?_) (fun c_10 => ?_)
  · replace c_10 := (not_congr (nI_eq (a := 0) (b := 0) (by omega) (by omega))).mp c_10
    exact absurd c_10 (by decide)
  · replace c_10 := (nI_eq (a := 0) (b := 0) (by omega) (by omega)).mp c_10
    refine gk_aload_n G dX2_setUntil_13 0 rfl ?_
    refine gk_iconst (v := nI 1) G dX2_setUntil_14 (by decide) ?_
    refine gk_callIV (wr := []) G (c2_fail l D cI cZ cJ h q F2 B f kp g M (nI 1)) gX2_setUntil_X2_fail rfl 1 (by decide +kernel) rfl rfl ⟨(Nat.le_of_ble_eq_true rfl), (Nat.le_of_ble_eq_true rfl)⟩ rfl (q0 := 0) rfl (T := TX2) (N := 12) rfl gk_ok0 trivial [0, 1, 2, 3, 4, 5, 6, 7] rfl (by decide) [] rfl (by decide) (by decide) rfl (Nat.le_of_ble_eq_true rfl) dX2_setUntil_15 ⟨(Nat.le_of_ble_eq_true rfl), (Nat.le_of_ble_eq_true rfl)⟩ (fun r15 u15 hp15 => ?_)
    obtain rfl : r15 = nI 0 := hp15.1
    have hF15 : u15 = upd F2 0 (nI 1) := hp15.2
    have hs15 : gr_st u15 B M := by rw [hF15]; exact gr_st_0 hsT
    have hT15 : u15 0 = nI 1 := by rw [hF15, pk_us]
    show gk_C p l e ({ frames := 2, cells := 0, slots := 0, locals := 43 } : Room) s m ([.ref h, .int p0, .int p1] : List Value).toArray below meth c 4 D A Q 0 0 (gd_W cI h q u15 B f kp g) [(0, .ref h), (1, .int p0), (2, .int p1)] 18 [.int (nI 0)]
    exact RET _ _ _ _ _ _ (u15, B, f, kp, g) dX2_setUntil_18 rfl ⟨rfl, hs15, hn, hT15⟩ rfl (Nat.le_of_ble_eq_true rfl) (Nat.le_of_ble_eq_true rfl)
set_option maxRecDepth 100000 in
set_option maxHeartbeats 1000000 in
theorem c2_setUntil_no2 (l : Launch) (D : va_G) (cI cZ cJ : ClassId) (h : Nat) (q : Nat → Nat) (F : Nat → Int32) (B : Nat → Nat → Int32) (f kp g : Nat → Int32) (M : gm_M) (v : Nat) (p1 : Int32) (wf : gm_wf M) (hs : gr_st F B M) (hn : gr_now f M) (hv : v < M 11 0) (hb : ¬ gm_rg p1 1 201) : gk_I l yX2_setUntil wsX2_setUntil ({ frames := 2, cells := 0, slots := 0, locals := 43 } : Room) D (g_T cI cZ cJ) gk_E0 [.ref h, .int (nI v), .int p1] (gd_W cI h q F B f kp g) 0 0 (fun (r : Int32) (u : gd_U) => r = nI 0 ∧ gd_R u M 2) (fun u => (gd_X cI h q u)) := by
  refine gk_I_of (ty := .int) (cc := cX2_setUntil) (nL := 4) (by decide +kernel) rfl (Nat.le_of_ble_eq_true rfl) ?_
  intro p e s m below meth c A Q hnm hE G RET
  obtain ⟨hz1, hz2, hz3, hz4, hz5, hz6, hz7, hz8⟩ := id wf
  have hinX2 : ∀ w ∈ wsX20, w ∈ wsX2_setUntil := fun w h9 => (List.mem_cons_of_mem _ (List.mem_append_right _ h9))
  have k31 := G.2.2.2.2.1 (.fieldLink RX2 31 "GustMillModel" "thrown" "I") (List.mem_cons_of_mem _ (List.mem_append_left _ (List.mem_of_getElem? (i := 0) rfl)))
  refine gk_aload_n G dX2_setUntil_0 0 rfl ?_
  refine gk_iconst (v := nI 0) G dX2_setUntil_1 (by decide) ?_
  refine gk_topi (fun v2 ev2 => ?_)
  refine gk_put (w' := (gd_W cI h q (upd F 0 v2) B f kp g)) G hinX2 tyX2_ok nmX2 (q0 := 0) rfl rfl 0 (by decide) k31 rfl rfl rfl (Nat.le_of_ble_eq_true rfl) rfl dX2_setUntil_2 ?_
  generalize eF2 : upd F 0 v2 = F2
  have hsT : gr_st F2 B M := by rw [← eF2]; exact gr_st_0 hs
  have hT : F2 0 = nI 0 := by rw [← eF2, pk_us]; exact ev2
  refine gk_aload_n G dX2_setUntil_5 0 rfl ?_
  refine gk_iload_n G dX2_setUntil_6 1 rfl ?_
  refine gk_callIV (wr := []) G (c2_isSack_ok l D cI cZ cJ h q F2 B f kp g M v wf hsT (by omega)) gX2_setUntil_X2_isSack rfl 1 (by decide +kernel) rfl rfl ⟨(Nat.le_of_ble_eq_true rfl), (Nat.le_of_ble_eq_true rfl)⟩ rfl (q0 := 0) rfl (T := TX2) (N := 12) rfl gk_ok0 trivial [0, 1, 2, 3, 4, 5, 6, 7] rfl (by decide) [] rfl (by decide) (by decide) rfl (Nat.le_of_ble_eq_true rfl) dX2_setUntil_7 ⟨(Nat.le_of_ble_eq_true rfl), (Nat.le_of_ble_eq_true rfl)⟩ (fun r7 u7 hp7 => ?_)
  obtain rfl : r7 = nI 1 := hp7
  show gk_C p l e ({ frames := 2, cells := 0, slots := 0, locals := 43 } : Room) s m ([.ref h, .int (nI v), .int p1] : List Value).toArray below meth c 4 D A Q 0 0 (gd_W cI h q F2 B f kp g) [(0, .ref h), (1, .int (nI v)), (2, .int p1)] 10 [.int (nI 1)]
  refine gk_if_ne (tgt := 19) G dX2_setUntil_10 (by decide) (fun c_10 => ?_) (fun c_10 => ?_)
  · replace c_10 := (not_congr (nI_eq (a := 1) (b := 0) (by omega) (by omega))).mp c_10
    refine gk_iload_n G dX2_setUntil_19 2 rfl ?_
    refine gk_iconst (v := nI 1) G dX2_setUntil_20 (by decide) ?_
    refine gk_sipush (v := nI 200) G dX2_setUntil_21 (by decide) ?_
    refine gk_callIS (wc := []) (wr := (gd_W cI h q F2 B f kp g)) (isC := []) (isR := [0, 1, 2, 3, 4, 5, 6, 7]) G (c2_isIn l D cI cZ cJ p1 (nI 1) (nI 200)) gX2_setUntil_X2_isIn rfl 3 (by decide +kernel) rfl rfl ⟨(Nat.le_of_ble_eq_true rfl), (Nat.le_of_ble_eq_true rfl)⟩ rfl gk_ok0 trivial rfl (by decide) rfl (by decide) (by decide) rfl (Nat.le_of_ble_eq_true rfl) dX2_setUntil_24 ⟨(Nat.le_of_ble_eq_true rfl), (Nat.le_of_ble_eq_true rfl)⟩ (fun r24 u24 hp24 => ?_)
    obtain rfl : r24 = nI 0 := (hp24.trans (gm_b0 (gm_in0 hb (by decide) (by decide))))
    show gk_C p l e ({ frames := 2, cells := 0, slots := 0, locals := 43 } : Room) s m ([.ref h, .int (nI v), .int p1] : List Value).toArray below meth c 4 D A Q 0 0 (gd_W cI h q F2 B f kp g) [(0, .ref h), (1, .int (nI v)), (2, .int p1)] 27 [.int (nI 0)]
    refine gk_if_ne (tgt := 36) G dX2_setUntil_27 (by decide) (fun c_27 => ?_) (fun c_27 => ?_)
    · replace c_27 := (not_congr (nI_eq (a := 0) (b := 0) (by omega) (by omega))).mp c_27
      exact absurd c_27 (by decide)
    · replace c_27 := (nI_eq (a := 0) (b := 0) (by omega) (by omega)).mp c_27
      refine gk_aload_n G dX2_setUntil_30 0 rfl ?_
      refine gk_iconst (v := nI 2) G dX2_setUntil_31 (by decide) ?_
      refine gk_callIV (wr := []) G (c2_fail l D cI cZ cJ h q F2 B f kp g M (nI 2)) gX2_setUntil_X2_fail rfl 1 (by decide +kernel) rfl rfl ⟨(Nat.le_of_ble_eq_true rfl), (Nat.le_of_ble_eq_true rfl)⟩ rfl (q0 := 0) rfl (T := TX2) (N := 12) rfl gk_ok0 trivial [0, 1, 2, 3, 4, 5, 6, 7] rfl (by decide) [] rfl (by decide) (by decide) rfl (Nat.le_of_ble_eq_true rfl) dX2_setUntil_32 ⟨(Nat.le_of_ble_eq_true rfl), (Nat.le_of_ble_eq_true rfl)⟩ (fun r32 u32 hp32 => ?_)
      obtain rfl : r32 = nI 0 := hp32.1
      have hF32 : u32 = upd F2 0 (nI 2) := hp32.2
      have hs32 : gr_st u32 B M := by rw [hF32]; exact gr_st_0 hsT
      have hT32 : u32 0 = nI 2 := by rw [hF32, pk_us]
      show gk_C p l e ({ frames := 2, cells := 0, slots := 0, locals := 43 } : Room) s m ([.ref h, .int (nI v), .int p1] : List Value).toArray below meth c 4 D A Q 0 0 (gd_W cI h q u32 B f kp g) [(0, .ref h), (1, .int (nI v)), (2, .int p1)] 35 [.int (nI 0)]
      exact RET _ _ _ _ _ _ (u32, B, f, kp, g) dX2_setUntil_35 rfl ⟨rfl, hs32, hn, hT32⟩ rfl (Nat.le_of_ble_eq_true rfl) (Nat.le_of_ble_eq_true rfl)
  · replace c_10 := (nI_eq (a := 1) (b := 0) (by omega) (by omega)).mp c_10
    exact absurd c_10 (by decide)
set_option maxRecDepth 100000 in
set_option maxHeartbeats 1000000 in
theorem c2_setUntil_ok (l : Launch) (D : va_G) (cI cZ cJ : ClassId) (h : Nat) (q : Nat → Nat) (F : Nat → Int32) (B : Nat → Nat → Int32) (f kp g : Nat → Int32) (M : gm_M) (v x : Nat) (wf : gm_wf M) (hs : gr_st F B M) (hn : gr_now f M) (hv : v < M 11 0) (h1 : 1 ≤ x) (h2 : x < 201) : gk_I l yX2_setUntil wsX2_setUntil ({ frames := 2, cells := 0, slots := 0, locals := 43 } : Room) D (g_T cI cZ cJ) gk_E0 [.ref h, .int (nI v), .int (nI x)] (gd_W cI h q F B f kp g) 0 0 (fun (r : Int32) (u : gd_U) => r = nI (M 6 v) ∧ gd_R u (gm_set M 6 v x) 0) (fun u => (gd_X cI h q u)) := by
  refine gk_I_of (ty := .int) (cc := cX2_setUntil) (nL := 4) (by decide +kernel) rfl (Nat.le_of_ble_eq_true rfl) ?_
  intro p e s m below meth c A Q hnm hE G RET
  obtain ⟨hz1, hz2, hz3, hz4, hz5, hz6, hz7, hz8⟩ := id wf
  have hinX2 : ∀ w ∈ wsX20, w ∈ wsX2_setUntil := fun w h9 => (List.mem_cons_of_mem _ (List.mem_append_right _ h9))
  have k19 := G.2.2.2.2.1 (.fieldLink RX2 19 "GustMillModel" "until" "[I") (List.mem_cons_of_mem _ (List.mem_append_left _ (List.mem_of_getElem? (i := 1) rfl)))
  have k31 := G.2.2.2.2.1 (.fieldLink RX2 31 "GustMillModel" "thrown" "I") (List.mem_cons_of_mem _ (List.mem_append_left _ (List.mem_of_getElem? (i := 0) rfl)))
  refine gk_aload_n G dX2_setUntil_0 0 rfl ?_
  refine gk_iconst (v := nI 0) G dX2_setUntil_1 (by decide) ?_
  refine gk_topi (fun v2 ev2 => ?_)
  refine gk_put (w' := (gd_W cI h q (upd F 0 v2) B f kp g)) G hinX2 tyX2_ok nmX2 (q0 := 0) rfl rfl 0 (by decide) k31 rfl rfl rfl (Nat.le_of_ble_eq_true rfl) rfl dX2_setUntil_2 ?_
  generalize eF2 : upd F 0 v2 = F2
  have hsT : gr_st F2 B M := by rw [← eF2]; exact gr_st_0 hs
  have hT : F2 0 = nI 0 := by rw [← eF2, pk_us]; exact ev2
  refine gk_aload_n G dX2_setUntil_5 0 rfl ?_
  refine gk_iload_n G dX2_setUntil_6 1 rfl ?_
  refine gk_callIV (wr := []) G (c2_isSack_ok l D cI cZ cJ h q F2 B f kp g M v wf hsT (by omega)) gX2_setUntil_X2_isSack rfl 1 (by decide +kernel) rfl rfl ⟨(Nat.le_of_ble_eq_true rfl), (Nat.le_of_ble_eq_true rfl)⟩ rfl (q0 := 0) rfl (T := TX2) (N := 12) rfl gk_ok0 trivial [0, 1, 2, 3, 4, 5, 6, 7] rfl (by decide) [] rfl (by decide) (by decide) rfl (Nat.le_of_ble_eq_true rfl) dX2_setUntil_7 ⟨(Nat.le_of_ble_eq_true rfl), (Nat.le_of_ble_eq_true rfl)⟩ (fun r7 u7 hp7 => ?_)
  obtain rfl : r7 = nI 1 := hp7
  show gk_C p l e ({ frames := 2, cells := 0, slots := 0, locals := 43 } : Room) s m ([.ref h, .int (nI v), .int (nI x)] : List Value).toArray below meth c 4 D A Q 0 0 (gd_W cI h q F2 B f kp g) [(0, .ref h), (1, .int (nI v)), (2, .int (nI x))] 10 [.int (nI 1)]
  refine gk_if_ne (tgt := 19) G dX2_setUntil_10 (by decide) (fun c_10 => ?_) (fun c_10 => ?_)
  · replace c_10 := (not_congr (nI_eq (a := 1) (b := 0) (by omega) (by omega))).mp c_10
    refine gk_iload_n G dX2_setUntil_19 2 rfl ?_
    refine gk_iconst (v := nI 1) G dX2_setUntil_20 (by decide) ?_
    refine gk_sipush (v := nI 200) G dX2_setUntil_21 (by decide) ?_
    refine gk_callIS (wc := []) (wr := (gd_W cI h q F2 B f kp g)) (isC := []) (isR := [0, 1, 2, 3, 4, 5, 6, 7]) G (c2_isIn l D cI cZ cJ (nI x) (nI 1) (nI 200)) gX2_setUntil_X2_isIn rfl 3 (by decide +kernel) rfl rfl ⟨(Nat.le_of_ble_eq_true rfl), (Nat.le_of_ble_eq_true rfl)⟩ rfl gk_ok0 trivial rfl (by decide) rfl (by decide) (by decide) rfl (Nat.le_of_ble_eq_true rfl) dX2_setUntil_24 ⟨(Nat.le_of_ble_eq_true rfl), (Nat.le_of_ble_eq_true rfl)⟩ (fun r24 u24 hp24 => ?_)
    obtain rfl : r24 = nI 1 := (hp24.trans (gm_b1 (gm_in1 (by omega) (by omega) (by decide))))
    show gk_C p l e ({ frames := 2, cells := 0, slots := 0, locals := 43 } : Room) s m ([.ref h, .int (nI v), .int (nI x)] : List Value).toArray below meth c 4 D A Q 0 0 (gd_W cI h q F2 B f kp g) [(0, .ref h), (1, .int (nI v)), (2, .int (nI x))] 27 [.int (nI 1)]
    refine gk_if_ne (tgt := 36) G dX2_setUntil_27 (by decide) (fun c_27 => ?_) (fun c_27 => ?_)
    · replace c_27 := (not_congr (nI_eq (a := 1) (b := 0) (by omega) (by omega))).mp c_27
      refine gk_aload_n G dX2_setUntil_36 0 rfl ?_
      refine gk_get (v' := .ref (q 8)) G hinX2 (q0 := 0) rfl rfl 8 (by decide) k19 rfl rfl dX2_setUntil_37 ?_
      refine gk_iload_n G dX2_setUntil_40 1 rfl ?_
      refine gk_iald (v := nI (M 6 v)) G (q0 := 4) (t0 := 0) rfl rfl v rfl (by omega) (by decide) (hsT.2.2.2.2.2.2.2 v (by omega)) dX2_setUntil_41 ?_
      refine gk_istore_n (lv' := [(3, .int (nI (M 6 v))), (0, .ref h), (1, .int (nI v)), (2, .int (nI x))]) G dX2_setUntil_42 rfl (by decide) rfl ?_
      refine gk_aload_n G dX2_setUntil_43 1 rfl ?_
      refine gk_get (v' := .ref (q 8)) G hinX2 (q0 := 0) rfl rfl 8 (by decide) k19 rfl rfl dX2_setUntil_44 ?_
      refine gk_iload_n G dX2_setUntil_47 2 rfl ?_
      refine gk_iload_n G dX2_setUntil_48 3 rfl ?_
      refine gk_topi (fun v49 ev49 => ?_)
      refine gk_iast (w' := (gd_W cI h q F2 (gc_up B 8 (upd (B 8) v v49)) f kp g)) G (q0 := 4) (t0 := 0) rfl rfl v rfl (by omega) (by decide) rfl dX2_setUntil_49 ?_
      generalize eB49 : gc_up B 8 (upd (B 8) v v49) = B49
      refine gk_iload_n G dX2_setUntil_50 0 rfl ?_
      exact RET _ _ _ _ _ _ (F2, B49, f, kp, g) dX2_setUntil_51 rfl (by subst eB49; subst ev49; exact ⟨rfl, gr_st_u hsT, gr_now_eq hn (fun k i _ _ _ h6 _ _ => gm_set_k M i h6), hT⟩) rfl (Nat.le_of_ble_eq_true rfl) (Nat.le_of_ble_eq_true rfl)
    · replace c_27 := (nI_eq (a := 1) (b := 0) (by omega) (by omega)).mp c_27
      exact absurd c_27 (by decide)
  · replace c_10 := (nI_eq (a := 1) (b := 0) (by omega) (by omega)).mp c_10
    exact absurd c_10 (by decide)
set_option maxRecDepth 100000 in
set_option maxHeartbeats 1000000 in
theorem c2_pass_no (l : Launch) (D : va_G) (cI cZ cJ : ClassId) (h : Nat) (q : Nat → Nat) (F : Nat → Int32) (B : Nat → Nat → Int32) (f kp g : Nat → Int32) (M : gm_M) (p0 : Int32) (wf : gm_wf M) (hs : gr_st F B M) (hn : gr_now f M) (hb : ¬ gm_rg p0 1 61) : gk_I l yX2_pass wsX2_pass ({ frames := 4, cells := 0, slots := 0, locals := 90 } : Room) D (g_T cI cZ cJ) gk_E0 [.ref h, .int p0] (gd_W cI h q F B f kp g) 0 0 (fun (r : Int32) (u : gd_U) => r = nI 0 ∧ gd_R u M 1) (fun u => (gd_X cI h q u)) := by
  refine gk_I_of (ty := .int) (cc := cX2_pass) (nL := 3) (by decide +kernel) rfl (Nat.le_of_ble_eq_true rfl) ?_
  intro p e s m below meth c A Q hnm hE G RET
  obtain ⟨hz1, hz2, hz3, hz4, hz5, hz6, hz7, hz8⟩ := id wf
  have hinX2 : ∀ w ∈ wsX20, w ∈ wsX2_pass := fun w h9 => (List.mem_cons_of_mem _ (List.mem_append_right _ h9))
  have k31 := G.2.2.2.2.1 (.fieldLink RX2 31 "GustMillModel" "thrown" "I") (List.mem_cons_of_mem _ (List.mem_append_left _ (List.mem_append_left _ (List.mem_of_getElem? (i := 0) rfl))))
  refine gk_aload_n G dX2_pass_0 0 rfl ?_
  refine gk_iconst (v := nI 0) G dX2_pass_1 (by decide) ?_
  refine gk_topi (fun v2 ev2 => ?_)
  refine gk_put (w' := (gd_W cI h q (upd F 0 v2) B f kp g)) G hinX2 tyX2_ok nmX2 (q0 := 0) rfl rfl 0 (by decide) k31 rfl rfl rfl (Nat.le_of_ble_eq_true rfl) rfl dX2_pass_2 ?_
  generalize eF2 : upd F 0 v2 = F2
  have hsT : gr_st F2 B M := by rw [← eF2]; exact gr_st_0 hs
  have hT : F2 0 = nI 0 := by rw [← eF2, pk_us]; exact ev2
  refine gk_iload_n G dX2_pass_5 1 rfl ?_
  refine gk_iconst (v := nI 1) G dX2_pass_6 (by decide) ?_
  refine gk_bipush (v := nI 60) G dX2_pass_7 (by decide) ?_
  refine gk_callIS (wc := []) (wr := (gd_W cI h q F2 B f kp g)) (isC := []) (isR := [0, 1, 2, 3, 4, 5, 6, 7]) G (c2_isIn l D cI cZ cJ p0 (nI 1) (nI 60)) gX2_pass_X2_isIn rfl 3 (by decide +kernel) rfl rfl ⟨(Nat.le_of_ble_eq_true rfl), (Nat.le_of_ble_eq_true rfl)⟩ rfl gk_ok0 trivial rfl (by decide) rfl (by decide) (by decide) rfl (Nat.le_of_ble_eq_true rfl) dX2_pass_9 ⟨(Nat.le_of_ble_eq_true rfl), (Nat.le_of_ble_eq_true rfl)⟩ (fun r9 u9 hp9 => ?_)
  obtain rfl : r9 = nI 0 := (hp9.trans (gm_b0 (gm_in0 hb (by decide) (by decide))))
  show gk_C p l e ({ frames := 4, cells := 0, slots := 0, locals := 90 } : Room) s m ([.ref h, .int p0] : List Value).toArray below meth c 3 D A Q 0 0 (gd_W cI h q F2 B f kp g) [(0, .ref h), (1, .int p0)] 12 [.int (nI 0)]
  refine gk_if_ne (tgt := 21) G dX2_pass_12 (by decide) (fun c_12 => ?_) (fun c_12 => ?_)
  · replace c_12 := (not_congr (nI_eq (a := 0) (b := 0) (by omega) (by omega))).mp c_12
    exact absurd c_12 (by decide)
  · replace c_12 := (nI_eq (a := 0) (b := 0) (by omega) (by omega)).mp c_12
    refine gk_aload_n G dX2_pass_15 0 rfl ?_
    refine gk_iconst (v := nI 1) G dX2_pass_16 (by decide) ?_
    refine gk_callIV (wr := []) G (c2_fail l D cI cZ cJ h q F2 B f kp g M (nI 1)) gX2_pass_X2_fail rfl 1 (by decide +kernel) rfl rfl ⟨(Nat.le_of_ble_eq_true rfl), (Nat.le_of_ble_eq_true rfl)⟩ rfl (q0 := 0) rfl (T := TX2) (N := 12) rfl gk_ok0 trivial [0, 1, 2, 3, 4, 5, 6, 7] rfl (by decide) [] rfl (by decide) (by decide) rfl (Nat.le_of_ble_eq_true rfl) dX2_pass_17 ⟨(Nat.le_of_ble_eq_true rfl), (Nat.le_of_ble_eq_true rfl)⟩ (fun r17 u17 hp17 => ?_)
    obtain rfl : r17 = nI 0 := hp17.1
    have hF17 : u17 = upd F2 0 (nI 1) := hp17.2
    have hs17 : gr_st u17 B M := by rw [hF17]; exact gr_st_0 hsT
    have hT17 : u17 0 = nI 1 := by rw [hF17, pk_us]
    show gk_C p l e ({ frames := 4, cells := 0, slots := 0, locals := 90 } : Room) s m ([.ref h, .int p0] : List Value).toArray below meth c 3 D A Q 0 0 (gd_W cI h q u17 B f kp g) [(0, .ref h), (1, .int p0)] 20 [.int (nI 0)]
    exact RET _ _ _ _ _ _ (u17, B, f, kp, g) dX2_pass_20 rfl ⟨rfl, hs17, hn, hT17⟩ rfl (Nat.le_of_ble_eq_true rfl) (Nat.le_of_ble_eq_true rfl)
set_option maxRecDepth 100000 in
set_option maxHeartbeats 1000000 in
theorem c2_pass_ok (l : Launch) (D : va_G) (cI cZ cJ : ClassId) (h : Nat) (q : Nat → Nat) (F : Nat → Int32) (B : Nat → Nat → Int32) (f kp g : Nat → Int32) (M : gm_M) (v : Nat) (wf : gm_wf M) (hs : gr_st F B M) (hn : gr_now f M) (hrest : gm_rest M) (hh : M 9 0 < 1999000) (h1 : 1 ≤ v) (h2 : v < 61) : gk_I l yX2_pass wsX2_pass ({ frames := 4, cells := 0, slots := 0, locals := 90 } : Room) D (g_T cI cZ cJ) gk_E0 [.ref h, .int (nI v)] (gd_W cI h q F B f kp g) 0 0 (fun (r : Int32) (u : gd_U) => r = nI (gm_hrs M v 16 0 - M 16 0) ∧ gd_R u (gm_hrs M v) 0) (fun u => (gd_X cI h q u)) := by
  refine gk_I_of (ty := .int) (cc := cX2_pass) (nL := 3) (by decide +kernel) rfl (Nat.le_of_ble_eq_true rfl) ?_
  intro p e s m below meth c A Q hnm hE G RET
  obtain ⟨hz1, hz2, hz3, hz4, hz5, hz6, hz7, hz8⟩ := id wf
  have hinX2 : ∀ w ∈ wsX20, w ∈ wsX2_pass := fun w h9 => (List.mem_cons_of_mem _ (List.mem_append_right _ h9))
  have k22 := G.2.2.2.2.1 (.fieldLink RX2 22 "GustMillModel" "now" "[I") (List.mem_cons_of_mem _ (List.mem_append_left _ (List.mem_append_left _ (List.mem_of_getElem? (i := 1) rfl))))
  have k31 := G.2.2.2.2.1 (.fieldLink RX2 31 "GustMillModel" "thrown" "I") (List.mem_cons_of_mem _ (List.mem_append_left _ (List.mem_append_left _ (List.mem_of_getElem? (i := 0) rfl))))
  refine gk_aload_n G dX2_pass_0 0 rfl ?_
  refine gk_iconst (v := nI 0) G dX2_pass_1 (by decide) ?_
  refine gk_topi (fun v2 ev2 => ?_)
  refine gk_put (w' := (gd_W cI h q (upd F 0 v2) B f kp g)) G hinX2 tyX2_ok nmX2 (q0 := 0) rfl rfl 0 (by decide) k31 rfl rfl rfl (Nat.le_of_ble_eq_true rfl) rfl dX2_pass_2 ?_
  generalize eF2 : upd F 0 v2 = F2
  have hsT : gr_st F2 B M := by rw [← eF2]; exact gr_st_0 hs
  have hT : F2 0 = nI 0 := by rw [← eF2, pk_us]; exact ev2
  refine gk_iload_n G dX2_pass_5 1 rfl ?_
  refine gk_iconst (v := nI 1) G dX2_pass_6 (by decide) ?_
  refine gk_bipush (v := nI 60) G dX2_pass_7 (by decide) ?_
  refine gk_callIS (wc := []) (wr := (gd_W cI h q F2 B f kp g)) (isC := []) (isR := [0, 1, 2, 3, 4, 5, 6, 7]) G (c2_isIn l D cI cZ cJ (nI v) (nI 1) (nI 60)) gX2_pass_X2_isIn rfl 3 (by decide +kernel) rfl rfl ⟨(Nat.le_of_ble_eq_true rfl), (Nat.le_of_ble_eq_true rfl)⟩ rfl gk_ok0 trivial rfl (by decide) rfl (by decide) (by decide) rfl (Nat.le_of_ble_eq_true rfl) dX2_pass_9 ⟨(Nat.le_of_ble_eq_true rfl), (Nat.le_of_ble_eq_true rfl)⟩ (fun r9 u9 hp9 => ?_)
  obtain rfl : r9 = nI 1 := (hp9.trans (gm_b1 (gm_in1 (by omega) (by omega) (by decide))))
  show gk_C p l e ({ frames := 4, cells := 0, slots := 0, locals := 90 } : Room) s m ([.ref h, .int (nI v)] : List Value).toArray below meth c 3 D A Q 0 0 (gd_W cI h q F2 B f kp g) [(0, .ref h), (1, .int (nI v))] 12 [.int (nI 1)]
  refine gk_if_ne (tgt := 21) G dX2_pass_12 (by decide) (fun c_12 => ?_) (fun c_12 => ?_)
  · replace c_12 := (not_congr (nI_eq (a := 1) (b := 0) (by omega) (by omega))).mp c_12
    refine gk_aload_n G dX2_pass_21 0 rfl ?_
    refine gk_get (v' := .ref (q 9)) G hinX2 (q0 := 0) rfl rfl 9 (by decide) k22 rfl rfl dX2_pass_22 ?_
    refine gk_iconst (v := nI 2) G dX2_pass_25 (by decide) ?_
    refine gk_iald (v := nI (M 16 0)) G (q0 := 5) (t0 := 0) rfl rfl 2 rfl (by omega) (by decide) hn.2.2.1 dX2_pass_26 ?_
    refine gk_istore_n (lv' := [(2, .int (nI (M 16 0))), (0, .ref h), (1, .int (nI v))]) G dX2_pass_27 rfl (by decide) rfl ?_
    refine gk_aload_n G dX2_pass_28 1 rfl ?_
    refine gk_iload_n G dX2_pass_29 2 rfl ?_
    refine gk_callVV (wr := []) G (c2_hoursOn l D cI cZ cJ h q F2 B f kp g M v wf hsT hn hrest (by omega)) gX2_pass_X2_hoursOn rfl 1 (by decide +kernel) rfl rfl ⟨(Nat.le_of_ble_eq_true rfl), (Nat.le_of_ble_eq_true rfl)⟩ rfl (q0 := 0) rfl (T := TX2) (N := 12) rfl gk_ok0 trivial [0, 1, 2, 3, 4, 5, 6, 7] rfl (by decide) [] rfl (by decide) (by decide) rfl (Nat.le_of_ble_eq_true rfl) dX2_pass_30 ⟨(Nat.le_of_ble_eq_true rfl), (Nat.le_of_ble_eq_true rfl)⟩ (fun u30 hp30 => ?_)
    obtain ⟨f30, g30⟩ := u30
    have hn30 : gr_now f30 (gm_hrs M v) := hp30
    have hs30 : gr_st F2 B (gm_hrs M v) := gr_st_eq hsT (fun k0 i h3 h5 h7 h8 h9 h13 h16 => gm_hrs_ne M i h3 h7 h13 h5 h16 h8 h9 v)
    show gk_C p l e ({ frames := 4, cells := 0, slots := 0, locals := 90 } : Room) s m ([.ref h, .int (nI v)] : List Value).toArray below meth c 3 D A Q 0 0 (gd_W cI h q F2 B f30 kp g30) [(2, .int (nI (M 16 0))), (0, .ref h), (1, .int (nI v))] 33 []
    refine gk_aload_n G dX2_pass_33 1 rfl ?_
    refine gk_get (v' := .ref (q 9)) G hinX2 (q0 := 0) rfl rfl 9 (by decide) k22 rfl rfl dX2_pass_34 ?_
    refine gk_iconst (v := nI 2) G dX2_pass_37 (by decide) ?_
    refine gk_iald (v := nI ((gm_hrs M v) 16 0)) G (q0 := 5) (t0 := 0) rfl rfl 2 rfl (by omega) (by decide) hn30.2.2.1 dX2_pass_38 ?_
    refine gk_iload_n G dX2_pass_39 0 rfl ?_
    refine gk_isub (v := nI (gm_hrs M v 16 0 - M 16 0)) G dX2_pass_40 (pk_sub (gm_hrs_16 M v)) ?_
    exact RET _ _ _ _ _ _ (F2, B, f30, kp, g30) dX2_pass_41 rfl ⟨rfl, hs30, hn30, hT⟩ rfl (Nat.le_of_ble_eq_true rfl) (Nat.le_of_ble_eq_true rfl)
  · replace c_12 := (nI_eq (a := 1) (b := 0) (by omega) (by omega)).mp c_12
    exact absurd c_12 (by decide)
