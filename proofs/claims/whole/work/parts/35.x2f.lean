theorem gr_adds_st {F : Nat → Int32} {B : Nat → Nat → Int32} {M : gm_M} {v : Nat} (h : gr_st F B M) : gr_st (upd F 1 (nI (M 10 0 + 1))) (gc_up B 2 (upd (B 2) (M 10 0) (nI v))) (gm_adds M v) := by
  obtain ⟨h1, h4, h5, h6, r2, r3, r7, r8⟩ := h
  have e : ∀ k i, k ≠ 1 → k ≠ 10 → gm_adds M v k i = M k i := fun k i h1 h2 => by unfold gm_adds; rw [gm_set_k _ _ h2, gm_set_k _ _ h1]
  have e10 : gm_adds M v 10 0 = M 10 0 + 1 := gm_set_at _ _ _ _
  refine ⟨?_, ?_, ?_, ?_, fun i hi => ?_, fun i hi => ?_, fun i hi => ?_, fun i hi => ?_⟩
  · rw [pk_us, e10]
  · rw [pk_un (by decide), e 14 0 (by decide) (by decide)]; exact h4
  · rw [pk_un (by decide), e 15 0 (by decide) (by decide)]; exact h5
  · rw [pk_un (by decide), e 11 0 (by decide) (by decide)]; exact h6
  · rw [e10] at hi
    rw [gc_up_at]
    unfold gm_adds
    rw [gm_set_k _ _ (by decide)]
    by_cases q : i = M 10 0
    · rw [q, pk_us, gm_set_at]
    · rw [pk_un q, gm_set_i _ _ q]; exact r2 i (by omega)
  · rw [gc_up_ne _ _ (by decide), e 0 i (by decide) (by decide)]; exact r3 i hi
  · rw [e 11 0 (by decide) (by decide)] at hi
    rw [gc_up_ne _ _ (by decide), e 4 i (by decide) (by decide)]; exact r7 i hi
  · rw [e 11 0 (by decide) (by decide)] at hi
    rw [gc_up_ne _ _ (by decide), e 6 i (by decide) (by decide)]; exact r8 i hi
theorem gr_adds_now {f : Nat → Int32} {M : gm_M} {v : Nat} (h : gr_now f M) : gr_now f (gm_adds M v) := gr_now_eq h (fun k i h3 _ _ _ _ h10 => by unfold gm_adds; rw [gm_set_k _ _ h10, gm_set_k _ _ (by omega)])
theorem gr_st_w {F : Nat → Int32} {B : Nat → Nat → Int32} {M : gm_M} {n v : Nat} (h : gr_st F B M) : gr_st F (gc_up B 3 (upd (B 3) n (nI v))) (gm_set M 0 n v) := by
  obtain ⟨h1, h4, h5, h6, r2, r3, r7, r8⟩ := h
  have e : ∀ k i, k ≠ 0 → gm_set M 0 n v k i = M k i := fun k i h => gm_set_k M i h
  refine ⟨by rw [e 10 0 (by decide)]; exact h1, by rw [e 14 0 (by decide)]; exact h4, by rw [e 15 0 (by decide)]; exact h5, by rw [e 11 0 (by decide)]; exact h6, fun i hi => ?_, fun i hi => ?_, fun i hi => ?_, fun i hi => ?_⟩
  · rw [e 10 0 (by decide)] at hi; rw [gc_up_ne _ _ (by decide), e 1 i (by decide)]; exact r2 i hi
  · rw [gc_up_at]
    by_cases q : i = n
    · rw [q, pk_us, gm_set_at]
    · rw [pk_un q, gm_set_i _ _ q]; exact r3 i hi
  · rw [e 11 0 (by decide)] at hi; rw [gc_up_ne _ _ (by decide), e 4 i (by decide)]; exact r7 i hi
  · rw [e 11 0 (by decide)] at hi; rw [gc_up_ne _ _ (by decide), e 6 i (by decide)]; exact r8 i hi
theorem gr_st_u {F : Nat → Int32} {B : Nat → Nat → Int32} {M : gm_M} {n v : Nat} (h : gr_st F B M) : gr_st F (gc_up B 8 (upd (B 8) n (nI v))) (gm_set M 6 n v) := by
  obtain ⟨h1, h4, h5, h6, r2, r3, r7, r8⟩ := h
  have e : ∀ k i, k ≠ 6 → gm_set M 6 n v k i = M k i := fun k i h => gm_set_k M i h
  refine ⟨by rw [e 10 0 (by decide)]; exact h1, by rw [e 14 0 (by decide)]; exact h4, by rw [e 15 0 (by decide)]; exact h5, by rw [e 11 0 (by decide)]; exact h6, fun i hi => ?_, fun i hi => ?_, fun i hi => ?_, fun i hi => ?_⟩
  · rw [e 10 0 (by decide)] at hi; rw [gc_up_ne _ _ (by decide), e 1 i (by decide)]; exact r2 i hi
  · rw [gc_up_ne _ _ (by decide), e 0 i (by decide)]; exact r3 i hi
  · rw [e 11 0 (by decide)] at hi; rw [gc_up_ne _ _ (by decide), e 4 i (by decide)]; exact r7 i hi
  · rw [e 11 0 (by decide)] at hi
    rw [gc_up_at]
    by_cases q : i = n
    · rw [q, pk_us, gm_set_at]
    · rw [pk_un q, gm_set_i _ _ q]; exact r8 i hi
theorem gr_st_r {F : Nat → Int32} {B : Nat → Nat → Int32} {M : gm_M} {v : Nat} (h : gr_st F B M) : gr_st (upd F 4 (nI v)) B (gm_set M 14 0 v) := by
  obtain ⟨h1, h4, h5, h6, r2, r3, r7, r8⟩ := h
  have e : ∀ k i, k ≠ 14 → gm_set M 14 0 v k i = M k i := fun k i h => gm_set_k M i h
  exact ⟨by rw [pk_un (by decide), e 10 0 (by decide)]; exact h1, by rw [pk_us, gm_set_at], by rw [pk_un (by decide), e 15 0 (by decide)]; exact h5, by rw [pk_un (by decide), e 11 0 (by decide)]; exact h6, fun i hi => by rw [e 10 0 (by decide)] at hi; rw [e 1 i (by decide)]; exact r2 i hi, fun i hi => by rw [e 0 i (by decide)]; exact r3 i hi, fun i hi => by rw [e 11 0 (by decide)] at hi; rw [e 4 i (by decide)]; exact r7 i hi, fun i hi => by rw [e 11 0 (by decide)] at hi; rw [e 6 i (by decide)]; exact r8 i hi⟩
theorem gr_st_o {F : Nat → Int32} {B : Nat → Nat → Int32} {M : gm_M} {v : Nat} (h : gr_st F B M) : gr_st (upd F 5 (nI v)) B (gm_set M 15 0 v) := by
  obtain ⟨h1, h4, h5, h6, r2, r3, r7, r8⟩ := h
  have e : ∀ k i, k ≠ 15 → gm_set M 15 0 v k i = M k i := fun k i h => gm_set_k M i h
  exact ⟨by rw [pk_un (by decide), e 10 0 (by decide)]; exact h1, by rw [pk_un (by decide), e 14 0 (by decide)]; exact h4, by rw [pk_us, gm_set_at], by rw [pk_un (by decide), e 11 0 (by decide)]; exact h6, fun i hi => by rw [e 10 0 (by decide)] at hi; rw [e 1 i (by decide)]; exact r2 i hi, fun i hi => by rw [e 0 i (by decide)]; exact r3 i hi, fun i hi => by rw [e 11 0 (by decide)] at hi; rw [e 4 i (by decide)]; exact r7 i hi, fun i hi => by rw [e 11 0 (by decide)] at hi; rw [e 6 i (by decide)]; exact r8 i hi⟩
theorem gr_st_7 {F : Nat → Int32} {B : Nat → Nat → Int32} {M : gm_M} {n v : Nat} (h : gr_st F B M) : gr_st F B (gm_set M 7 n v) := gr_st_eq h (fun k i _ _ h7 _ _ _ _ => gm_set_k M i h7)

set_option maxRecDepth 100000 in
set_option maxHeartbeats 1000000 in
theorem c2_addStone_no (l : Launch) (D : va_G) (cI cZ cJ : ClassId) (h : Nat) (q : Nat → Nat) (F : Nat → Int32) (B : Nat → Nat → Int32) (f kp g : Nat → Int32) (M : gm_M) (p0 : Int32) (wf : gm_wf M) (hs : gr_st F B M) (hn : gr_now f M) (hb : ¬ gm_rg p0 1 10) : gk_I l yX2_addStone wsX2_addStone ({ frames := 1, cells := 0, slots := 0, locals := 22 } : Room) D (g_T cI cZ cJ) gk_E0 [.ref h, .int p0] (gd_W cI h q F B f kp g) 0 0 (fun (r : Int32) (u : gd_U) => r = nI 0 ∧ gd_R u M 1) (fun u => (gd_X cI h q u)) := by
  refine gk_I_of (ty := .int) (cc := cX2_addStone) (nL := 2) (by decide +kernel) rfl (Nat.le_of_ble_eq_true rfl) ?_
  intro p e s m below meth c A Q hnm hE G RET
  obtain ⟨hz1, hz2, hz3, hz4, hz5, hz6, hz7, hz8⟩ := id wf
  have hinX2 : ∀ w ∈ wsX20, w ∈ wsX2_addStone := fun w h9 => (List.mem_cons_of_mem _ (List.mem_append_right _ h9))
  have k31 := G.2.2.2.2.1 (.fieldLink RX2 31 "GustMillModel" "thrown" "I") (List.mem_cons_of_mem _ (List.mem_append_left _ (List.mem_of_getElem? (i := 0) rfl)))
  refine gk_aload_n G dX2_addStone_0 0 rfl ?_
  refine gk_iconst (v := nI 0) G dX2_addStone_1 (by decide) ?_
  refine gk_topi (fun v2 ev2 => ?_)
  refine gk_put (w' := (gd_W cI h q (upd F 0 v2) B f kp g)) G hinX2 tyX2_ok nmX2 (q0 := 0) rfl rfl 0 (by decide) k31 rfl rfl rfl (Nat.le_of_ble_eq_true rfl) rfl dX2_addStone_2 ?_
  generalize eF2 : upd F 0 v2 = F2
  have hsT : gr_st F2 B M := by rw [← eF2]; exact gr_st_0 hs
  have hT : F2 0 = nI 0 := by rw [← eF2, pk_us]; exact ev2
  refine gk_iload_n G dX2_addStone_5 1 rfl ?_
  refine gk_iconst (v := nI 1) G dX2_addStone_6 (by decide) ?_
  refine gk_bipush (v := nI 9) G dX2_addStone_7 (by decide) ?_
  refine gk_callIS (wc := []) (wr := (gd_W cI h q F2 B f kp g)) (isC := []) (isR := [0, 1, 2, 3, 4, 5, 6, 7]) G (c2_isIn l D cI cZ cJ p0 (nI 1) (nI 9)) gX2_addStone_X2_isIn rfl 3 (by decide +kernel) rfl rfl ⟨(Nat.le_of_ble_eq_true rfl), (Nat.le_of_ble_eq_true rfl)⟩ rfl gk_ok0 trivial rfl (by decide) rfl (by decide) (by decide) rfl (Nat.le_of_ble_eq_true rfl) dX2_addStone_9 ⟨(Nat.le_of_ble_eq_true rfl), (Nat.le_of_ble_eq_true rfl)⟩ (fun r9 u9 hp9 => ?_)
  obtain rfl : r9 = nI 0 := (hp9.trans (gm_b0 (gm_in0 hb (by decide) (by decide))))
  show gk_C p l e ({ frames := 1, cells := 0, slots := 0, locals := 22 } : Room) s m ([.ref h, .int p0] : List Value).toArray below meth c 2 D A Q 0 0 (gd_W cI h q F2 B f kp g) [(0, .ref h), (1, .int p0)] 12 [.int (nI 0)]
  refine gk_if_ne (tgt := 21) G dX2_addStone_12 (by decide) (fun c_12 => ?_) (fun c_12 => ?_)
  · replace c_12 := (not_congr (nI_eq (a := 0) (b := 0) (by omega) (by omega))).mp c_12
    exact absurd c_12 (by decide)
  · replace c_12 := (nI_eq (a := 0) (b := 0) (by omega) (by omega)).mp c_12
    refine gk_aload_n G dX2_addStone_15 0 rfl ?_
    refine gk_iconst (v := nI 1) G dX2_addStone_16 (by decide) ?_
    refine gk_callIV (wr := []) G (c2_fail l D cI cZ cJ h q F2 B f kp g M (nI 1)) gX2_addStone_X2_fail rfl 1 (by decide +kernel) rfl rfl ⟨(Nat.le_of_ble_eq_true rfl), (Nat.le_of_ble_eq_true rfl)⟩ rfl (q0 := 0) rfl (T := TX2) (N := 12) rfl gk_ok0 trivial [0, 1, 2, 3, 4, 5, 6, 7] rfl (by decide) [] rfl (by decide) (by decide) rfl (Nat.le_of_ble_eq_true rfl) dX2_addStone_17 ⟨(Nat.le_of_ble_eq_true rfl), (Nat.le_of_ble_eq_true rfl)⟩ (fun r17 u17 hp17 => ?_)
    obtain rfl : r17 = nI 0 := hp17.1
    have hF17 : u17 = upd F2 0 (nI 1) := hp17.2
    have hs17 : gr_st u17 B M := by rw [hF17]; exact gr_st_0 hsT
    have hT17 : u17 0 = nI 1 := by rw [hF17, pk_us]
    show gk_C p l e ({ frames := 1, cells := 0, slots := 0, locals := 22 } : Room) s m ([.ref h, .int p0] : List Value).toArray below meth c 2 D A Q 0 0 (gd_W cI h q u17 B f kp g) [(0, .ref h), (1, .int p0)] 20 [.int (nI 0)]
    exact RET _ _ _ _ _ _ (u17, B, f, kp, g) dX2_addStone_20 rfl ⟨rfl, hs17, hn, hT17⟩ rfl (Nat.le_of_ble_eq_true rfl) (Nat.le_of_ble_eq_true rfl)
set_option maxRecDepth 100000 in
set_option maxHeartbeats 1000000 in
theorem c2_addStone_full (l : Launch) (D : va_G) (cI cZ cJ : ClassId) (h : Nat) (q : Nat → Nat) (F : Nat → Int32) (B : Nat → Nat → Int32) (f kp g : Nat → Int32) (M : gm_M) (v : Nat) (wf : gm_wf M) (hs : gr_st F B M) (hn : gr_now f M) (h1 : 1 ≤ v) (h9 : v < 10) (h4 : M 10 0 = 4) : gk_I l yX2_addStone wsX2_addStone ({ frames := 1, cells := 0, slots := 0, locals := 22 } : Room) D (g_T cI cZ cJ) gk_E0 [.ref h, .int (nI v)] (gd_W cI h q F B f kp g) 0 0 (fun (r : Int32) (u : gd_U) => r = nI 0 ∧ gd_R u M 2) (fun u => (gd_X cI h q u)) := by
  refine gk_I_of (ty := .int) (cc := cX2_addStone) (nL := 2) (by decide +kernel) rfl (Nat.le_of_ble_eq_true rfl) ?_
  intro p e s m below meth c A Q hnm hE G RET
  obtain ⟨hz1, hz2, hz3, hz4, hz5, hz6, hz7, hz8⟩ := id wf
  have hinX2 : ∀ w ∈ wsX20, w ∈ wsX2_addStone := fun w h9 => (List.mem_cons_of_mem _ (List.mem_append_right _ h9))
  have k31 := G.2.2.2.2.1 (.fieldLink RX2 31 "GustMillModel" "thrown" "I") (List.mem_cons_of_mem _ (List.mem_append_left _ (List.mem_of_getElem? (i := 0) rfl)))
  have k35 := G.2.2.2.2.1 (.fieldLink RX2 35 "GustMillModel" "stones" "I") (List.mem_cons_of_mem _ (List.mem_append_left _ (List.mem_of_getElem? (i := 1) rfl)))
  refine gk_aload_n G dX2_addStone_0 0 rfl ?_
  refine gk_iconst (v := nI 0) G dX2_addStone_1 (by decide) ?_
  refine gk_topi (fun v2 ev2 => ?_)
  refine gk_put (w' := (gd_W cI h q (upd F 0 v2) B f kp g)) G hinX2 tyX2_ok nmX2 (q0 := 0) rfl rfl 0 (by decide) k31 rfl rfl rfl (Nat.le_of_ble_eq_true rfl) rfl dX2_addStone_2 ?_
  generalize eF2 : upd F 0 v2 = F2
  have hsT : gr_st F2 B M := by rw [← eF2]; exact gr_st_0 hs
  have hT : F2 0 = nI 0 := by rw [← eF2, pk_us]; exact ev2
  refine gk_iload_n G dX2_addStone_5 1 rfl ?_
  refine gk_iconst (v := nI 1) G dX2_addStone_6 (by decide) ?_
  refine gk_bipush (v := nI 9) G dX2_addStone_7 (by decide) ?_
  refine gk_callIS (wc := []) (wr := (gd_W cI h q F2 B f kp g)) (isC := []) (isR := [0, 1, 2, 3, 4, 5, 6, 7]) G (c2_isIn l D cI cZ cJ (nI v) (nI 1) (nI 9)) gX2_addStone_X2_isIn rfl 3 (by decide +kernel) rfl rfl ⟨(Nat.le_of_ble_eq_true rfl), (Nat.le_of_ble_eq_true rfl)⟩ rfl gk_ok0 trivial rfl (by decide) rfl (by decide) (by decide) rfl (Nat.le_of_ble_eq_true rfl) dX2_addStone_9 ⟨(Nat.le_of_ble_eq_true rfl), (Nat.le_of_ble_eq_true rfl)⟩ (fun r9 u9 hp9 => ?_)
  obtain rfl : r9 = nI 1 := (hp9.trans (gm_b1 (gm_in1 (by omega) (by omega) (by decide))))
  show gk_C p l e ({ frames := 1, cells := 0, slots := 0, locals := 22 } : Room) s m ([.ref h, .int (nI v)] : List Value).toArray below meth c 2 D A Q 0 0 (gd_W cI h q F2 B f kp g) [(0, .ref h), (1, .int (nI v))] 12 [.int (nI 1)]
  refine gk_if_ne (tgt := 21) G dX2_addStone_12 (by decide) (fun c_12 => ?_) (fun c_12 => ?_)
  · replace c_12 := (not_congr (nI_eq (a := 1) (b := 0) (by omega) (by omega))).mp c_12
    refine gk_aload_n G dX2_addStone_21 0 rfl ?_
    refine gk_get (v' := .int (nI (M 10 0))) G hinX2 (q0 := 0) rfl rfl 1 (by decide) k35 rfl (congrArg Value.int (hsT.1)) dX2_addStone_22 ?_
    refine gk_iconst (v := nI 4) G dX2_addStone_25 (by decide) ?_
    refine gk_icmp_ne (tgt := 35) G dX2_addStone_26 (by decide) (fun c_26 => ?_) (fun c_26 => ?_)
    · replace c_26 := (not_congr (nI_eq (a := M 10 0) (b := 4) (by omega) (by omega))).mp c_26
      exact absurd h4 c_26
    · replace c_26 := (nI_eq (a := M 10 0) (b := 4) (by omega) (by omega)).mp c_26
      refine gk_aload_n G dX2_addStone_29 0 rfl ?_
      refine gk_iconst (v := nI 2) G dX2_addStone_30 (by decide) ?_
      refine gk_callIV (wr := []) G (c2_fail l D cI cZ cJ h q F2 B f kp g M (nI 2)) gX2_addStone_X2_fail rfl 1 (by decide +kernel) rfl rfl ⟨(Nat.le_of_ble_eq_true rfl), (Nat.le_of_ble_eq_true rfl)⟩ rfl (q0 := 0) rfl (T := TX2) (N := 12) rfl gk_ok0 trivial [0, 1, 2, 3, 4, 5, 6, 7] rfl (by decide) [] rfl (by decide) (by decide) rfl (Nat.le_of_ble_eq_true rfl) dX2_addStone_31 ⟨(Nat.le_of_ble_eq_true rfl), (Nat.le_of_ble_eq_true rfl)⟩ (fun r31 u31 hp31 => ?_)
      obtain rfl : r31 = nI 0 := hp31.1
      have hF31 : u31 = upd F2 0 (nI 2) := hp31.2
      have hs31 : gr_st u31 B M := by rw [hF31]; exact gr_st_0 hsT
      have hT31 : u31 0 = nI 2 := by rw [hF31, pk_us]
      show gk_C p l e ({ frames := 1, cells := 0, slots := 0, locals := 22 } : Room) s m ([.ref h, .int (nI v)] : List Value).toArray below meth c 2 D A Q 0 0 (gd_W cI h q u31 B f kp g) [(0, .ref h), (1, .int (nI v))] 34 [.int (nI 0)]
      exact RET _ _ _ _ _ _ (u31, B, f, kp, g) dX2_addStone_34 rfl ⟨rfl, hs31, hn, hT31⟩ rfl (Nat.le_of_ble_eq_true rfl) (Nat.le_of_ble_eq_true rfl)
  · replace c_12 := (nI_eq (a := 1) (b := 0) (by omega) (by omega)).mp c_12
    exact absurd c_12 (by decide)
set_option maxRecDepth 100000 in
set_option maxHeartbeats 1000000 in
theorem c2_addStone_ok (l : Launch) (D : va_G) (cI cZ cJ : ClassId) (h : Nat) (q : Nat → Nat) (F : Nat → Int32) (B : Nat → Nat → Int32) (f kp g : Nat → Int32) (M : gm_M) (v : Nat) (wf : gm_wf M) (hs : gr_st F B M) (hn : gr_now f M) (h1 : 1 ≤ v) (h9 : v < 10) (h4 : M 10 0 < 4) : gk_I l yX2_addStone wsX2_addStone ({ frames := 1, cells := 0, slots := 0, locals := 22 } : Room) D (g_T cI cZ cJ) gk_E0 [.ref h, .int (nI v)] (gd_W cI h q F B f kp g) 0 0 (fun (r : Int32) (u : gd_U) => r = nI (M 10 0) ∧ gd_R u (gm_adds M v) 0) (fun u => (gd_X cI h q u)) := by
  refine gk_I_of (ty := .int) (cc := cX2_addStone) (nL := 2) (by decide +kernel) rfl (Nat.le_of_ble_eq_true rfl) ?_
  intro p e s m below meth c A Q hnm hE G RET
  obtain ⟨hz1, hz2, hz3, hz4, hz5, hz6, hz7, hz8⟩ := id wf
  have hinX2 : ∀ w ∈ wsX20, w ∈ wsX2_addStone := fun w h9 => (List.mem_cons_of_mem _ (List.mem_append_right _ h9))
  have k9 := G.2.2.2.2.1 (.fieldLink RX2 9 "GustMillModel" "size" "[I") (List.mem_cons_of_mem _ (List.mem_append_left _ (List.mem_of_getElem? (i := 2) rfl)))
  have k31 := G.2.2.2.2.1 (.fieldLink RX2 31 "GustMillModel" "thrown" "I") (List.mem_cons_of_mem _ (List.mem_append_left _ (List.mem_of_getElem? (i := 0) rfl)))
  have k35 := G.2.2.2.2.1 (.fieldLink RX2 35 "GustMillModel" "stones" "I") (List.mem_cons_of_mem _ (List.mem_append_left _ (List.mem_of_getElem? (i := 1) rfl)))
  refine gk_aload_n G dX2_addStone_0 0 rfl ?_
  refine gk_iconst (v := nI 0) G dX2_addStone_1 (by decide) ?_
  refine gk_topi (fun v2 ev2 => ?_)
  refine gk_put (w' := (gd_W cI h q (upd F 0 v2) B f kp g)) G hinX2 tyX2_ok nmX2 (q0 := 0) rfl rfl 0 (by decide) k31 rfl rfl rfl (Nat.le_of_ble_eq_true rfl) rfl dX2_addStone_2 ?_
  generalize eF2 : upd F 0 v2 = F2
  have hsT : gr_st F2 B M := by rw [← eF2]; exact gr_st_0 hs
  have hT : F2 0 = nI 0 := by rw [← eF2, pk_us]; exact ev2
  refine gk_iload_n G dX2_addStone_5 1 rfl ?_
  refine gk_iconst (v := nI 1) G dX2_addStone_6 (by decide) ?_
  refine gk_bipush (v := nI 9) G dX2_addStone_7 (by decide) ?_
  refine gk_callIS (wc := []) (wr := (gd_W cI h q F2 B f kp g)) (isC := []) (isR := [0, 1, 2, 3, 4, 5, 6, 7]) G (c2_isIn l D cI cZ cJ (nI v) (nI 1) (nI 9)) gX2_addStone_X2_isIn rfl 3 (by decide +kernel) rfl rfl ⟨(Nat.le_of_ble_eq_true rfl), (Nat.le_of_ble_eq_true rfl)⟩ rfl gk_ok0 trivial rfl (by decide) rfl (by decide) (by decide) rfl (Nat.le_of_ble_eq_true rfl) dX2_addStone_9 ⟨(Nat.le_of_ble_eq_true rfl), (Nat.le_of_ble_eq_true rfl)⟩ (fun r9 u9 hp9 => ?_)
  obtain rfl : r9 = nI 1 := (hp9.trans (gm_b1 (gm_in1 (by omega) (by omega) (by decide))))
  show gk_C p l e ({ frames := 1, cells := 0, slots := 0, locals := 22 } : Room) s m ([.ref h, .int (nI v)] : List Value).toArray below meth c 2 D A Q 0 0 (gd_W cI h q F2 B f kp g) [(0, .ref h), (1, .int (nI v))] 12 [.int (nI 1)]
  refine gk_if_ne (tgt := 21) G dX2_addStone_12 (by decide) (fun c_12 => ?_) (fun c_12 => ?_)
  · replace c_12 := (not_congr (nI_eq (a := 1) (b := 0) (by omega) (by omega))).mp c_12
    refine gk_aload_n G dX2_addStone_21 0 rfl ?_
    refine gk_get (v' := .int (nI (M 10 0))) G hinX2 (q0 := 0) rfl rfl 1 (by decide) k35 rfl (congrArg Value.int (hsT.1)) dX2_addStone_22 ?_
    refine gk_iconst (v := nI 4) G dX2_addStone_25 (by decide) ?_
    refine gk_icmp_ne (tgt := 35) G dX2_addStone_26 (by decide) (fun c_26 => ?_) (fun c_26 => ?_)
    · replace c_26 := (not_congr (nI_eq (a := M 10 0) (b := 4) (by omega) (by omega))).mp c_26
      refine gk_aload_n G dX2_addStone_35 0 rfl ?_
      refine gk_get (v' := .ref (q 2)) G hinX2 (q0 := 0) rfl rfl 2 (by decide) k9 rfl rfl dX2_addStone_36 ?_
      refine gk_aload_n G dX2_addStone_39 0 rfl ?_
      refine gk_get (v' := .int (nI (M 10 0))) G hinX2 (q0 := 0) rfl rfl 1 (by decide) k35 rfl (congrArg Value.int (hsT.1)) dX2_addStone_40 ?_
      refine gk_iload_n G dX2_addStone_43 1 rfl ?_
      refine gk_topi (fun v44 ev44 => ?_)
      refine gk_iast (w' := (gd_W cI h q F2 (gc_up B 2 (upd (B 2) (M 10 0) v44)) f kp g)) G (q0 := 1) (t0 := 0) rfl rfl (M 10 0) rfl (by omega) (by decide) rfl dX2_addStone_44 ?_
      generalize eB44 : gc_up B 2 (upd (B 2) (M 10 0) v44) = B44
      refine gk_aload_n G dX2_addStone_45 0 rfl ?_
      refine gk_dup G dX2_addStone_46 rfl ?_
      refine gk_get (v' := .int (nI (M 10 0))) G hinX2 (q0 := 0) rfl rfl 1 (by decide) k35 rfl (congrArg Value.int (hsT.1)) dX2_addStone_47 ?_
      refine gk_iconst (v := nI 1) G dX2_addStone_50 (by decide) ?_
      refine gk_iadd (v := nI ((M 10 0) + 1)) G dX2_addStone_51 (nI_add (M 10 0) 1) ?_
      refine gk_topi (fun v52 ev52 => ?_)
      refine gk_put (w' := (gd_W cI h q (upd F2 1 v52) B44 f kp g)) G hinX2 tyX2_ok nmX2 (q0 := 0) rfl rfl 1 (by decide) k35 rfl rfl rfl (Nat.le_of_ble_eq_true rfl) rfl dX2_addStone_52 ?_
      generalize eF52 : upd F2 1 v52 = F52
      refine gk_aload_n G dX2_addStone_55 0 rfl ?_
      refine gk_get (v' := .int (nI ((M 10 0) + 1))) G hinX2 (q0 := 0) rfl rfl 1 (by decide) k35 rfl (congrArg Value.int ((by rw [← eF52]; exact pk_us.trans ev52))) dX2_addStone_56 ?_
      refine gk_iconst (v := nI 1) G dX2_addStone_59 (by decide) ?_
      refine gk_isub (v := nI (M 10 0)) G dX2_addStone_60 (by rw [pk_sub (by omega), Nat.add_sub_cancel]) ?_
      exact RET _ _ _ _ _ _ (F52, B44, f, kp, g) dX2_addStone_61 rfl (by subst eF52; subst ev52; subst eB44; subst ev44; exact ⟨rfl, gr_adds_st hsT, gr_adds_now hn, (pk_un (f := F2) (x := nI (M 10 0 + 1)) (show (0 : Nat) ≠ 1 by decide)).trans hT⟩) rfl (Nat.le_of_ble_eq_true rfl) (Nat.le_of_ble_eq_true rfl)
    · replace c_26 := (nI_eq (a := M 10 0) (b := 4) (by omega) (by omega)).mp c_26
      exact absurd c_26 (by omega)
  · replace c_12 := (nI_eq (a := 1) (b := 0) (by omega) (by omega)).mp c_12
    exact absurd c_12 (by decide)
set_option maxRecDepth 100000 in
set_option maxHeartbeats 1000000 in
theorem c2_setWind_no (l : Launch) (D : va_G) (cI cZ cJ : ClassId) (h : Nat) (q : Nat → Nat) (F : Nat → Int32) (B : Nat → Nat → Int32) (f kp g : Nat → Int32) (M : gm_M) (p0 p1 : Int32) (wf : gm_wf M) (hs : gr_st F B M) (hn : gr_now f M) (hb : ¬ gm_rg p0 0 12) : gk_I l yX2_setWind wsX2_setWind ({ frames := 1, cells := 0, slots := 0, locals := 22 } : Room) D (g_T cI cZ cJ) gk_E0 [.ref h, .int p0, .int p1] (gd_W cI h q F B f kp g) 0 0 (fun (r : Int32) (u : gd_U) => r = nI 0 ∧ gd_R u M 1) (fun u => (gd_X cI h q u)) := by
  refine gk_I_of (ty := .int) (cc := cX2_setWind) (nL := 4) (by decide +kernel) rfl (Nat.le_of_ble_eq_true rfl) ?_
  intro p e s m below meth c A Q hnm hE G RET
  obtain ⟨hz1, hz2, hz3, hz4, hz5, hz6, hz7, hz8⟩ := id wf
  have hinX2 : ∀ w ∈ wsX20, w ∈ wsX2_setWind := fun w h9 => (List.mem_cons_of_mem _ (List.mem_append_right _ h9))
  have k31 := G.2.2.2.2.1 (.fieldLink RX2 31 "GustMillModel" "thrown" "I") (List.mem_cons_of_mem _ (List.mem_append_left _ (List.mem_of_getElem? (i := 0) rfl)))
  refine gk_aload_n G dX2_setWind_0 0 rfl ?_
  refine gk_iconst (v := nI 0) G dX2_setWind_1 (by decide) ?_
  refine gk_topi (fun v2 ev2 => ?_)
  refine gk_put (w' := (gd_W cI h q (upd F 0 v2) B f kp g)) G hinX2 tyX2_ok nmX2 (q0 := 0) rfl rfl 0 (by decide) k31 rfl rfl rfl (Nat.le_of_ble_eq_true rfl) rfl dX2_setWind_2 ?_
  generalize eF2 : upd F 0 v2 = F2
  have hsT : gr_st F2 B M := by rw [← eF2]; exact gr_st_0 hs
  have hT : F2 0 = nI 0 := by rw [← eF2, pk_us]; exact ev2
  refine gk_iload_n G dX2_setWind_5 1 rfl ?_
  refine gk_iconst (v := nI 0) G dX2_setWind_6 (by decide) ?_
  refine gk_bipush (v := nI 11) G dX2_setWind_7 (by decide) ?_
  refine gk_callIS (wc := []) (wr := (gd_W cI h q F2 B f kp g)) (isC := []) (isR := [0, 1, 2, 3, 4, 5, 6, 7]) G (c2_isIn l D cI cZ cJ p0 (nI 0) (nI 11)) gX2_setWind_X2_isIn rfl 3 (by decide +kernel) rfl rfl ⟨(Nat.le_of_ble_eq_true rfl), (Nat.le_of_ble_eq_true rfl)⟩ rfl gk_ok0 trivial rfl (by decide) rfl (by decide) (by decide) rfl (Nat.le_of_ble_eq_true rfl) dX2_setWind_9 ⟨(Nat.le_of_ble_eq_true rfl), (Nat.le_of_ble_eq_true rfl)⟩ (fun r9 u9 hp9 => ?_)
  obtain rfl : r9 = nI 0 := (hp9.trans (gm_b0 (gm_in0 hb (by decide) (by decide))))
  show gk_C p l e ({ frames := 1, cells := 0, slots := 0, locals := 22 } : Room) s m ([.ref h, .int p0, .int p1] : List Value).toArray below meth c 4 D A Q 0 0 (gd_W cI h q F2 B f kp g) [(0, .ref h), (1, .int p0), (2, .int p1)] 12 [.int (nI 0)]
  refine gk_if_ne (tgt := 21) G dX2_setWind_12 (by decide) (fun c_12 => ?_) (fun c_12 => ?_)
  · replace c_12 := (not_congr (nI_eq (a := 0) (b := 0) (by omega) (by omega))).mp c_12
    exact absurd c_12 (by decide)
  · replace c_12 := (nI_eq (a := 0) (b := 0) (by omega) (by omega)).mp c_12
    refine gk_aload_n G dX2_setWind_15 0 rfl ?_
    refine gk_iconst (v := nI 1) G dX2_setWind_16 (by decide) ?_
    refine gk_callIV (wr := []) G (c2_fail l D cI cZ cJ h q F2 B f kp g M (nI 1)) gX2_setWind_X2_fail rfl 1 (by decide +kernel) rfl rfl ⟨(Nat.le_of_ble_eq_true rfl), (Nat.le_of_ble_eq_true rfl)⟩ rfl (q0 := 0) rfl (T := TX2) (N := 12) rfl gk_ok0 trivial [0, 1, 2, 3, 4, 5, 6, 7] rfl (by decide) [] rfl (by decide) (by decide) rfl (Nat.le_of_ble_eq_true rfl) dX2_setWind_17 ⟨(Nat.le_of_ble_eq_true rfl), (Nat.le_of_ble_eq_true rfl)⟩ (fun r17 u17 hp17 => ?_)
    obtain rfl : r17 = nI 0 := hp17.1
    have hF17 : u17 = upd F2 0 (nI 1) := hp17.2
    have hs17 : gr_st u17 B M := by rw [hF17]; exact gr_st_0 hsT
    have hT17 : u17 0 = nI 1 := by rw [hF17, pk_us]
    show gk_C p l e ({ frames := 1, cells := 0, slots := 0, locals := 22 } : Room) s m ([.ref h, .int p0, .int p1] : List Value).toArray below meth c 4 D A Q 0 0 (gd_W cI h q u17 B f kp g) [(0, .ref h), (1, .int p0), (2, .int p1)] 20 [.int (nI 0)]
    exact RET _ _ _ _ _ _ (u17, B, f, kp, g) dX2_setWind_20 rfl ⟨rfl, hs17, hn, hT17⟩ rfl (Nat.le_of_ble_eq_true rfl) (Nat.le_of_ble_eq_true rfl)
set_option maxRecDepth 100000 in
set_option maxHeartbeats 1000000 in
theorem c2_setWind_no2 (l : Launch) (D : va_G) (cI cZ cJ : ClassId) (h : Nat) (q : Nat → Nat) (F : Nat → Int32) (B : Nat → Nat → Int32) (f kp g : Nat → Int32) (M : gm_M) (v : Nat) (p1 : Int32) (wf : gm_wf M) (hs : gr_st F B M) (hn : gr_now f M) (h1 : v < 12) (hb : ¬ gm_rg p1 0 21) : gk_I l yX2_setWind wsX2_setWind ({ frames := 1, cells := 0, slots := 0, locals := 22 } : Room) D (g_T cI cZ cJ) gk_E0 [.ref h, .int (nI v), .int p1] (gd_W cI h q F B f kp g) 0 0 (fun (r : Int32) (u : gd_U) => r = nI 0 ∧ gd_R u M 2) (fun u => (gd_X cI h q u)) := by
  refine gk_I_of (ty := .int) (cc := cX2_setWind) (nL := 4) (by decide +kernel) rfl (Nat.le_of_ble_eq_true rfl) ?_
  intro p e s m below meth c A Q hnm hE G RET
  obtain ⟨hz1, hz2, hz3, hz4, hz5, hz6, hz7, hz8⟩ := id wf
  have hinX2 : ∀ w ∈ wsX20, w ∈ wsX2_setWind := fun w h9 => (List.mem_cons_of_mem _ (List.mem_append_right _ h9))
  have k31 := G.2.2.2.2.1 (.fieldLink RX2 31 "GustMillModel" "thrown" "I") (List.mem_cons_of_mem _ (List.mem_append_left _ (List.mem_of_getElem? (i := 0) rfl)))
  refine gk_aload_n G dX2_setWind_0 0 rfl ?_
  refine gk_iconst (v := nI 0) G dX2_setWind_1 (by decide) ?_
  refine gk_topi (fun v2 ev2 => ?_)
  refine gk_put (w' := (gd_W cI h q (upd F 0 v2) B f kp g)) G hinX2 tyX2_ok nmX2 (q0 := 0) rfl rfl 0 (by decide) k31 rfl rfl rfl (Nat.le_of_ble_eq_true rfl) rfl dX2_setWind_2 ?_
  generalize eF2 : upd F 0 v2 = F2
  have hsT : gr_st F2 B M := by rw [← eF2]; exact gr_st_0 hs
  have hT : F2 0 = nI 0 := by rw [← eF2, pk_us]; exact ev2
  refine gk_iload_n G dX2_setWind_5 1 rfl ?_
  refine gk_iconst (v := nI 0) G dX2_setWind_6 (by decide) ?_
  refine gk_bipush (v := nI 11) G dX2_setWind_7 (by decide) ?_
  refine gk_callIS (wc := []) (wr := (gd_W cI h q F2 B f kp g)) (isC := []) (isR := [0, 1, 2, 3, 4, 5, 6, 7]) G (c2_isIn l D cI cZ cJ (nI v) (nI 0) (nI 11)) gX2_setWind_X2_isIn rfl 3 (by decide +kernel) rfl rfl ⟨(Nat.le_of_ble_eq_true rfl), (Nat.le_of_ble_eq_true rfl)⟩ rfl gk_ok0 trivial rfl (by decide) rfl (by decide) (by decide) rfl (Nat.le_of_ble_eq_true rfl) dX2_setWind_9 ⟨(Nat.le_of_ble_eq_true rfl), (Nat.le_of_ble_eq_true rfl)⟩ (fun r9 u9 hp9 => ?_)
  obtain rfl : r9 = nI 1 := (hp9.trans (gm_b1 (gm_in1 (by omega) (by omega) (by decide))))
  show gk_C p l e ({ frames := 1, cells := 0, slots := 0, locals := 22 } : Room) s m ([.ref h, .int (nI v), .int p1] : List Value).toArray below meth c 4 D A Q 0 0 (gd_W cI h q F2 B f kp g) [(0, .ref h), (1, .int (nI v)), (2, .int p1)] 12 [.int (nI 1)]
  refine gk_if_ne (tgt := 21) G dX2_setWind_12 (by decide) (fun c_12 => ?_) (fun c_12 => ?_)
  · replace c_12 := (not_congr (nI_eq (a := 1) (b := 0) (by omega) (by omega))).mp c_12
    refine gk_iload_n G dX2_setWind_21 2 rfl ?_
    refine gk_iconst (v := nI 0) G dX2_setWind_22 (by decide) ?_
    refine gk_bipush (v := nI 20) G dX2_setWind_23 (by decide) ?_
    refine gk_callIS (wc := []) (wr := (gd_W cI h q F2 B f kp g)) (isC := []) (isR := [0, 1, 2, 3, 4, 5, 6, 7]) G (c2_isIn l D cI cZ cJ p1 (nI 0) (nI 20)) gX2_setWind_X2_isIn rfl 3 (by decide +kernel) rfl rfl ⟨(Nat.le_of_ble_eq_true rfl), (Nat.le_of_ble_eq_true rfl)⟩ rfl gk_ok0 trivial rfl (by decide) rfl (by decide) (by decide) rfl (Nat.le_of_ble_eq_true rfl) dX2_setWind_25 ⟨(Nat.le_of_ble_eq_true rfl), (Nat.le_of_ble_eq_true rfl)⟩ (fun r25 u25 hp25 => ?_)
    obtain rfl : r25 = nI 0 := (hp25.trans (gm_b0 (gm_in0 hb (by decide) (by decide))))
    show gk_C p l e ({ frames := 1, cells := 0, slots := 0, locals := 22 } : Room) s m ([.ref h, .int (nI v), .int p1] : List Value).toArray below meth c 4 D A Q 0 0 (gd_W cI h q F2 B f kp g) [(0, .ref h), (1, .int (nI v)), (2, .int p1)] 28 [.int (nI 0)]
    refine gk_if_ne (tgt := 37) G dX2_setWind_28 (by decide) (fun c_28 => ?_) (fun c_28 => ?_)
    · replace c_28 := (not_congr (nI_eq (a := 0) (b := 0) (by omega) (by omega))).mp c_28
      exact absurd c_28 (by decide)
    · replace c_28 := (nI_eq (a := 0) (b := 0) (by omega) (by omega)).mp c_28
      refine gk_aload_n G dX2_setWind_31 0 rfl ?_
      refine gk_iconst (v := nI 2) G dX2_setWind_32 (by decide) ?_
      refine gk_callIV (wr := []) G (c2_fail l D cI cZ cJ h q F2 B f kp g M (nI 2)) gX2_setWind_X2_fail rfl 1 (by decide +kernel) rfl rfl ⟨(Nat.le_of_ble_eq_true rfl), (Nat.le_of_ble_eq_true rfl)⟩ rfl (q0 := 0) rfl (T := TX2) (N := 12) rfl gk_ok0 trivial [0, 1, 2, 3, 4, 5, 6, 7] rfl (by decide) [] rfl (by decide) (by decide) rfl (Nat.le_of_ble_eq_true rfl) dX2_setWind_33 ⟨(Nat.le_of_ble_eq_true rfl), (Nat.le_of_ble_eq_true rfl)⟩ (fun r33 u33 hp33 => ?_)
      obtain rfl : r33 = nI 0 := hp33.1
      have hF33 : u33 = upd F2 0 (nI 2) := hp33.2
      have hs33 : gr_st u33 B M := by rw [hF33]; exact gr_st_0 hsT
      have hT33 : u33 0 = nI 2 := by rw [hF33, pk_us]
      show gk_C p l e ({ frames := 1, cells := 0, slots := 0, locals := 22 } : Room) s m ([.ref h, .int (nI v), .int p1] : List Value).toArray below meth c 4 D A Q 0 0 (gd_W cI h q u33 B f kp g) [(0, .ref h), (1, .int (nI v)), (2, .int p1)] 36 [.int (nI 0)]
      exact RET _ _ _ _ _ _ (u33, B, f, kp, g) dX2_setWind_36 rfl ⟨rfl, hs33, hn, hT33⟩ rfl (Nat.le_of_ble_eq_true rfl) (Nat.le_of_ble_eq_true rfl)
  · replace c_12 := (nI_eq (a := 1) (b := 0) (by omega) (by omega)).mp c_12
    exact absurd c_12 (by decide)
set_option maxRecDepth 100000 in
set_option maxHeartbeats 1000000 in
theorem c2_setWind_ok (l : Launch) (D : va_G) (cI cZ cJ : ClassId) (h : Nat) (q : Nat → Nat) (F : Nat → Int32) (B : Nat → Nat → Int32) (f kp g : Nat → Int32) (M : gm_M) (v x : Nat) (wf : gm_wf M) (hs : gr_st F B M) (hn : gr_now f M) (h1 : v < 12) (h2 : x < 21) : gk_I l yX2_setWind wsX2_setWind ({ frames := 1, cells := 0, slots := 0, locals := 22 } : Room) D (g_T cI cZ cJ) gk_E0 [.ref h, .int (nI v), .int (nI x)] (gd_W cI h q F B f kp g) 0 0 (fun (r : Int32) (u : gd_U) => r = nI (M 0 v) ∧ gd_R u (gm_set M 0 v x) 0) (fun u => (gd_X cI h q u)) := by
  refine gk_I_of (ty := .int) (cc := cX2_setWind) (nL := 4) (by decide +kernel) rfl (Nat.le_of_ble_eq_true rfl) ?_
  intro p e s m below meth c A Q hnm hE G RET
  obtain ⟨hz1, hz2, hz3, hz4, hz5, hz6, hz7, hz8⟩ := id wf
  have hinX2 : ∀ w ∈ wsX20, w ∈ wsX2_setWind := fun w h9 => (List.mem_cons_of_mem _ (List.mem_append_right _ h9))
  have k13 := G.2.2.2.2.1 (.fieldLink RX2 13 "GustMillModel" "wind" "[I") (List.mem_cons_of_mem _ (List.mem_append_left _ (List.mem_of_getElem? (i := 1) rfl)))
  have k31 := G.2.2.2.2.1 (.fieldLink RX2 31 "GustMillModel" "thrown" "I") (List.mem_cons_of_mem _ (List.mem_append_left _ (List.mem_of_getElem? (i := 0) rfl)))
  refine gk_aload_n G dX2_setWind_0 0 rfl ?_
  refine gk_iconst (v := nI 0) G dX2_setWind_1 (by decide) ?_
  refine gk_topi (fun v2 ev2 => ?_)
  refine gk_put (w' := (gd_W cI h q (upd F 0 v2) B f kp g)) G hinX2 tyX2_ok nmX2 (q0 := 0) rfl rfl 0 (by decide) k31 rfl rfl rfl (Nat.le_of_ble_eq_true rfl) rfl dX2_setWind_2 ?_
  generalize eF2 : upd F 0 v2 = F2
  have hsT : gr_st F2 B M := by rw [← eF2]; exact gr_st_0 hs
  have hT : F2 0 = nI 0 := by rw [← eF2, pk_us]; exact ev2
  refine gk_iload_n G dX2_setWind_5 1 rfl ?_
  refine gk_iconst (v := nI 0) G dX2_setWind_6 (by decide) ?_
  refine gk_bipush (v := nI 11) G dX2_setWind_7 (by decide) ?_
  refine gk_callIS (wc := []) (wr := (gd_W cI h q F2 B f kp g)) (isC := []) (isR := [0, 1, 2, 3, 4, 5, 6, 7]) G (c2_isIn l D cI cZ cJ (nI v) (nI 0) (nI 11)) gX2_setWind_X2_isIn rfl 3 (by decide +kernel) rfl rfl ⟨(Nat.le_of_ble_eq_true rfl), (Nat.le_of_ble_eq_true rfl)⟩ rfl gk_ok0 trivial rfl (by decide) rfl (by decide) (by decide) rfl (Nat.le_of_ble_eq_true rfl) dX2_setWind_9 ⟨(Nat.le_of_ble_eq_true rfl), (Nat.le_of_ble_eq_true rfl)⟩ (fun r9 u9 hp9 => ?_)
  obtain rfl : r9 = nI 1 := (hp9.trans (gm_b1 (gm_in1 (by omega) (by omega) (by decide))))
  show gk_C p l e ({ frames := 1, cells := 0, slots := 0, locals := 22 } : Room) s m ([.ref h, .int (nI v), .int (nI x)] : List Value).toArray below meth c 4 D A Q 0 0 (gd_W cI h q F2 B f kp g) [(0, .ref h), (1, .int (nI v)), (2, .int (nI x))] 12 [.int (nI 1)]
  refine gk_if_ne (tgt := 21) G dX2_setWind_12 (by decide) (fun c_12 => ?_) (fun c_12 => ?_)
  · replace c_12 := (not_congr (nI_eq (a := 1) (b := 0) (by omega) (by omega))).mp c_12
    refine gk_iload_n G dX2_setWind_21 2 rfl ?_
    refine gk_iconst (v := nI 0) G dX2_setWind_22 (by decide) ?_
    refine gk_bipush (v := nI 20) G dX2_setWind_23 (by decide) ?_
    refine gk_callIS (wc := []) (wr := (gd_W cI h q F2 B f kp g)) (isC := []) (isR := [0, 1, 2, 3, 4, 5, 6, 7]) G (c2_isIn l D cI cZ cJ (nI x) (nI 0) (nI 20)) gX2_setWind_X2_isIn rfl 3 (by decide +kernel) rfl rfl ⟨(Nat.le_of_ble_eq_true rfl), (Nat.le_of_ble_eq_true rfl)⟩ rfl gk_ok0 trivial rfl (by decide) rfl (by decide) (by decide) rfl (Nat.le_of_ble_eq_true rfl) dX2_setWind_25 ⟨(Nat.le_of_ble_eq_true rfl), (Nat.le_of_ble_eq_true rfl)⟩ (fun r25 u25 hp25 => ?_)
    obtain rfl : r25 = nI 1 := (hp25.trans (gm_b1 (gm_in1 (by omega) (by omega) (by decide))))
    show gk_C p l e ({ frames := 1, cells := 0, slots := 0, locals := 22 } : Room) s m ([.ref h, .int (nI v), .int (nI x)] : List Value).toArray below meth c 4 D A Q 0 0 (gd_W cI h q F2 B f kp g) [(0, .ref h), (1, .int (nI v)), (2, .int (nI x))] 28 [.int (nI 1)]
    refine gk_if_ne (tgt := 37) G dX2_setWind_28 (by decide) (fun c_28 => ?_) (fun c_28 => ?_)
    · replace c_28 := (not_congr (nI_eq (a := 1) (b := 0) (by omega) (by omega))).mp c_28
      refine gk_aload_n G dX2_setWind_37 0 rfl ?_
      refine gk_get (v' := .ref (q 3)) G hinX2 (q0 := 0) rfl rfl 3 (by decide) k13 rfl rfl dX2_setWind_38 ?_
      refine gk_iload_n G dX2_setWind_41 1 rfl ?_
      refine gk_iald (v := nI (M 0 v)) G (q0 := 2) (t0 := 0) rfl rfl v rfl (by omega) (by decide) (hsT.2.2.2.2.2.1 v (by omega)) dX2_setWind_42 ?_
      refine gk_istore_n (lv' := [(3, .int (nI (M 0 v))), (0, .ref h), (1, .int (nI v)), (2, .int (nI x))]) G dX2_setWind_43 rfl (by decide) rfl ?_
      refine gk_aload_n G dX2_setWind_44 1 rfl ?_
      refine gk_get (v' := .ref (q 3)) G hinX2 (q0 := 0) rfl rfl 3 (by decide) k13 rfl rfl dX2_setWind_45 ?_
      refine gk_iload_n G dX2_setWind_48 2 rfl ?_
      refine gk_iload_n G dX2_setWind_49 3 rfl ?_
      refine gk_topi (fun v50 ev50 => ?_)
      refine gk_iast (w' := (gd_W cI h q F2 (gc_up B 3 (upd (B 3) v v50)) f kp g)) G (q0 := 2) (t0 := 0) rfl rfl v rfl (by omega) (by decide) rfl dX2_setWind_50 ?_
      generalize eB50 : gc_up B 3 (upd (B 3) v v50) = B50
      refine gk_iload_n G dX2_setWind_51 0 rfl ?_
      exact RET _ _ _ _ _ _ (F2, B50, f, kp, g) dX2_setWind_52 rfl (by subst eB50; subst ev50; exact ⟨rfl, gr_st_w hsT, gr_now_eq hn (fun k i h3 _ _ _ _ _ => gm_set_k M i (by omega)), hT⟩) rfl (Nat.le_of_ble_eq_true rfl) (Nat.le_of_ble_eq_true rfl)
    · replace c_28 := (nI_eq (a := 1) (b := 0) (by omega) (by omega)).mp c_28
      exact absurd c_28 (by decide)
  · replace c_12 := (nI_eq (a := 1) (b := 0) (by omega) (by omega)).mp c_12
    exact absurd c_12 (by decide)
set_option maxRecDepth 100000 in
set_option maxHeartbeats 1000000 in
theorem c2_setRule_no (l : Launch) (D : va_G) (cI cZ cJ : ClassId) (h : Nat) (q : Nat → Nat) (F : Nat → Int32) (B : Nat → Nat → Int32) (f kp g : Nat → Int32) (M : gm_M) (p0 : Int32) (wf : gm_wf M) (hs : gr_st F B M) (hn : gr_now f M) (hb : ¬ gm_rg p0 0 3) : gk_I l yX2_setRule wsX2_setRule ({ frames := 1, cells := 0, slots := 0, locals := 22 } : Room) D (g_T cI cZ cJ) gk_E0 [.ref h, .int p0] (gd_W cI h q F B f kp g) 0 0 (fun (r : Int32) (u : gd_U) => r = nI 0 ∧ gd_R u M 1) (fun u => (gd_X cI h q u)) := by
  refine gk_I_of (ty := .int) (cc := cX2_setRule) (nL := 3) (by decide +kernel) rfl (Nat.le_of_ble_eq_true rfl) ?_
  intro p e s m below meth c A Q hnm hE G RET
  obtain ⟨hz1, hz2, hz3, hz4, hz5, hz6, hz7, hz8⟩ := id wf
  have hinX2 : ∀ w ∈ wsX20, w ∈ wsX2_setRule := fun w h9 => (List.mem_cons_of_mem _ (List.mem_append_right _ h9))
  have k31 := G.2.2.2.2.1 (.fieldLink RX2 31 "GustMillModel" "thrown" "I") (List.mem_cons_of_mem _ (List.mem_append_left _ (List.mem_of_getElem? (i := 0) rfl)))
  refine gk_aload_n G dX2_setRule_0 0 rfl ?_
  refine gk_iconst (v := nI 0) G dX2_setRule_1 (by decide) ?_
  refine gk_topi (fun v2 ev2 => ?_)
  refine gk_put (w' := (gd_W cI h q (upd F 0 v2) B f kp g)) G hinX2 tyX2_ok nmX2 (q0 := 0) rfl rfl 0 (by decide) k31 rfl rfl rfl (Nat.le_of_ble_eq_true rfl) rfl dX2_setRule_2 ?_
  generalize eF2 : upd F 0 v2 = F2
  have hsT : gr_st F2 B M := by rw [← eF2]; exact gr_st_0 hs
  have hT : F2 0 = nI 0 := by rw [← eF2, pk_us]; exact ev2
  refine gk_iload_n G dX2_setRule_5 1 rfl ?_
  refine gk_iconst (v := nI 0) G dX2_setRule_6 (by decide) ?_
  refine gk_iconst (v := nI 2) G dX2_setRule_7 (by decide) ?_
  refine gk_callIS (wc := []) (wr := (gd_W cI h q F2 B f kp g)) (isC := []) (isR := [0, 1, 2, 3, 4, 5, 6, 7]) G (c2_isIn l D cI cZ cJ p0 (nI 0) (nI 2)) gX2_setRule_X2_isIn rfl 3 (by decide +kernel) rfl rfl ⟨(Nat.le_of_ble_eq_true rfl), (Nat.le_of_ble_eq_true rfl)⟩ rfl gk_ok0 trivial rfl (by decide) rfl (by decide) (by decide) rfl (Nat.le_of_ble_eq_true rfl) dX2_setRule_8 ⟨(Nat.le_of_ble_eq_true rfl), (Nat.le_of_ble_eq_true rfl)⟩ (fun r8 u8 hp8 => ?_)
  obtain rfl : r8 = nI 0 := (hp8.trans (gm_b0 (gm_in0 hb (by decide) (by decide))))
  show gk_C p l e ({ frames := 1, cells := 0, slots := 0, locals := 22 } : Room) s m ([.ref h, .int p0] : List Value).toArray below meth c 3 D A Q 0 0 (gd_W cI h q F2 B f kp g) [(0, .ref h), (1, .int p0)] 11 [.int (nI 0)]
  refine gk_if_ne (tgt := 20) G dX2_setRule_11 (by decide) (fun c_11 => ?_) (fun c_11 => ?_)
  · replace c_11 := (not_congr (nI_eq (a := 0) (b := 0) (by omega) (by omega))).mp c_11
    exact absurd c_11 (by decide)
  · replace c_11 := (nI_eq (a := 0) (b := 0) (by omega) (by omega)).mp c_11
    refine gk_aload_n G dX2_setRule_14 0 rfl ?_
    refine gk_iconst (v := nI 1) G dX2_setRule_15 (by decide) ?_
    refine gk_callIV (wr := []) G (c2_fail l D cI cZ cJ h q F2 B f kp g M (nI 1)) gX2_setRule_X2_fail rfl 1 (by decide +kernel) rfl rfl ⟨(Nat.le_of_ble_eq_true rfl), (Nat.le_of_ble_eq_true rfl)⟩ rfl (q0 := 0) rfl (T := TX2) (N := 12) rfl gk_ok0 trivial [0, 1, 2, 3, 4, 5, 6, 7] rfl (by decide) [] rfl (by decide) (by decide) rfl (Nat.le_of_ble_eq_true rfl) dX2_setRule_16 ⟨(Nat.le_of_ble_eq_true rfl), (Nat.le_of_ble_eq_true rfl)⟩ (fun r16 u16 hp16 => ?_)
    obtain rfl : r16 = nI 0 := hp16.1
    have hF16 : u16 = upd F2 0 (nI 1) := hp16.2
    have hs16 : gr_st u16 B M := by rw [hF16]; exact gr_st_0 hsT
    have hT16 : u16 0 = nI 1 := by rw [hF16, pk_us]
    show gk_C p l e ({ frames := 1, cells := 0, slots := 0, locals := 22 } : Room) s m ([.ref h, .int p0] : List Value).toArray below meth c 3 D A Q 0 0 (gd_W cI h q u16 B f kp g) [(0, .ref h), (1, .int p0)] 19 [.int (nI 0)]
    exact RET _ _ _ _ _ _ (u16, B, f, kp, g) dX2_setRule_19 rfl ⟨rfl, hs16, hn, hT16⟩ rfl (Nat.le_of_ble_eq_true rfl) (Nat.le_of_ble_eq_true rfl)
set_option maxRecDepth 100000 in
set_option maxHeartbeats 1000000 in
theorem c2_setRule_ok (l : Launch) (D : va_G) (cI cZ cJ : ClassId) (h : Nat) (q : Nat → Nat) (F : Nat → Int32) (B : Nat → Nat → Int32) (f kp g : Nat → Int32) (M : gm_M) (v : Nat) (wf : gm_wf M) (hs : gr_st F B M) (hn : gr_now f M) (h1 : v < 3) : gk_I l yX2_setRule wsX2_setRule ({ frames := 1, cells := 0, slots := 0, locals := 22 } : Room) D (g_T cI cZ cJ) gk_E0 [.ref h, .int (nI v)] (gd_W cI h q F B f kp g) 0 0 (fun (r : Int32) (u : gd_U) => r = nI (M 14 0) ∧ gd_R u (gm_set M 14 0 v) 0) (fun u => (gd_X cI h q u)) := by
  refine gk_I_of (ty := .int) (cc := cX2_setRule) (nL := 3) (by decide +kernel) rfl (Nat.le_of_ble_eq_true rfl) ?_
  intro p e s m below meth c A Q hnm hE G RET
  obtain ⟨hz1, hz2, hz3, hz4, hz5, hz6, hz7, hz8⟩ := id wf
  have hinX2 : ∀ w ∈ wsX20, w ∈ wsX2_setRule := fun w h9 => (List.mem_cons_of_mem _ (List.mem_append_right _ h9))
  have k31 := G.2.2.2.2.1 (.fieldLink RX2 31 "GustMillModel" "thrown" "I") (List.mem_cons_of_mem _ (List.mem_append_left _ (List.mem_of_getElem? (i := 0) rfl)))
  have k51 := G.2.2.2.2.1 (.fieldLink RX2 51 "GustMillModel" "rule" "I") (List.mem_cons_of_mem _ (List.mem_append_left _ (List.mem_of_getElem? (i := 1) rfl)))
  refine gk_aload_n G dX2_setRule_0 0 rfl ?_
  refine gk_iconst (v := nI 0) G dX2_setRule_1 (by decide) ?_
  refine gk_topi (fun v2 ev2 => ?_)
  refine gk_put (w' := (gd_W cI h q (upd F 0 v2) B f kp g)) G hinX2 tyX2_ok nmX2 (q0 := 0) rfl rfl 0 (by decide) k31 rfl rfl rfl (Nat.le_of_ble_eq_true rfl) rfl dX2_setRule_2 ?_
  generalize eF2 : upd F 0 v2 = F2
  have hsT : gr_st F2 B M := by rw [← eF2]; exact gr_st_0 hs
  have hT : F2 0 = nI 0 := by rw [← eF2, pk_us]; exact ev2
  refine gk_iload_n G dX2_setRule_5 1 rfl ?_
  refine gk_iconst (v := nI 0) G dX2_setRule_6 (by decide) ?_
  refine gk_iconst (v := nI 2) G dX2_setRule_7 (by decide) ?_
  refine gk_callIS (wc := []) (wr := (gd_W cI h q F2 B f kp g)) (isC := []) (isR := [0, 1, 2, 3, 4, 5, 6, 7]) G (c2_isIn l D cI cZ cJ (nI v) (nI 0) (nI 2)) gX2_setRule_X2_isIn rfl 3 (by decide +kernel) rfl rfl ⟨(Nat.le_of_ble_eq_true rfl), (Nat.le_of_ble_eq_true rfl)⟩ rfl gk_ok0 trivial rfl (by decide) rfl (by decide) (by decide) rfl (Nat.le_of_ble_eq_true rfl) dX2_setRule_8 ⟨(Nat.le_of_ble_eq_true rfl), (Nat.le_of_ble_eq_true rfl)⟩ (fun r8 u8 hp8 => ?_)
  obtain rfl : r8 = nI 1 := (hp8.trans (gm_b1 (gm_in1 (by omega) (by omega) (by decide))))
  show gk_C p l e ({ frames := 1, cells := 0, slots := 0, locals := 22 } : Room) s m ([.ref h, .int (nI v)] : List Value).toArray below meth c 3 D A Q 0 0 (gd_W cI h q F2 B f kp g) [(0, .ref h), (1, .int (nI v))] 11 [.int (nI 1)]
  refine gk_if_ne (tgt := 20) G dX2_setRule_11 (by decide) (fun c_11 => ?_) (fun c_11 => ?_)
  · replace c_11 := (not_congr (nI_eq (a := 1) (b := 0) (by omega) (by omega))).mp c_11
    refine gk_aload_n G dX2_setRule_20 0 rfl ?_
    refine gk_get (v' := .int (nI (M 14 0))) G hinX2 (q0 := 0) rfl rfl 4 (by decide) k51 rfl (congrArg Value.int (hsT.2.1)) dX2_setRule_21 ?_
    refine gk_istore_n (lv' := [(2, .int (nI (M 14 0))), (0, .ref h), (1, .int (nI v))]) G dX2_setRule_24 rfl (by decide) rfl ?_
    refine gk_aload_n G dX2_setRule_25 1 rfl ?_
    refine gk_iload_n G dX2_setRule_26 2 rfl ?_
    refine gk_topi (fun v27 ev27 => ?_)
    refine gk_put (w' := (gd_W cI h q (upd F2 4 v27) B f kp g)) G hinX2 tyX2_ok nmX2 (q0 := 0) rfl rfl 4 (by decide) k51 rfl rfl rfl (Nat.le_of_ble_eq_true rfl) rfl dX2_setRule_27 ?_
    generalize eF27 : upd F2 4 v27 = F27
    refine gk_iload_n G dX2_setRule_30 0 rfl ?_
    exact RET _ _ _ _ _ _ (F27, B, f, kp, g) dX2_setRule_31 rfl (by subst eF27; subst ev27; exact ⟨rfl, gr_st_r hsT, gr_now_eq hn (fun k i _ h14 _ _ _ _ => gm_set_k M i h14), (pk_un (f := F2) (x := nI v) (show (0 : Nat) ≠ 4 by decide)).trans hT⟩) rfl (Nat.le_of_ble_eq_true rfl) (Nat.le_of_ble_eq_true rfl)
  · replace c_11 := (nI_eq (a := 1) (b := 0) (by omega) (by omega)).mp c_11
    exact absurd c_11 (by decide)
set_option maxRecDepth 100000 in
set_option maxHeartbeats 1000000 in
theorem c2_setTakingOff (l : Launch) (D : va_G) (cI cZ cJ : ClassId) (h : Nat) (q : Nat → Nat) (F : Nat → Int32) (B : Nat → Nat → Int32) (f kp g : Nat → Int32) (M : gm_M) (v : Nat) (wf : gm_wf M) (hs : gr_st F B M) (hn : gr_now f M) (hv1 : v ≤ 1) : gk_I l yX2_setTakingOff wsX2_setTakingOff ({ frames := 0, cells := 0, slots := 0, locals := 0 } : Room) D (g_T cI cZ cJ) gk_E0 [.ref h, .int (nI v)] (gd_W cI h q F B f kp g) 0 0 (fun (r : Int32) (u : gd_U) => r = nI (M 15 0) ∧ gd_R u (gm_set M 15 0 v) 0) (fun u => (gd_X cI h q u)) := by
  refine gk_I_of (ty := .boolean) (cc := cX2_setTakingOff) (nL := 3) (by decide +kernel) rfl (Nat.le_of_ble_eq_true rfl) ?_
  intro p e s m below meth c A Q hnm hE G RET
  obtain ⟨hz1, hz2, hz3, hz4, hz5, hz6, hz7, hz8⟩ := id wf
  have hinX2 : ∀ w ∈ wsX20, w ∈ wsX2_setTakingOff := fun w h9 => (List.mem_cons_of_mem _ (List.mem_append_right _ h9))
  have k31 := G.2.2.2.2.1 (.fieldLink RX2 31 "GustMillModel" "thrown" "I") (List.mem_cons_of_mem _ (List.mem_append_left _ (List.mem_of_getElem? (i := 0) rfl)))
  have k62 := G.2.2.2.2.1 (.fieldLink RX2 62 "GustMillModel" "isAllowed" "Z") (List.mem_cons_of_mem _ (List.mem_append_left _ (List.mem_of_getElem? (i := 1) rfl)))
  refine gk_aload_n G dX2_setTakingOff_0 0 rfl ?_
  refine gk_iconst (v := nI 0) G dX2_setTakingOff_1 (by decide) ?_
  refine gk_topi (fun v2 ev2 => ?_)
  refine gk_put (w' := (gd_W cI h q (upd F 0 v2) B f kp g)) G hinX2 tyX2_ok nmX2 (q0 := 0) rfl rfl 0 (by decide) k31 rfl rfl rfl (Nat.le_of_ble_eq_true rfl) rfl dX2_setTakingOff_2 ?_
  generalize eF2 : upd F 0 v2 = F2
  have hsT : gr_st F2 B M := by rw [← eF2]; exact gr_st_0 hs
  have hT : F2 0 = nI 0 := by rw [← eF2, pk_us]; exact ev2
  refine gk_aload_n G dX2_setTakingOff_5 0 rfl ?_
  refine gk_get (v' := .int (nI (M 15 0))) G hinX2 (q0 := 0) rfl rfl 5 (by decide) k62 rfl (congrArg Value.int (hsT.2.2.1)) dX2_setTakingOff_6 ?_
  refine gk_istore_n (lv' := [(2, .int (nI (M 15 0))), (0, .ref h), (1, .int (nI v))]) G dX2_setTakingOff_9 rfl (by decide) rfl ?_
  refine gk_aload_n G dX2_setTakingOff_10 1 rfl ?_
  refine gk_iload_n G dX2_setTakingOff_11 2 rfl ?_
  refine gk_topi (fun v12 ev12 => ?_)
  refine gk_put (w' := (gd_W cI h q (upd F2 5 v12) B f kp g)) G hinX2 tyX2_ok nmX2 (q0 := 0) rfl rfl 5 (by decide) k62 rfl (gk_nz (by rw [ev12]; exact gm_01 hv1)) (gk_fz (by rw [ev12]; exact gm_01 hv1)) (Nat.le_of_ble_eq_true rfl) rfl dX2_setTakingOff_12 ?_
  generalize eF12 : upd F2 5 v12 = F12
  refine gk_iload_n G dX2_setTakingOff_15 0 rfl ?_
  exact RET _ _ _ _ _ _ (F12, B, f, kp, g) dX2_setTakingOff_16 (gk_nz (gm_01 hz4)) (by subst eF12; subst ev12; exact ⟨rfl, gr_st_o hsT, gr_now_eq hn (fun k i _ _ h15 _ _ _ => gm_set_k M i h15), (pk_un (f := F2) (x := nI v) (show (0 : Nat) ≠ 5 by decide)).trans hT⟩) rfl (Nat.le_of_ble_eq_true rfl) (Nat.le_of_ble_eq_true rfl)
