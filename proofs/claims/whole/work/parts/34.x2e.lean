theorem gr_now_eq {f : Nat → Int32} {M X : gm_M} (h : gr_now f M) (e : ∀ k i, 3 ≤ k → k ≠ 14 → k ≠ 15 → k ≠ 6 → k ≠ 4 → k ≠ 10 → X k i = M k i) : gr_now f X := by
  obtain ⟨h0, h1, h2, r5, r8, r7⟩ := h
  have e11 : X 11 0 = M 11 0 := e 11 0 (by decide) (by decide) (by decide) (by decide) (by decide) (by decide)
  refine ⟨by rw [e 9 0 (by decide) (by decide) (by decide) (by decide) (by decide) (by decide)]; exact h0, by rw [e 13 0 (by decide) (by decide) (by decide) (by decide) (by decide) (by decide)]; exact h1, by rw [e 16 0 (by decide) (by decide) (by decide) (by decide) (by decide) (by decide)]; exact h2, fun i hi => ?_, fun i hi => ?_, fun i hi => ?_⟩
  · rw [e11] at hi; rw [e 5 i (by decide) (by decide) (by decide) (by decide) (by decide) (by decide)]; exact r5 i hi
  · rw [e11] at hi; rw [e 8 i (by decide) (by decide) (by decide) (by decide) (by decide) (by decide)]; exact r8 i hi
  · rw [e11] at hi; rw [e 7 i (by decide) (by decide) (by decide) (by decide) (by decide) (by decide)]; exact r7 i hi
theorem gr_st_of {F F' : Nat → Int32} {B B' : Nat → Nat → Int32} {M X : gm_M} (h : gr_st F B M) (h1 : F' 1 = nI (X 10 0)) (h4 : F' 4 = nI (X 14 0)) (h5 : F' 5 = nI (X 15 0)) (h6 : F' 6 = nI (X 11 0)) (r2 : ∀ i, i < X 10 0 → B' 2 i = nI (X 1 i)) (r3 : ∀ i, i < 12 → B' 3 i = nI (X 0 i)) (r7 : ∀ i, i < X 11 0 → B' 7 i = nI (X 4 i)) (r8 : ∀ i, i < X 11 0 → B' 8 i = nI (X 6 i)) : gr_st F' B' X := ⟨h1, h4, h5, h6, r2, r3, r7, r8⟩
theorem gr_st_ru {F : Nat → Int32} {B : Nat → Nat → Int32} {M : gm_M} {r o : Nat} (h : gr_st F B M) : gr_st (upd (upd F 4 (nI r)) 5 (nI o)) B (gm_ru M r o) := by
  obtain ⟨h1, h4, h5, h6, r2, r3, r7, r8⟩ := h
  have e : ∀ k i, k ≠ 14 → k ≠ 15 → gm_ru M r o k i = M k i := fun k i a b => gm_ru_ne M r o i a b
  refine ⟨?_, ?_, ?_, ?_, fun i hi => ?_, fun i hi => ?_, fun i hi => ?_, fun i hi => ?_⟩
  · rw [pk_un (by decide), pk_un (by decide), e 10 0 (by decide) (by decide)]; exact h1
  · rw [pk_un (by decide), pk_us]; unfold gm_ru; rw [gm_set_k _ _ (by decide), gm_set_at]
  · rw [pk_us]; unfold gm_ru; rw [gm_set_at]
  · rw [pk_un (by decide), pk_un (by decide), e 11 0 (by decide) (by decide)]; exact h6
  · rw [e 10 0 (by decide) (by decide)] at hi; rw [e 1 i (by decide) (by decide)]; exact r2 i hi
  · rw [e 0 i (by decide) (by decide)]; exact r3 i hi
  · rw [e 11 0 (by decide) (by decide)] at hi; rw [e 4 i (by decide) (by decide)]; exact r7 i hi
  · rw [e 11 0 (by decide) (by decide)] at hi; rw [e 6 i (by decide) (by decide)]; exact r8 i hi
theorem gr_st_F {F F' : Nat → Int32} {B : Nat → Nat → Int32} {M : gm_M} (h : gr_st F B M) (h1 : F' 1 = F 1) (h4 : F' 4 = F 4) (h5 : F' 5 = F 5) (h6 : F' 6 = F 6) : gr_st F' B M := by
  obtain ⟨a1, a4, a5, a6, r2, r3, r7, r8⟩ := h
  exact ⟨by rw [h1]; exact a1, by rw [h4]; exact a4, by rw [h5]; exact a5, by rw [h6]; exact a6, r2, r3, r7, r8⟩
theorem gr_add_st {F : Nat → Int32} {B : Nat → Nat → Int32} {M : gm_M} {b g t : Nat} (h : gr_st F B M) : gr_st (upd F 6 (nI (M 11 0 + 1))) (gc_up (gc_up B 7 (upd (B 7) (M 11 0) (nI b))) 8 (upd (B 8) (M 11 0) (nI t))) (gm_add M b g t) := by
  obtain ⟨h1, h4, h5, h6, r2, r3, r7, r8⟩ := h
  have e : ∀ k i, (k < 4 ∨ 8 < k) → k ≠ 11 → gm_add M b g t k i = M k i := fun k i h1 h2 => gm_add_k M b g t i h1 h2
  have ei : ∀ k i, 4 ≤ k → k ≤ 8 → i ≠ M 11 0 → gm_add M b g t k i = M k i := fun k i h1 h2 h3 => gm_add_i M b g t h1 h2 h3
  obtain ⟨a4, a5, a6, a7, a8⟩ := gm_add_at M b g t
  refine ⟨?_, ?_, ?_, ?_, fun i hi => ?_, fun i hi => ?_, fun i hi => ?_, fun i hi => ?_⟩
  · rw [pk_un (by decide), e 10 0 (by decide) (by decide)]; exact h1
  · rw [pk_un (by decide), e 14 0 (by decide) (by decide)]; exact h4
  · rw [pk_un (by decide), e 15 0 (by decide) (by decide)]; exact h5
  · rw [pk_us, gm_add_11]
  · rw [e 10 0 (by decide) (by decide)] at hi
    rw [gc_up_ne _ _ (by decide), gc_up_ne _ _ (by decide), e 1 i (by decide) (by decide)]; exact r2 i hi
  · rw [gc_up_ne _ _ (by decide), gc_up_ne _ _ (by decide), e 0 i (by decide) (by decide)]; exact r3 i hi
  · rw [gm_add_11] at hi
    rw [gc_up_ne _ _ (by decide), gc_up_at]
    by_cases q : i = M 11 0
    · rw [q, pk_us, a4]
    · rw [pk_un q, ei 4 i (by decide) (by decide) q]; exact r7 i (by omega)
  · rw [gm_add_11] at hi
    rw [gc_up_at]
    by_cases q : i = M 11 0
    · rw [q, pk_us, a6]
    · rw [pk_un q, ei 6 i (by decide) (by decide) q]; exact r8 i (by omega)
theorem gr_add_now {f : Nat → Int32} {M : gm_M} {b g t : Nat} (h : gr_now f M) (h16 : M 11 0 < 16) : gr_now (upd (upd (upd f (3 + M 11 0) (nI g)) (19 + M 11 0) (-1)) (35 + M 11 0) (-1)) (gm_add M b g t) := by
  obtain ⟨h0, h1, h2, r5, r8, r7⟩ := h
  have e : ∀ k i, (k < 4 ∨ 8 < k) → k ≠ 11 → gm_add M b g t k i = M k i := fun k i h1 h2 => gm_add_k M b g t i h1 h2
  have ei : ∀ k i, 4 ≤ k → k ≤ 8 → i ≠ M 11 0 → gm_add M b g t k i = M k i := fun k i h1 h2 h3 => gm_add_i M b g t h1 h2 h3
  obtain ⟨a4, a5, a6, a7, a8⟩ := gm_add_at M b g t
  refine ⟨?_, ?_, ?_, fun i hi => ?_, fun i hi => ?_, fun i hi => ?_⟩
  · rw [pk_un (by omega), pk_un (by omega), pk_un (by omega), e 9 0 (by decide) (by decide)]; exact h0
  · rw [pk_un (by omega), pk_un (by omega), pk_un (by omega), e 13 0 (by decide) (by decide)]; exact h1
  · rw [pk_un (by omega), pk_un (by omega), pk_un (by omega), e 16 0 (by decide) (by decide)]; exact h2
  · rw [gm_add_11] at hi
    rw [pk_un (by omega), pk_un (by omega)]
    by_cases q : i = M 11 0
    · rw [q, pk_us, a5]
    · rw [pk_un (by omega), ei 5 i (by decide) (by decide) q]; exact r5 i (by omega)
  · rw [gm_add_11] at hi
    rw [pk_un (by omega)]
    by_cases q : i = M 11 0
    · rw [q, pk_us, a8]; exact gm_e0.symm
    · rw [pk_un (by omega), pk_un (by omega), ei 8 i (by decide) (by decide) q]; exact r8 i (by omega)
  · rw [gm_add_11] at hi
    by_cases q : i = M 11 0
    · rw [q, pk_us, a7]; exact gm_e0.symm
    · rw [pk_un (by omega), pk_un (by omega), pk_un (by omega), ei 7 i (by decide) (by decide) q]; exact r7 i (by omega)
abbrev gd_U : Type := (Nat → Int32) × (Nat → Nat → Int32) × (Nat → Int32) × (Nat → Int32) × (Nat → Int32)
def gd_X (cI : ClassId) (h : Nat) (q : Nat → Nat) (u : gd_U) : va_W := gd_W cI h q u.1 u.2.1 u.2.2.1 u.2.2.2.1 u.2.2.2.2
def gd_R (u : gd_U) (M : gm_M) (c : Nat) : Prop := gr_st u.1 u.2.1 M ∧ gr_now u.2.2.1 M ∧ u.1 0 = nI c
abbrev gm_wbt (M : gm_M) (g t : Nat) : Prop := gm_hrs (gm_add M 0 g t) 200 8 (M 11 0) ≠ 0 ∧ gm_hrs (gm_add M 0 g t) 200 8 (M 11 0) - 1 ≤ t

set_option maxRecDepth 100000 in
set_option maxHeartbeats 1000000 in
theorem c2_lostBy (l : Launch) (D : va_G) (cI cZ cJ : ClassId) (h : Nat) (q : Nat → Nat) (F : Nat → Int32) (B : Nat → Nat → Int32) (f kp g : Nat → Int32) (M : gm_M) (r0 o0 : Nat) (wf : gm_wf M) (hs : gr_st F B M) (hn : gr_now f M) (hrest : gm_rest M) (hh : M 9 0 < 1999000) (hr0 : r0 ≤ 2) (ho : o0 ≤ 1) : gk_I l yX2_lostBy wsX2_lostBy ({ frames := 4, cells := 0, slots := 0, locals := 90 } : Room) D (g_T cI cZ cJ) gk_E0 [.ref h, .int (nI r0), .int (nI o0)] (gd_W cI h q F B f kp g) 0 0 (fun (r : Int32) (u : (Nat → Int32) × (Nat → Int32) × (Nat → Int32) × (Nat → Int32)) => r = nI (gm_lw M r0 o0) ∧ gr_st u.1 B M ∧ gr_now u.2.1 M ∧ u.1 0 = F 0) (fun u => (gd_W cI h q u.1 B u.2.1 u.2.2.1 u.2.2.2)) := by
  refine gk_I_of (ty := .int) (cc := cX2_lostBy) (nL := 6) (by decide +kernel) rfl (Nat.le_of_ble_eq_true rfl) ?_
  intro p e s m below meth c A Q hnm hE G RET
  obtain ⟨hz1, hz2, hz3, hz4, hz5, hz6, hz7, hz8⟩ := id wf
  have hinX2 : ∀ w ∈ wsX20, w ∈ wsX2_lostBy := fun w h9 => (List.mem_cons_of_mem _ (List.mem_append_right _ h9))
  have k51 := G.2.2.2.2.1 (.fieldLink RX2 51 "GustMillModel" "rule" "I") (List.mem_cons_of_mem _ (List.mem_append_left _ (List.mem_append_left _ (List.mem_of_getElem? (i := 0) rfl))))
  have k62 := G.2.2.2.2.1 (.fieldLink RX2 62 "GustMillModel" "isAllowed" "Z") (List.mem_cons_of_mem _ (List.mem_append_left _ (List.mem_append_left _ (List.mem_of_getElem? (i := 1) rfl))))
  refine gk_aload_n G dX2_lostBy_0 0 rfl ?_
  refine gk_get (v' := .int (nI (M 14 0))) G hinX2 (q0 := 0) rfl rfl 4 (by decide) k51 rfl (congrArg Value.int (hs.2.1)) dX2_lostBy_1 ?_
  refine gk_istore_n (lv' := [(3, .int (nI (M 14 0))), (0, .ref h), (1, .int (nI r0)), (2, .int (nI o0))]) G dX2_lostBy_4 rfl (by decide) rfl ?_
  refine gk_aload_n G dX2_lostBy_5 1 rfl ?_
  refine gk_get (v' := .int (nI (M 15 0))) G hinX2 (q0 := 0) rfl rfl 5 (by decide) k62 rfl (congrArg Value.int (hs.2.2.1)) dX2_lostBy_6 ?_
  refine gk_istore (lv' := [(4, .int (nI (M 15 0))), (3, .int (nI (M 14 0))), (0, .ref h), (1, .int (nI r0)), (2, .int (nI o0))]) G dX2_lostBy_9 (by decide) rfl ?_
  refine gk_aload_n G dX2_lostBy_11 2 rfl ?_
  refine gk_iload_n G dX2_lostBy_12 3 rfl ?_
  refine gk_topi (fun v13 ev13 => ?_)
  refine gk_put (w' := (gd_W cI h q (upd F 4 v13) B f kp g)) G hinX2 tyX2_ok nmX2 (q0 := 0) rfl rfl 4 (by decide) k51 rfl rfl rfl (Nat.le_of_ble_eq_true rfl) rfl dX2_lostBy_13 ?_
  generalize eF13 : upd F 4 v13 = F13
  refine gk_aload_n G dX2_lostBy_16 2 rfl ?_
  refine gk_iload_n G dX2_lostBy_17 4 rfl ?_
  refine gk_topi (fun v18 ev18 => ?_)
  refine gk_put (w' := (gd_W cI h q (upd F13 5 v18) B f kp g)) G hinX2 tyX2_ok nmX2 (q0 := 0) rfl rfl 5 (by decide) k62 rfl (gk_nz (by rw [ev18]; exact gm_01 ho)) (gk_fz (by rw [ev18]; exact gm_01 ho)) (Nat.le_of_ble_eq_true rfl) rfl dX2_lostBy_18 ?_
  generalize eF18 : upd F13 5 v18 = F18
  have hs18 : gr_st F18 B (gm_ru M r0 o0) := by subst eF18; subst ev18; subst eF13; subst ev13; exact gr_st_ru hs
  have hn18 : gr_now f (gm_ru M r0 o0) := gr_now_eq hn (fun k i _ a b _ _ _ => gm_ru_ne M r0 o0 i a b)
  have wf18 := gm_ru_wf wf hr0 ho
  have rest18 := gm_ru_rest (r := r0) (o := o0) hrest
  have e918 : (gm_ru M r0 o0) 9 0 = M 9 0 := gm_ru_ne M r0 o0 0 (by decide) (by decide)
  have e1118 : (gm_hrs (gm_ru M r0 o0) 200) 11 0 = M 11 0 := (gm_hrs_ne _ 0 (by decide) (by decide) (by decide) (by decide) (by decide) (by decide) (by decide) 200).trans (gm_ru_ne M r0 o0 0 (by decide) (by decide))
  have e9h : (gm_hrs (gm_ru M r0 o0) 200) 9 0 = M 9 0 + 200 := (gm_hrs_9 _ 200).trans (congrArg (· + 200) e918)
  have hsh : gr_st F18 B (gm_hrs (gm_ru M r0 o0) 200) := gr_st_eq hs18 (fun k0 i h3 h5 h7 h8 h9 h13 h16 => gm_hrs_ne _ i h3 h7 h13 h5 h16 h8 h9 _)
  refine gk_aload_n G dX2_lostBy_21 2 rfl ?_
  refine gk_callVV (wr := []) G (c2_keep l D cI cZ cJ h q F18 B f kp g (gm_ru M r0 o0) ) gX2_lostBy_X2_keep rfl 0 (by decide +kernel) rfl rfl ⟨(Nat.le_of_ble_eq_true rfl), (Nat.le_of_ble_eq_true rfl)⟩ rfl (q0 := 0) rfl (T := TX2) (N := 12) rfl gk_ok0 trivial [0, 1, 2, 3, 4, 5, 6, 7] rfl (by decide) [] rfl (by decide) (by decide) rfl (Nat.le_of_ble_eq_true rfl) dX2_lostBy_22 ⟨(Nat.le_of_ble_eq_true rfl), (Nat.le_of_ble_eq_true rfl)⟩ (fun u22 hp22 => ?_)
  show gk_C p l e ({ frames := 4, cells := 0, slots := 0, locals := 90 } : Room) s m ([.ref h, .int (nI r0), .int (nI o0)] : List Value).toArray below meth c 6 D A Q 0 0 (gd_W cI h q F18 B f (va_cpy f kp 0 0 51) g) [(4, .int (nI (M 15 0))), (3, .int (nI (M 14 0))), (0, .ref h), (1, .int (nI r0)), (2, .int (nI o0))] 25 []
  refine gk_aload_n G dX2_lostBy_25 2 rfl ?_
  refine gk_sipush (v := nI 200) G dX2_lostBy_26 (by decide) ?_
  refine gk_callVV (wr := []) G (c2_hoursOn l D cI cZ cJ h q F18 B f (va_cpy f kp 0 0 51) g (gm_ru M r0 o0) 200 wf18 hs18 hn18 rest18 (by omega)) gX2_lostBy_X2_hoursOn rfl 1 (by decide +kernel) rfl rfl ⟨(Nat.le_of_ble_eq_true rfl), (Nat.le_of_ble_eq_true rfl)⟩ rfl (q0 := 0) rfl (T := TX2) (N := 12) rfl gk_ok0 trivial [0, 1, 2, 3, 4, 5, 6, 7] rfl (by decide) [] rfl (by decide) (by decide) rfl (Nat.le_of_ble_eq_true rfl) dX2_lostBy_29 ⟨(Nat.le_of_ble_eq_true rfl), (Nat.le_of_ble_eq_true rfl)⟩ (fun u29 hp29 => ?_)
  obtain ⟨f29, g29⟩ := u29
  have hn29 : gr_now f29 (gm_hrs (gm_ru M r0 o0) 200) := hp29
  show gk_C p l e ({ frames := 4, cells := 0, slots := 0, locals := 90 } : Room) s m ([.ref h, .int (nI r0), .int (nI o0)] : List Value).toArray below meth c 6 D A Q 0 0 (gd_W cI h q F18 B f29 (va_cpy f kp 0 0 51) g29) [(4, .int (nI (M 15 0))), (3, .int (nI (M 14 0))), (0, .ref h), (1, .int (nI r0)), (2, .int (nI o0))] 32 []
  refine gk_aload_n G dX2_lostBy_32 2 rfl ?_
  refine gk_sipush (v := nI 200) G dX2_lostBy_33 (by decide) ?_
  refine gk_callIV (wr := []) G (c2_lost l D cI cZ cJ h q F18 B f29 (va_cpy f kp 0 0 51) g29 (gm_hrs (gm_ru M r0 o0) 200) 200 (gm_hrs_wf wf18 200) hsh hn29 (by omega)) gX2_lostBy_X2_lost rfl 1 (by decide +kernel) rfl rfl ⟨(Nat.le_of_ble_eq_true rfl), (Nat.le_of_ble_eq_true rfl)⟩ rfl (q0 := 0) rfl (T := TX2) (N := 12) rfl gk_ok0 trivial [0, 1, 2, 3, 4, 5, 6, 7] rfl (by decide) [] rfl (by decide) (by decide) rfl (Nat.le_of_ble_eq_true rfl) dX2_lostBy_36 ⟨(Nat.le_of_ble_eq_true rfl), (Nat.le_of_ble_eq_true rfl)⟩ (fun r36 u36 hp36 => ?_)
  obtain rfl : r36 = nI (gm_lw M r0 o0) := by have t9 := hp36; rw [e1118] at t9; exact t9
  show gk_C p l e ({ frames := 4, cells := 0, slots := 0, locals := 90 } : Room) s m ([.ref h, .int (nI r0), .int (nI o0)] : List Value).toArray below meth c 6 D A Q 0 0 (gd_W cI h q F18 B f29 (va_cpy f kp 0 0 51) g29) [(4, .int (nI (M 15 0))), (3, .int (nI (M 14 0))), (0, .ref h), (1, .int (nI r0)), (2, .int (nI o0))] 39 [.int (nI (gm_lw M r0 o0))]
  refine gk_istore (lv' := [(5, .int (nI (gm_lw M r0 o0))), (4, .int (nI (M 15 0))), (3, .int (nI (M 14 0))), (0, .ref h), (1, .int (nI r0)), (2, .int (nI o0))]) G dX2_lostBy_39 (by decide) rfl ?_
  refine gk_aload_n G dX2_lostBy_41 3 rfl ?_
  refine gk_callVV (wr := []) G (c2_bringBack l D cI cZ cJ h q F18 B f29 (va_cpy f kp 0 0 51) g29 (gm_hrs (gm_ru M r0 o0) 200) ) gX2_lostBy_X2_bringBack rfl 0 (by decide +kernel) rfl rfl ⟨(Nat.le_of_ble_eq_true rfl), (Nat.le_of_ble_eq_true rfl)⟩ rfl (q0 := 0) rfl (T := TX2) (N := 12) rfl gk_ok0 trivial [0, 1, 2, 3, 4, 5, 6, 7] rfl (by decide) [] rfl (by decide) (by decide) rfl (Nat.le_of_ble_eq_true rfl) dX2_lostBy_42 ⟨(Nat.le_of_ble_eq_true rfl), (Nat.le_of_ble_eq_true rfl)⟩ (fun u42 hp42 => ?_)
  have hn42 : gr_now (va_cpy (va_cpy f kp 0 0 51) f29 0 0 51) (M) := gr_now_cp hn (by omega) (fun j hj => by rw [gm_cpy51 hj, gm_cpy51 hj])
  show gk_C p l e ({ frames := 4, cells := 0, slots := 0, locals := 90 } : Room) s m ([.ref h, .int (nI r0), .int (nI o0)] : List Value).toArray below meth c 6 D A Q 0 0 (gd_W cI h q F18 B (va_cpy (va_cpy f kp 0 0 51) f29 0 0 51) (va_cpy f kp 0 0 51) g29) [(5, .int (nI (gm_lw M r0 o0))), (4, .int (nI (M 15 0))), (3, .int (nI (M 14 0))), (0, .ref h), (1, .int (nI r0)), (2, .int (nI o0))] 45 []
  refine gk_aload_n G dX2_lostBy_45 3 rfl ?_
  refine gk_iload_n G dX2_lostBy_46 2 rfl ?_
  refine gk_topi (fun v47 ev47 => ?_)
  refine gk_put (w' := (gd_W cI h q (upd F18 4 v47) B (va_cpy (va_cpy f kp 0 0 51) f29 0 0 51) (va_cpy f kp 0 0 51) g29)) G hinX2 tyX2_ok nmX2 (q0 := 0) rfl rfl 4 (by decide) k51 rfl rfl rfl (Nat.le_of_ble_eq_true rfl) rfl dX2_lostBy_47 ?_
  generalize eF47 : upd F18 4 v47 = F47
  refine gk_aload_n G dX2_lostBy_50 3 rfl ?_
  refine gk_iload G dX2_lostBy_51 1 rfl ?_
  refine gk_topi (fun v53 ev53 => ?_)
  refine gk_put (w' := (gd_W cI h q (upd F47 5 v53) B (va_cpy (va_cpy f kp 0 0 51) f29 0 0 51) (va_cpy f kp 0 0 51) g29)) G hinX2 tyX2_ok nmX2 (q0 := 0) rfl rfl 5 (by decide) k62 rfl (gk_nz (by rw [ev53]; exact gm_01 hz4)) (gk_fz (by rw [ev53]; exact gm_01 hz4)) (Nat.le_of_ble_eq_true rfl) rfl dX2_lostBy_53 ?_
  generalize eF53 : upd F47 5 v53 = F53
  refine gk_iload G dX2_lostBy_56 0 rfl ?_
  exact RET _ _ _ _ _ _ (F53, (va_cpy (va_cpy f kp 0 0 51) f29 0 0 51), (va_cpy f kp 0 0 51), g29) dX2_lostBy_58 rfl ⟨rfl, gr_st_F hs (by show F53 1 = _; rw [← eF53, pk_un (by decide), ← eF47, pk_un (by decide), ← eF18, pk_un (by decide), ← eF13, pk_un (by decide)]) (by show F53 4 = _; rw [← eF53, pk_un (by decide), ← eF47, pk_us, ev47]; exact hs.2.1.symm) (by show F53 5 = _; rw [← eF53, pk_us, ev53]; exact hs.2.2.1.symm) (by show F53 6 = _; rw [← eF53, pk_un (by decide), ← eF47, pk_un (by decide), ← eF18, pk_un (by decide), ← eF13, pk_un (by decide)]), hn42, by show F53 0 = _; rw [← eF53, pk_un (by decide), ← eF47, pk_un (by decide), ← eF18, pk_un (by decide), ← eF13, pk_un (by decide)]⟩ rfl (Nat.le_of_ble_eq_true rfl) (Nat.le_of_ble_eq_true rfl)
set_option maxRecDepth 100000 in
set_option maxHeartbeats 1000000 in
theorem c2_best (l : Launch) (D : va_G) (cI cZ cJ : ClassId) (h : Nat) (q : Nat → Nat) (F : Nat → Int32) (B : Nat → Nat → Int32) (f kp g : Nat → Int32) (M : gm_M) (wf : gm_wf M) (hs : gr_st F B M) (hn : gr_now f M) (hrest : gm_rest M) (hh : M 9 0 < 1999000) : gk_I l yX2_best wsX2_best ({ frames := 5, cells := 0, slots := 0, locals := 115 } : Room) D (g_T cI cZ cJ) gk_E0 [.ref h] (gd_W cI h q F B f kp g) 0 0 (fun (r : Int32) (u : (Nat → Int32) × (Nat → Int32) × (Nat → Int32) × (Nat → Int32)) => r = nI (gm_bst M 2).1 ∧ gr_st u.1 B M ∧ gr_now u.2.1 M ∧ u.1 0 = F 0) (fun u => (gd_W cI h q u.1 B u.2.1 u.2.2.1 u.2.2.2)) := by
  refine gk_I_of (ty := .int) (cc := cX2_best) (nL := 5) (by decide +kernel) rfl (Nat.le_of_ble_eq_true rfl) ?_
  intro p e s m below meth c A Q hnm hE G RET
  obtain ⟨hz1, hz2, hz3, hz4, hz5, hz6, hz7, hz8⟩ := id wf
  have hinX2 : ∀ w ∈ wsX20, w ∈ wsX2_best := fun w h9 => (List.mem_cons_of_mem _ (List.mem_append_right _ h9))
  have k62 := G.2.2.2.2.1 (.fieldLink RX2 62 "GustMillModel" "isAllowed" "Z") (List.mem_cons_of_mem _ (List.mem_append_left _ (List.mem_append_left _ (List.mem_of_getElem? (i := 0) rfl))))
  have L14 : ∀ (n : Nat) (k : Nat) (F1 : Nat → Int32) (f1 : Nat → Int32) (kp1 : Nat → Int32) (g1 : Nat → Int32), 2 - k < n → (k ≤ 2) → (gr_st F1 B M) → (gr_now f1 M) → (F1 0 = F 0) → gk_C p l e ({ frames := 5, cells := 0, slots := 0, locals := 115 } : Room) s m ([.ref h] : List Value).toArray below meth c 5 D A Q 0 0 (gd_W cI h q F1 B f1 kp1 g1) [(0, .ref h), (1, .int (nI ((gm_bst M k).1))), (2, .int (nI ((gm_bst M k).2))), (3, .int (nI (k + 1)))] 14 [] := by
    intro n
    induction n with
    | zero => intro k F1 f1 kp1 g1 h0; exact absurd h0 (Nat.not_lt_zero _)
    | succ n ih =>
      intro k F1 f1 kp1 g1 h0 w0 w1 w2 w3
      refine gk_iload_n G dX2_best_14 3 rfl ?_
      refine gk_iconst (v := nI 3) G dX2_best_15 (by decide) ?_
      refine gk_icmp_ge (tgt := 50) G dX2_best_16 (by decide) (fun c_16 => ?_) (fun c_16 => ?_)
      · replace c_16 := (nI_leI (a := 3) (b := k + 1) (by omega) (by omega)).mp c_16
        refine gk_iload_n G dX2_best_50 1 rfl ?_
        exact RET _ _ _ _ _ _ (F1, f1, kp1, g1) dX2_best_51 rfl ⟨by rw [show k = 2 by omega], w1, w2, w3⟩ rfl (Nat.le_of_ble_eq_true rfl) (Nat.le_of_ble_eq_true rfl)
      · replace c_16 := (not_congr (nI_leI (a := 3) (b := k + 1) (by omega) (by omega))).mp c_16
        have hb9 := gm_bst_lt wf hh k (by omega)
        have hl9 := gm_lw_lt wf (show k + 1 ≤ 2 by omega) hz4 hh
        refine gk_aload_n G dX2_best_19 0 rfl ?_
        refine gk_iload_n G dX2_best_20 3 rfl ?_
        refine gk_aload_n G dX2_best_21 0 rfl ?_
        refine gk_get (v' := .int (nI (M 15 0))) G hinX2 (q0 := 0) rfl rfl 5 (by decide) k62 rfl (congrArg Value.int (w1.2.2.1)) dX2_best_22 ?_
        refine gk_callIV (wr := []) G (c2_lostBy l D cI cZ cJ h q F1 B f1 kp1 g1 M (k + 1) (M 15 0) wf w1 w2 hrest hh (by omega) hz4) gX2_best_X2_lostBy rfl 2 (by decide +kernel) rfl rfl ⟨(Nat.le_of_ble_eq_true rfl), (Nat.le_of_ble_eq_true rfl)⟩ rfl (q0 := 0) rfl (T := TX2) (N := 12) rfl gk_ok0 trivial [0, 1, 2, 3, 4, 5, 6, 7] rfl (by decide) [] rfl (by decide) (by decide) rfl (Nat.le_of_ble_eq_true rfl) dX2_best_25 ⟨(Nat.le_of_ble_eq_true rfl), (Nat.le_of_ble_eq_true rfl)⟩ (fun r25 u25 hp25 => ?_)
        obtain ⟨F25, f25, kp25, g25⟩ := u25
        obtain rfl : r25 = nI (gm_lw M (k + 1) (M 15 0)) := hp25.1
        have hs25 : gr_st F25 B M := hp25.2.1
        have hn25 : gr_now f25 M := hp25.2.2.1
        have h025 : F25 0 = F1 0 := hp25.2.2.2
        show gk_C p l e ({ frames := 5, cells := 0, slots := 0, locals := 115 } : Room) s m ([.ref h] : List Value).toArray below meth c 5 D A Q 0 0 (gd_W cI h q F25 B f25 kp25 g25) [(0, .ref h), (1, .int (nI ((gm_bst M k).1))), (2, .int (nI ((gm_bst M k).2))), (3, .int (nI (k + 1)))] 28 [.int (nI (gm_lw M (k + 1) (M 15 0)))]
        refine gk_istore (lv' := [(4, .int (nI (gm_lw M (k + 1) (M 15 0)))), (0, .ref h), (1, .int (nI ((gm_bst M k).1))), (2, .int (nI ((gm_bst M k).2))), (3, .int (nI (k + 1)))]) G dX2_best_28 (by decide) rfl ?_
        refine gk_iload G dX2_best_30 0 rfl ?_
        refine gk_iload_n G dX2_best_32 3 rfl ?_
        refine gk_icmp_lt (tgt := 39) G dX2_best_33 (by decide) (fun c_33 => ?_) (fun c_33 => ?_)
        · replace c_33 := (nI_ltI (a := gm_lw M (k + 1) (M 15 0)) (b := (gm_bst M k).2) (by omega) (by omega)).mp c_33
          refine gk_iload_n G dX2_best_39 4 rfl ?_
          refine gk_istore_n (lv' := [(1, .int (nI (k + 1))), (4, .int (nI (gm_lw M (k + 1) (M 15 0)))), (0, .ref h), (2, .int (nI ((gm_bst M k).2))), (3, .int (nI (k + 1)))]) G dX2_best_40 rfl (by decide) rfl ?_
          refine gk_iload G dX2_best_41 1 rfl ?_
          refine gk_istore_n (lv' := [(2, .int (nI (gm_lw M (k + 1) (M 15 0)))), (1, .int (nI (k + 1))), (4, .int (nI (gm_lw M (k + 1) (M 15 0)))), (0, .ref h), (3, .int (nI (k + 1)))]) G dX2_best_43 rfl (by decide) rfl ?_
          refine gk_iinc (j := 4) (v := nI (k + 1 + 1)) (lv' := [(3, .int (nI (k + 1 + 1))), (2, .int (nI (gm_lw M (k + 1) (M 15 0)))), (1, .int (nI (k + 1))), (4, .int (nI (gm_lw M (k + 1) (M 15 0)))), (0, .ref h)]) G dX2_best_44 rfl (nI_add (k + 1) 1) (by decide) rfl ?_
          refine gk_goto (tgt := 14) G dX2_best_47 (by decide) ?_
          have e9 : gm_bst M (k + 1) = (k + 1, gm_lw M (k + 1) (M 15 0)) := by
            show (if gm_lw M (k + 1) (M 15 0) < (gm_bst M k).2 then (k + 1, gm_lw M (k + 1) (M 15 0)) else gm_bst M k) = _
            rw [if_pos c_33]
          have t9 := ih (k + 1) F25 f25 kp25 g25 (by omega) (by omega) hs25 hn25 (h025.trans w3)
          rw [e9] at t9
          exact gk_lsub [4,2,1,0] rfl t9
        · replace c_33 := (not_congr (nI_ltI (a := gm_lw M (k + 1) (M 15 0)) (b := (gm_bst M k).2) (by omega) (by omega))).mp c_33
          refine gk_goto (tgt := 44) G dX2_best_36 (by decide) ?_
          refine gk_iinc (j := 4) (v := nI (k + 1 + 1)) (lv' := [(3, .int (nI (k + 1 + 1))), (4, .int (nI (gm_lw M (k + 1) (M 15 0)))), (0, .ref h), (1, .int (nI ((gm_bst M k).1))), (2, .int (nI ((gm_bst M k).2)))]) G dX2_best_44 rfl (nI_add (k + 1) 1) (by decide) rfl ?_
          refine gk_goto (tgt := 14) G dX2_best_47 (by decide) ?_
          have e9 : gm_bst M (k + 1) = gm_bst M k := by
            show (if gm_lw M (k + 1) (M 15 0) < (gm_bst M k).2 then (k + 1, gm_lw M (k + 1) (M 15 0)) else gm_bst M k) = _
            rw [if_neg c_33]
          have t9 := ih (k + 1) F25 f25 kp25 g25 (by omega) (by omega) hs25 hn25 (h025.trans w3)
          rw [e9] at t9
          exact gk_lsub [2,3,4,0] rfl t9
  refine gk_iconst (v := nI 0) G dX2_best_0 (by decide) ?_
  refine gk_istore_n (lv' := [(1, .int (nI 0)), (0, .ref h)]) G dX2_best_1 rfl (by decide) rfl ?_
  refine gk_aload_n G dX2_best_2 1 rfl ?_
  refine gk_iconst (v := nI 0) G dX2_best_3 (by decide) ?_
  refine gk_aload_n G dX2_best_4 1 rfl ?_
  refine gk_get (v' := .int (nI (M 15 0))) G hinX2 (q0 := 0) rfl rfl 5 (by decide) k62 rfl (congrArg Value.int (hs.2.2.1)) dX2_best_5 ?_
  refine gk_callIV (wr := []) G (c2_lostBy l D cI cZ cJ h q F B f kp g M 0 (M 15 0) wf hs hn hrest hh (by omega) hz4) gX2_best_X2_lostBy rfl 2 (by decide +kernel) rfl rfl ⟨(Nat.le_of_ble_eq_true rfl), (Nat.le_of_ble_eq_true rfl)⟩ rfl (q0 := 0) rfl (T := TX2) (N := 12) rfl gk_ok0 trivial [0, 1, 2, 3, 4, 5, 6, 7] rfl (by decide) [] rfl (by decide) (by decide) rfl (Nat.le_of_ble_eq_true rfl) dX2_best_8 ⟨(Nat.le_of_ble_eq_true rfl), (Nat.le_of_ble_eq_true rfl)⟩ (fun r8 u8 hp8 => ?_)
  obtain ⟨F8, f8, kp8, g8⟩ := u8
  obtain rfl : r8 = nI (gm_lw M 0 (M 15 0)) := hp8.1
  have hs8 : gr_st F8 B M := hp8.2.1
  have hn8 : gr_now f8 M := hp8.2.2.1
  have h08 : F8 0 = F 0 := hp8.2.2.2
  show gk_C p l e ({ frames := 5, cells := 0, slots := 0, locals := 115 } : Room) s m ([.ref h] : List Value).toArray below meth c 5 D A Q 0 0 (gd_W cI h q F8 B f8 kp8 g8) [(1, .int (nI 0)), (0, .ref h)] 11 [.int (nI (gm_lw M 0 (M 15 0)))]
  refine gk_istore_n (lv' := [(2, .int (nI (gm_lw M 0 (M 15 0)))), (1, .int (nI 0)), (0, .ref h)]) G dX2_best_11 rfl (by decide) rfl ?_
  refine gk_iconst (v := nI 1) G dX2_best_12 (by decide) ?_
  refine gk_istore_n (lv' := [(3, .int (nI 1)), (2, .int (nI (gm_lw M 0 (M 15 0)))), (1, .int (nI 0)), (0, .ref h)]) G dX2_best_13 rfl (by decide) rfl ?_
  exact gk_lsub [3,2,1,0] rfl (L14 3 0 F8 f8 kp8 g8 (by omega) (by omega) hs8 hn8 h08)
set_option maxRecDepth 100000 in
set_option maxHeartbeats 1000000 in
theorem c2_put (l : Launch) (D : va_G) (cI cZ cJ : ClassId) (h : Nat) (q : Nat → Nat) (F : Nat → Int32) (B : Nat → Nat → Int32) (f kp g : Nat → Int32) (M : gm_M) (b0 g0 t0 : Nat) (wf : gm_wf M) (hs : gr_st F B M) (hn : gr_now f M) (h16 : M 11 0 < 16) : gk_V l yX2_put wsX2_put ({ frames := 0, cells := 0, slots := 0, locals := 0 } : Room) D (g_T cI cZ cJ) gk_E0 [.ref h, .int (nI b0), .int (nI g0), .int (nI t0)] (gd_W cI h q F B f kp g) 0 0 (fun (u : gd_U) => gr_st u.1 u.2.1 (gm_add M b0 g0 t0) ∧ gr_now u.2.2.1 (gm_add M b0 g0 t0) ∧ u.1 0 = F 0 ∧ u.2.2.2.1 = kp) (fun u => (gd_X cI h q u)) := by
  refine gk_V_of (cc := cX2_put) (nL := 4) (by decide +kernel) rfl (Nat.le_of_ble_eq_true rfl) ?_
  intro p e s m below meth c A Q hnm hE G RET
  obtain ⟨hz1, hz2, hz3, hz4, hz5, hz6, hz7, hz8⟩ := id wf
  have hinX2 : ∀ w ∈ wsX20, w ∈ wsX2_put := fun w h9 => (List.mem_cons_of_mem _ (List.mem_append_right _ h9))
  have k16 := G.2.2.2.2.1 (.fieldLink RX2 16 "GustMillModel" "baker" "[I") (List.mem_cons_of_mem _ (List.mem_append_left _ (List.mem_of_getElem? (i := 0) rfl)))
  have k19 := G.2.2.2.2.1 (.fieldLink RX2 19 "GustMillModel" "until" "[I") (List.mem_cons_of_mem _ (List.mem_append_left _ (List.mem_of_getElem? (i := 2) rfl)))
  have k22 := G.2.2.2.2.1 (.fieldLink RX2 22 "GustMillModel" "now" "[I") (List.mem_cons_of_mem _ (List.mem_append_left _ (List.mem_of_getElem? (i := 3) rfl)))
  have k42 := G.2.2.2.2.1 (.fieldLink RX2 42 "GustMillModel" "sacks" "I") (List.mem_cons_of_mem _ (List.mem_append_left _ (List.mem_of_getElem? (i := 1) rfl)))
  refine gk_aload_n G dX2_put_0 0 rfl ?_
  refine gk_get (v' := .ref (q 7)) G hinX2 (q0 := 0) rfl rfl 7 (by decide) k16 rfl rfl dX2_put_1 ?_
  refine gk_aload_n G dX2_put_4 0 rfl ?_
  refine gk_get (v' := .int (nI (M 11 0))) G hinX2 (q0 := 0) rfl rfl 6 (by decide) k42 rfl (congrArg Value.int (hs.2.2.2.1)) dX2_put_5 ?_
  refine gk_iload_n G dX2_put_8 1 rfl ?_
  refine gk_topi (fun v9 ev9 => ?_)
  refine gk_iast (w' := (gd_W cI h q F (gc_up B 7 (upd (B 7) (M 11 0) v9)) f kp g)) G (q0 := 3) (t0 := 0) rfl rfl (M 11 0) rfl (by omega) (by decide) rfl dX2_put_9 ?_
  generalize eB9 : gc_up B 7 (upd (B 7) (M 11 0) v9) = B9
  refine gk_aload_n G dX2_put_10 0 rfl ?_
  refine gk_get (v' := .ref (q 8)) G hinX2 (q0 := 0) rfl rfl 8 (by decide) k19 rfl rfl dX2_put_11 ?_
  refine gk_aload_n G dX2_put_14 0 rfl ?_
  refine gk_get (v' := .int (nI (M 11 0))) G hinX2 (q0 := 0) rfl rfl 6 (by decide) k42 rfl (congrArg Value.int (hs.2.2.2.1)) dX2_put_15 ?_
  refine gk_iload_n G dX2_put_18 3 rfl ?_
  refine gk_topi (fun v19 ev19 => ?_)
  refine gk_iast (w' := (gd_W cI h q F (gc_up B9 8 (upd (B9 8) (M 11 0) v19)) f kp g)) G (q0 := 4) (t0 := 0) rfl rfl (M 11 0) rfl (by omega) (by decide) rfl dX2_put_19 ?_
  generalize eB19 : gc_up B9 8 (upd (B9 8) (M 11 0) v19) = B19
  refine gk_aload_n G dX2_put_20 0 rfl ?_
  refine gk_get (v' := .ref (q 9)) G hinX2 (q0 := 0) rfl rfl 9 (by decide) k22 rfl rfl dX2_put_21 ?_
  refine gk_iconst (v := nI 3) G dX2_put_24 (by decide) ?_
  refine gk_aload_n G dX2_put_25 0 rfl ?_
  refine gk_get (v' := .int (nI (M 11 0))) G hinX2 (q0 := 0) rfl rfl 6 (by decide) k42 rfl (congrArg Value.int (hs.2.2.2.1)) dX2_put_26 ?_
  refine gk_iadd (v := nI (3 + (M 11 0))) G dX2_put_29 (nI_add 3 (M 11 0)) ?_
  refine gk_iload_n G dX2_put_30 2 rfl ?_
  refine gk_topi (fun v31 ev31 => ?_)
  refine gk_iast (w' := (gd_W cI h q F B19 (upd f (3 + (M 11 0)) v31) kp g)) G (q0 := 5) (t0 := 0) rfl rfl (3 + (M 11 0)) rfl (by omega) (by decide) rfl dX2_put_31 ?_
  generalize ef31 : upd f (3 + (M 11 0)) v31 = f31
  refine gk_aload_n G dX2_put_32 0 rfl ?_
  refine gk_get (v' := .ref (q 9)) G hinX2 (q0 := 0) rfl rfl 9 (by decide) k22 rfl rfl dX2_put_33 ?_
  refine gk_bipush (v := nI 19) G dX2_put_36 (by decide) ?_
  refine gk_aload_n G dX2_put_38 0 rfl ?_
  refine gk_get (v' := .int (nI (M 11 0))) G hinX2 (q0 := 0) rfl rfl 6 (by decide) k42 rfl (congrArg Value.int (hs.2.2.2.1)) dX2_put_39 ?_
  refine gk_iadd (v := nI (19 + (M 11 0))) G dX2_put_42 (nI_add 19 (M 11 0)) ?_
  refine gk_iconst (v := -1) G dX2_put_43 (by decide) ?_
  refine gk_topi (fun v44 ev44 => ?_)
  refine gk_iast (w' := (gd_W cI h q F B19 (upd f31 (19 + (M 11 0)) v44) kp g)) G (q0 := 5) (t0 := 0) rfl rfl (19 + (M 11 0)) rfl (by omega) (by decide) rfl dX2_put_44 ?_
  generalize ef44 : upd f31 (19 + (M 11 0)) v44 = f44
  refine gk_aload_n G dX2_put_45 0 rfl ?_
  refine gk_get (v' := .ref (q 9)) G hinX2 (q0 := 0) rfl rfl 9 (by decide) k22 rfl rfl dX2_put_46 ?_
  refine gk_bipush (v := nI 35) G dX2_put_49 (by decide) ?_
  refine gk_aload_n G dX2_put_51 0 rfl ?_
  refine gk_get (v' := .int (nI (M 11 0))) G hinX2 (q0 := 0) rfl rfl 6 (by decide) k42 rfl (congrArg Value.int (hs.2.2.2.1)) dX2_put_52 ?_
  refine gk_iadd (v := nI (35 + (M 11 0))) G dX2_put_55 (nI_add 35 (M 11 0)) ?_
  refine gk_iconst (v := -1) G dX2_put_56 (by decide) ?_
  refine gk_topi (fun v57 ev57 => ?_)
  refine gk_iast (w' := (gd_W cI h q F B19 (upd f44 (35 + (M 11 0)) v57) kp g)) G (q0 := 5) (t0 := 0) rfl rfl (35 + (M 11 0)) rfl (by omega) (by decide) rfl dX2_put_57 ?_
  generalize ef57 : upd f44 (35 + (M 11 0)) v57 = f57
  refine gk_aload_n G dX2_put_58 0 rfl ?_
  refine gk_dup G dX2_put_59 rfl ?_
  refine gk_get (v' := .int (nI (M 11 0))) G hinX2 (q0 := 0) rfl rfl 6 (by decide) k42 rfl (congrArg Value.int (hs.2.2.2.1)) dX2_put_60 ?_
  refine gk_iconst (v := nI 1) G dX2_put_63 (by decide) ?_
  refine gk_iadd (v := nI ((M 11 0) + 1)) G dX2_put_64 (nI_add (M 11 0) 1) ?_
  refine gk_topi (fun v65 ev65 => ?_)
  refine gk_put (w' := (gd_W cI h q (upd F 6 v65) B19 f57 kp g)) G hinX2 tyX2_ok nmX2 (q0 := 0) rfl rfl 6 (by decide) k42 rfl rfl rfl (Nat.le_of_ble_eq_true rfl) rfl dX2_put_65 ?_
  generalize eF65 : upd F 6 v65 = F65
  exact RET _ _ _ _ _ (F65, B19, f57, kp, g) dX2_put_68 (by subst eF65; subst ev65; subst ef57; subst ev57; subst ef44; subst ev44; subst ef31; subst ev31; subst eB19; subst ev19; subst eB9; subst ev9; rw [gc_up_ne _ _ (show (8 : Nat) ≠ 7 by decide)]; exact ⟨gr_add_st hs, gr_add_now hn h16, pk_un (f := F) (x := nI (M 11 0 + 1)) (show (0 : Nat) ≠ 6 by decide), rfl⟩) rfl (Nat.le_of_ble_eq_true rfl) (Nat.le_of_ble_eq_true rfl)
