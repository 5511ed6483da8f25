theorem gc_rep_set0 {F : Nat → Int32} {B : Nat → Nat → Int32} {M : gm_M} {v x : Nat} (h : gc_rep F B M) : gc_rep F (gc_up B 0 (upd (B 0) v (nI x))) (gm_set M 0 v x) := by
  obtain ⟨⟨f9, f10, f11, f12, f13, f14, f15⟩, r0, r1, r2, r4, r5, r6, r7, r8⟩ := h
  have e : ∀ k i, k ≠ 0 → gm_set M 0 v x k i = M k i := fun k i hk => gm_set_k M i hk
  have ew : ∀ i, gm_who (gm_set M 0 v x) i (M 11 0) = gm_who M i (M 11 0) := fun i => gm_who_congr _ (fun k _ => e 7 k (by decide))
  refine ⟨⟨f9, f10, f11, ?_, f13, f14, f15⟩, fun i hi => ?_, ?_, ?_, ?_, ?_, ?_, ?_, ?_⟩
  · rw [f12, e 11 0 (by decide), gm_gct_congr (X := gm_set M 0 v x) _ (fun k _ => e 8 k (by decide))]
  · rw [gc_up_at]
    by_cases q : i = v
    · subst q; rw [pk_us, gm_set_at]
    · rw [pk_un q, gm_set_i _ _ q]; exact r0 i hi
  · intro i hi; rw [gc_up_ne _ _ (by decide)]; exact r1 i hi
  · intro i hi; rw [gc_up_ne _ _ (by decide), e 11 0 (by decide), ew]; exact r2 i hi
  · intro i hi; rw [gc_up_ne _ _ (by decide)]; exact r4 i hi
  · intro i hi; rw [gc_up_ne _ _ (by decide)]; exact r5 i hi
  · intro i hi; rw [gc_up_ne _ _ (by decide)]; exact r6 i hi
  · intro i hi; rw [gc_up_ne _ _ (by decide)]; exact r7 i hi
  · intro i hi; rw [gc_up_ne _ _ (by decide)]; exact r8 i hi
theorem gc_rep_set6 {F : Nat → Int32} {B : Nat → Nat → Int32} {M : gm_M} {v x : Nat} (h : gc_rep F B M) : gc_rep F (gc_up B 6 (upd (B 6) v (nI x))) (gm_set M 6 v x) := by
  obtain ⟨⟨f9, f10, f11, f12, f13, f14, f15⟩, r0, r1, r2, r4, r5, r6, r7, r8⟩ := h
  have e : ∀ k i, k ≠ 6 → gm_set M 6 v x k i = M k i := fun k i hk => gm_set_k M i hk
  have ew : ∀ i, gm_who (gm_set M 6 v x) i (M 11 0) = gm_who M i (M 11 0) := fun i => gm_who_congr _ (fun k _ => e 7 k (by decide))
  refine ⟨⟨f9, f10, f11, ?_, f13, f14, f15⟩, ?_, ?_, ?_, ?_, ?_, fun i hi => ?_, ?_, ?_⟩
  · rw [f12, e 11 0 (by decide), gm_gct_congr (X := gm_set M 6 v x) _ (fun k _ => e 8 k (by decide))]
  · intro i hi; rw [gc_up_ne _ _ (by decide)]; exact r0 i hi
  · intro i hi; rw [gc_up_ne _ _ (by decide)]; exact r1 i hi
  · intro i hi; rw [gc_up_ne _ _ (by decide), e 11 0 (by decide), ew]; exact r2 i hi
  · intro i hi; rw [gc_up_ne _ _ (by decide)]; exact r4 i hi
  · intro i hi; rw [gc_up_ne _ _ (by decide)]; exact r5 i hi
  · rw [gc_up_at]
    by_cases q : i = v
    · subst q; rw [pk_us, gm_set_at]
    · rw [pk_un q, gm_set_i _ _ q]; exact r6 i hi
  · intro i hi; rw [gc_up_ne _ _ (by decide)]; exact r7 i hi
  · intro i hi; rw [gc_up_ne _ _ (by decide)]; exact r8 i hi
theorem gc_rep_F {F F' : Nat → Int32} {B : Nat → Nat → Int32} {M X : gm_M} {j : Nat} (h : gc_rep F B M) (hj : j = 14 ∨ j = 15) (e : ∀ k i, k ≠ j → X k i = M k i) (e1 : F' j = nI (X j 0)) (e2 : ∀ k, k ≠ j → F' k = F k) : gc_rep F' B X := by
  obtain ⟨⟨f9, f10, f11, f12, f13, f14, f15⟩, r0, r1, r2, r4, r5, r6, r7, r8⟩ := h
  have ew : ∀ i, gm_who X i (M 11 0) = gm_who M i (M 11 0) := fun i => gm_who_congr _ (fun k _ => e 7 k (by omega))
  have e11 := e 11 0 (by omega)
  have e10 := e 10 0 (by omega)
  have g14 : F' 14 = nI (X 14 0) := by
    by_cases q : j = 14
    · subst q; exact e1
    · rw [e2 14 (by omega), f14, e 14 0 (by omega)]
  have g15 : F' 15 = nI (X 15 0) := by
    by_cases q : j = 15
    · subst q; exact e1
    · rw [e2 15 (by omega), f15, e 15 0 (by omega)]
  refine ⟨⟨?_, ?_, ?_, ?_, ?_, g14, g15⟩, ?_, ?_, ?_, ?_, ?_, ?_, ?_, ?_⟩
  · rw [e2 9 (by omega), f9, e 9 0 (by omega)]
  · rw [e2 10 (by omega), f10, e10]
  · rw [e2 11 (by omega), f11, e11]
  · rw [e2 12 (by omega), f12, e11, gm_gct_congr (X := X) _ (fun k _ => e 8 k (by omega))]
  · rw [e2 13 (by omega), f13, e 13 0 (by omega)]
  · intro i hi; rw [r0 i hi, e 0 i (by omega)]
  · intro i hi; rw [r1 i (by omega), e 1 i (by omega)]
  · intro i hi; rw [e11, ew]; exact r2 i (by omega)
  · intro i hi; rw [r4 i (by omega), e 4 i (by omega)]
  · intro i hi; rw [r5 i (by omega), e 5 i (by omega)]
  · intro i hi; rw [r6 i (by omega), e 6 i (by omega)]
  · intro i hi; rw [r7 i (by omega), e 7 i (by omega)]
  · intro i hi; rw [r8 i (by omega), e 8 i (by omega)]
theorem gc_rep_set14 {F : Nat → Int32} {B : Nat → Nat → Int32} {M : gm_M} {x : Nat} (h : gc_rep F B M) : gc_rep (upd F 14 (nI x)) B (gm_set M 14 0 x) :=
  gc_rep_F h (Or.inl rfl) (fun k i hk => gm_set_k M i hk) (by rw [pk_us, gm_set_at]) (fun k hk => pk_un hk)
theorem gc_rep_set15 {F : Nat → Int32} {B : Nat → Nat → Int32} {M : gm_M} {x : Nat} (h : gc_rep F B M) : gc_rep (upd F 15 (nI x)) B (gm_set M 15 0 x) :=
  gc_rep_F h (Or.inr rfl) (fun k i hk => gm_set_k M i hk) (by rw [pk_us, gm_set_at]) (fun k hk => pk_un hk)
theorem gm_clr_one {M : gm_M} {v : Nat} (hap : gm_ap M) (hv : v < M 11 0) (h0 : M 7 v ≠ 0) : gm_same (gm_clr M (M 7 v - 1)) (gm_set M 7 v 0) := by
  intro k i hk
  rw [gm_clr_ne M _ 0 (by decide)] at hk
  by_cases h7 : k = 7
  · subst h7
    rw [gm_clr_7]
    by_cases q : i = v
    · subst q; rw [gm_set_at, if_pos (by omega)]
    · rw [gm_set_i _ _ q]
      by_cases z : M 7 i = M 7 v - 1 + 1
      · exact absurd (hap i v (by omega) hv (by omega) (by omega)) q
      · rw [if_neg z]
  · rw [gm_set_k M i h7, gm_clr_ne M _ i h7]
set_option maxRecDepth 100000 in
set_option maxHeartbeats 1000000 in
theorem c1_addStone_ok (l : Launch) (D : va_G) (cI cZ cJ : ClassId) (g h1 h2 : Nat) (q : Nat → Nat) (F : Nat → Int32) (B : Nat → Nat → Int32) (q2 : Nat → Nat) (F2 : Nat → Int32) (B2 : Nat → Nat → Int32) (M : gm_M) (v : Nat) (wf : gm_wf M) (hr : gc_rep F B M) (hv0 : 1 ≤ v) (hv : v < 10) (h4 : M 10 0 < 4) : gk_I l yX1_addStone wsX1_addStone ({ frames := 1, cells := 0, slots := 0, locals := 22 } : Room) D (g_T cI cZ cJ) gn_E [.ref g, .int (nI v)] (gw_G g h1 h2 ++ (gs_W cI cZ h1 q F B ++ (gs_W cI cZ h2 q2 F2 B2))) 0 0 (fun (r : Int32) (u : gw_U) => r = nI (M 10 0) ∧ gc_rep u.1.1 u.1.2 (gm_adds M v)) (fun u => (gw_X cI cZ g h1 h2 q q2 u)) := by
  refine gk_I_of (ty := .int) (cc := cX1_addStone) (nL := 2) (by decide +kernel) rfl (Nat.le_of_ble_eq_true rfl) ?_
  intro p e s m below meth c A Q hnm hE G RET
  obtain ⟨hz1, hz2, hz3, hz4, hz5, hz6, hz7, hz8⟩ := id wf
  have hinX0 : ∀ w ∈ wsX00, w ∈ wsX1_addStone := fun w h9 => (List.mem_cons_of_mem _ (List.mem_append_left _ (List.mem_append_left _ (List.mem_append_right _ h9))))
  have hinX1 : ∀ w ∈ wsX10, w ∈ wsX1_addStone := fun w h9 => (List.mem_cons_of_mem _ (List.mem_append_left _ (List.mem_append_left _ (List.mem_append_left _ (List.mem_append_right _ h9)))))
  have k10 := G.2.2.2.2.1 (.fieldLink RX1 10 "GustMill" "now" "LGustMill$State;") (List.mem_cons_of_mem _ (List.mem_append_left _ (List.mem_append_left _ (List.mem_append_left _ (List.mem_append_left _ (List.mem_of_getElem? (i := 4) rfl))))))
  have kN26 := gn_26 (args := ([.ref g, .int (nI v)] : List Value).toArray) hE
  refine gk_iload_n G dX1_addStone_0 1 rfl ?_
  refine gk_iconst (v := nI 1) G dX1_addStone_1 (by decide) ?_
  refine gk_icmp_lt (tgt := 11) G dX1_addStone_2 (by decide) (fun c_2 => ?_) (fun c_2 => ?_)
  · replace c_2 := (nI_ltI (a := v) (b := 1) (by omega) (by omega)).mp c_2
    exact absurd c_2 (by omega)
  · replace c_2 := (not_congr (nI_ltI (a := v) (b := 1) (by omega) (by omega))).mp c_2
    refine gk_iload_n G dX1_addStone_5 1 rfl ?_
    refine gk_bipush (v := nI 9) G dX1_addStone_6 (by decide) ?_
    refine gk_icmp_le (tgt := 21) G dX1_addStone_8 (by decide) (fun c_8 => ?_) (fun c_8 => ?_)
    · replace c_8 := (nI_leI (a := v) (b := 9) (by omega) (by omega)).mp c_8
      refine gk_aload_n G dX1_addStone_21 0 rfl ?_
      refine gk_get (v' := .ref h1) G hinX1 (q0 := 0) rfl rfl 0 (by decide) k10 rfl rfl dX1_addStone_22 ?_
      refine gk_getN (v' := .int (nI (M 10 0))) G hinX0 (q0 := 1) rfl rfl 10 (by decide) kN26 rfl (congrArg Value.int (hr.1.2.1)) dX1_addStone_25 ?_
      refine gk_iconst (v := nI 4) G dX1_addStone_28 (by decide) ?_
      refine gk_icmp_lt (tgt := 42) G dX1_addStone_29 (by decide) (fun c_29 => ?_) (fun c_29 => ?_)
      · replace c_29 := (nI_ltI (a := M 10 0) (b := 4) (by omega) (by omega)).mp c_29
        refine gk_aload_n G dX1_addStone_42 0 rfl ?_
        refine gk_get (v' := .ref h1) G hinX1 (q0 := 0) rfl rfl 0 (by decide) k10 rfl rfl dX1_addStone_43 ?_
        refine gk_iload_n G dX1_addStone_46 1 rfl ?_
        refine gk_callIV (wr := (gw_G g h1 h2 ++ (gs_W cI cZ h2 q2 F2 B2))) G (c0_placeStone l D cI cZ cJ h1 q F B M v wf hr h4) gX1_addStone_X0_placeStone rfl 1 (by decide +kernel) rfl rfl ⟨(Nat.le_of_ble_eq_true rfl), (Nat.le_of_ble_eq_true rfl)⟩ rfl (q0 := 0) rfl (T := TX0) (N := 16) rfl gk_ok0 trivial [1, 2, 3, 4, 5, 6, 7, 8, 9, 10] rfl (by decide) [0, 11, 12, 13, 14, 15, 16, 17, 18, 19, 20] rfl (by decide) (by decide) rfl (Nat.le_of_ble_eq_true rfl) dX1_addStone_47 ⟨(Nat.le_of_ble_eq_true rfl), (Nat.le_of_ble_eq_true rfl)⟩ (fun r47 u47 hp47 => ?_)
        obtain ⟨F47, B47⟩ := u47
        have hr47 : gc_rep F47 B47 (gm_adds M v) := hp47.2
        obtain rfl : r47 = nI (M 10 0) := hp47.1
        refine gk_wsub (w' := (gw_G g h1 h2 ++ (gs_W cI cZ h1 q F47 B47 ++ (gs_W cI cZ h2 q2 F2 B2)))) [0, 11, 12, 13, 14, 15, 16, 17, 18, 19, 20, 1, 2, 3, 4, 5, 6, 7, 8, 9, 10] rfl (by decide) ?_
        show gk_C p l e ({ frames := 1, cells := 0, slots := 0, locals := 22 } : Room) s m ([.ref g, .int (nI v)] : List Value).toArray below meth c 2 D A Q 0 0 (gw_G g h1 h2 ++ (gs_W cI cZ h1 q F47 B47 ++ (gs_W cI cZ h2 q2 F2 B2))) [(0, .ref g), (1, .int (nI v))] 50 [.int (nI (M 10 0))]
        exact RET _ _ _ _ _ _ ((F47, B47), (F2, B2)) dX1_addStone_50 rfl ⟨rfl, hr47⟩ rfl (Nat.le_of_ble_eq_true rfl) (Nat.le_of_ble_eq_true rfl)
      · replace c_29 := (not_congr (nI_ltI (a := M 10 0) (b := 4) (by omega) (by omega))).mp c_29
        exact absurd c_29 (by omega)
    · replace c_8 := (not_congr (nI_leI (a := v) (b := 9) (by omega) (by omega))).mp c_8
      exact absurd c_8 (by omega)
set_option maxRecDepth 100000 in
set_option maxHeartbeats 1000000 in
theorem c1_setWind_ok (l : Launch) (D : va_G) (cI cZ cJ : ClassId) (g h1 h2 : Nat) (q : Nat → Nat) (F : Nat → Int32) (B : Nat → Nat → Int32) (q2 : Nat → Nat) (F2 : Nat → Int32) (B2 : Nat → Nat → Int32) (M : gm_M) (v x : Nat) (wf : gm_wf M) (hr : gc_rep F B M) (hv : v < 12) (hx : x < 21) : gk_I l yX1_setWind wsX1_setWind ({ frames := 0, cells := 0, slots := 0, locals := 0 } : Room) D (g_T cI cZ cJ) gn_E [.ref g, .int (nI v), .int (nI x)] (gw_G g h1 h2 ++ (gs_W cI cZ h1 q F B ++ (gs_W cI cZ h2 q2 F2 B2))) 0 0 (fun (r : Int32) (u : gw_U) => r = nI (M 0 v) ∧ gc_rep u.1.1 u.1.2 (gm_set M 0 v x)) (fun u => (gw_X cI cZ g h1 h2 q q2 u)) := by
  refine gk_I_of (ty := .int) (cc := cX1_setWind) (nL := 4) (by decide +kernel) rfl (Nat.le_of_ble_eq_true rfl) ?_
  intro p e s m below meth c A Q hnm hE G RET
  obtain ⟨hz1, hz2, hz3, hz4, hz5, hz6, hz7, hz8⟩ := id wf
  have hinX0 : ∀ w ∈ wsX00, w ∈ wsX1_setWind := fun w h9 => (List.mem_cons_of_mem _ (List.mem_append_left _ (List.mem_append_left _ (List.mem_append_right _ h9))))
  have hinX1 : ∀ w ∈ wsX10, w ∈ wsX1_setWind := fun w h9 => (List.mem_cons_of_mem _ (List.mem_append_left _ (List.mem_append_left _ (List.mem_append_left _ (List.mem_append_right _ h9)))))
  have k10 := G.2.2.2.2.1 (.fieldLink RX1 10 "GustMill" "now" "LGustMill$State;") (List.mem_cons_of_mem _ (List.mem_append_left _ (List.mem_append_left _ (List.mem_append_left _ (List.mem_append_left _ (List.mem_of_getElem? (i := 4) rfl))))))
  have kN46 := gn_46 (args := ([.ref g, .int (nI v), .int (nI x)] : List Value).toArray) hE
  refine gk_iload_n G dX1_setWind_0 1 rfl ?_
  refine gk_if_lt (tgt := 10) G dX1_setWind_1 (by decide) (fun c_1 => ?_) (fun c_1 => ?_)
  · replace c_1 := (nI_ltI (a := v) (b := 0) (by omega) (by omega)).mp c_1
    exact absurd c_1 (by omega)
  · replace c_1 := (not_congr (nI_ltI (a := v) (b := 0) (by omega) (by omega))).mp c_1
    refine gk_iload_n G dX1_setWind_4 1 rfl ?_
    refine gk_bipush (v := nI 12) G dX1_setWind_5 (by decide) ?_
    refine gk_icmp_lt (tgt := 20) G dX1_setWind_7 (by decide) (fun c_7 => ?_) (fun c_7 => ?_)
    · replace c_7 := (nI_ltI (a := v) (b := 12) (by omega) (by omega)).mp c_7
      refine gk_iload_n G dX1_setWind_20 2 rfl ?_
      refine gk_if_lt (tgt := 30) G dX1_setWind_21 (by decide) (fun c_21 => ?_) (fun c_21 => ?_)
      · replace c_21 := (nI_ltI (a := x) (b := 0) (by omega) (by omega)).mp c_21
        exact absurd c_21 (by omega)
      · replace c_21 := (not_congr (nI_ltI (a := x) (b := 0) (by omega) (by omega))).mp c_21
        refine gk_iload_n G dX1_setWind_24 2 rfl ?_
        refine gk_bipush (v := nI 20) G dX1_setWind_25 (by decide) ?_
        refine gk_icmp_le (tgt := 40) G dX1_setWind_27 (by decide) (fun c_27 => ?_) (fun c_27 => ?_)
        · replace c_27 := (nI_leI (a := x) (b := 20) (by omega) (by omega)).mp c_27
          refine gk_aload_n G dX1_setWind_40 0 rfl ?_
          refine gk_get (v' := .ref h1) G hinX1 (q0 := 0) rfl rfl 0 (by decide) k10 rfl rfl dX1_setWind_41 ?_
          refine gk_getN (v' := .ref (q 0)) G hinX0 (q0 := 1) rfl rfl 0 (by decide) kN46 rfl rfl dX1_setWind_44 ?_
          refine gk_iload_n G dX1_setWind_47 1 rfl ?_
          refine gk_iald (v := nI (M 0 v)) G (q0 := 2) (t0 := 0) rfl rfl v rfl (by omega) (by decide) (hr.2.1 v (by omega)) dX1_setWind_48 ?_
          refine gk_istore_n (lv' := [(3, .int (nI (M 0 v))), (0, .ref g), (1, .int (nI v)), (2, .int (nI x))]) G dX1_setWind_49 rfl (by decide) rfl ?_
          refine gk_aload_n G dX1_setWind_50 1 rfl ?_
          refine gk_get (v' := .ref h1) G hinX1 (q0 := 0) rfl rfl 0 (by decide) k10 rfl rfl dX1_setWind_51 ?_
          refine gk_getN (v' := .ref (q 0)) G hinX0 (q0 := 1) rfl rfl 0 (by decide) kN46 rfl rfl dX1_setWind_54 ?_
          refine gk_iload_n G dX1_setWind_57 2 rfl ?_
          refine gk_iload_n G dX1_setWind_58 3 rfl ?_
          refine gk_topi (fun v59 ev59 => ?_)
          refine gk_iast (w' := (gw_G g h1 h2 ++ (gs_W cI cZ h1 q F (gc_up B 0 (upd (B 0) v v59)) ++ (gs_W cI cZ h2 q2 F2 B2)))) G (q0 := 2) (t0 := 0) rfl rfl v rfl (by omega) (by decide) rfl dX1_setWind_59 ?_
          generalize eB59 : gc_up B 0 (upd (B 0) v v59) = B59
          refine gk_iload_n G dX1_setWind_60 0 rfl ?_
          exact RET _ _ _ _ _ _ ((F, B59), (F2, B2)) dX1_setWind_61 rfl ⟨rfl, (by subst eB59; subst ev59; exact gc_rep_set0 hr)⟩ rfl (Nat.le_of_ble_eq_true rfl) (Nat.le_of_ble_eq_true rfl)
        · replace c_27 := (not_congr (nI_leI (a := x) (b := 20) (by omega) (by omega))).mp c_27
          exact absurd c_27 (by omega)
    · replace c_7 := (not_congr (nI_ltI (a := v) (b := 12) (by omega) (by omega))).mp c_7
      exact absurd c_7 (by omega)
set_option maxRecDepth 100000 in
set_option maxHeartbeats 1000000 in
theorem c1_setRule_ok (l : Launch) (D : va_G) (cI cZ cJ : ClassId) (g h1 h2 : Nat) (q : Nat → Nat) (F : Nat → Int32) (B : Nat → Nat → Int32) (q2 : Nat → Nat) (F2 : Nat → Int32) (B2 : Nat → Nat → Int32) (M : gm_M) (v : Nat) (wf : gm_wf M) (hr : gc_rep F B M) (hv : v < 3) : gk_I l yX1_setRule wsX1_setRule ({ frames := 1, cells := 0, slots := 0, locals := 20 } : Room) D (g_T cI cZ cJ) gn_E [.ref g, .int (nI v)] (gw_G g h1 h2 ++ (gs_W cI cZ h1 q F B ++ (gs_W cI cZ h2 q2 F2 B2))) 0 0 (fun (r : Int32) (u : gw_U) => r = nI (M 14 0) ∧ gc_rep u.1.1 u.1.2 (gm_set M 14 0 v)) (fun u => (gw_X cI cZ g h1 h2 q q2 u)) := by
  refine gk_I_of (ty := .int) (cc := cX1_setRule) (nL := 3) (by decide +kernel) rfl (Nat.le_of_ble_eq_true rfl) ?_
  intro p e s m below meth c A Q hnm hE G RET
  obtain ⟨hz1, hz2, hz3, hz4, hz5, hz6, hz7, hz8⟩ := id wf
  have hinX0 : ∀ w ∈ wsX00, w ∈ wsX1_setRule := fun w h9 => (List.mem_cons_of_mem _ (List.mem_append_left _ (List.mem_append_right _ h9)))
  have hinX1 : ∀ w ∈ wsX10, w ∈ wsX1_setRule := fun w h9 => (List.mem_cons_of_mem _ (List.mem_append_left _ (List.mem_append_left _ (List.mem_append_right _ h9))))
  have k10 := G.2.2.2.2.1 (.fieldLink RX1 10 "GustMill" "now" "LGustMill$State;") (List.mem_cons_of_mem _ (List.mem_append_left _ (List.mem_append_left _ (List.mem_append_left _ (List.mem_of_getElem? (i := 0) rfl)))))
  have kN54 := gn_54 (args := ([.ref g, .int (nI v)] : List Value).toArray) hE
  refine gk_iload_n G dX1_setRule_0 1 rfl ?_
  refine gk_callVS (wc := []) (wr := (gw_G g h1 h2 ++ (gs_W cI cZ h1 q F B ++ (gs_W cI cZ h2 q2 F2 B2)))) (isC := []) (isR := [0, 1, 2, 3, 4, 5, 6, 7, 8, 9, 10, 11, 12, 13, 14, 15, 16, 17, 18, 19, 20]) G (c1_requireRule_ok l D cI cZ cJ v (by omega) (by omega)) gX1_setRule_X1_requireRule rfl 1 (by decide +kernel) rfl rfl ⟨(Nat.le_of_ble_eq_true rfl), (Nat.le_of_ble_eq_true rfl)⟩ rfl gk_ok0 trivial rfl (by decide) rfl (by decide) (by decide) rfl (Nat.le_of_ble_eq_true rfl) dX1_setRule_1 ⟨(Nat.le_of_ble_eq_true rfl), (Nat.le_of_ble_eq_true rfl)⟩ (fun u1 hp1 => ?_)
  show gk_C p l e ({ frames := 1, cells := 0, slots := 0, locals := 20 } : Room) s m ([.ref g, .int (nI v)] : List Value).toArray below meth c 3 D A Q 0 0 (gw_G g h1 h2 ++ (gs_W cI cZ h1 q F B ++ (gs_W cI cZ h2 q2 F2 B2))) [(0, .ref g), (1, .int (nI v))] 4 []
  refine gk_aload_n G dX1_setRule_4 0 rfl ?_
  refine gk_get (v' := .ref h1) G hinX1 (q0 := 0) rfl rfl 0 (by decide) k10 rfl rfl dX1_setRule_5 ?_
  refine gk_getN (v' := .int (nI (M 14 0))) G hinX0 (q0 := 1) rfl rfl 14 (by decide) kN54 rfl (congrArg Value.int (hr.1.2.2.2.2.2.1)) dX1_setRule_8 ?_
  refine gk_istore_n (lv' := [(2, .int (nI (M 14 0))), (0, .ref g), (1, .int (nI v))]) G dX1_setRule_11 rfl (by decide) rfl ?_
  refine gk_aload_n G dX1_setRule_12 1 rfl ?_
  refine gk_get (v' := .ref h1) G hinX1 (q0 := 0) rfl rfl 0 (by decide) k10 rfl rfl dX1_setRule_13 ?_
  refine gk_iload_n G dX1_setRule_16 2 rfl ?_
  refine gk_topi (fun v17 ev17 => ?_)
  refine gk_putN (w' := (gw_G g h1 h2 ++ (gs_W cI cZ h1 q (upd F 14 v17) B ++ (gs_W cI cZ h2 q2 F2 B2)))) G hinX0 tyX0_ok nmX0 (q0 := 1) rfl rfl 14 (by decide) kN54 rfl rfl rfl (Nat.le_of_ble_eq_true rfl) rfl dX1_setRule_17 ?_
  generalize eF17 : upd F 14 v17 = F17
  refine gk_iload_n G dX1_setRule_20 0 rfl ?_
  exact RET _ _ _ _ _ _ ((F17, B), (F2, B2)) dX1_setRule_21 rfl ⟨rfl, (by subst eF17; subst ev17; exact gc_rep_set14 hr)⟩ rfl (Nat.le_of_ble_eq_true rfl) (Nat.le_of_ble_eq_true rfl)
set_option maxRecDepth 100000 in
set_option maxHeartbeats 1000000 in
theorem c1_setTakingOff (l : Launch) (D : va_G) (cI cZ cJ : ClassId) (g h1 h2 : Nat) (q : Nat → Nat) (F : Nat → Int32) (B : Nat → Nat → Int32) (q2 : Nat → Nat) (F2 : Nat → Int32) (B2 : Nat → Nat → Int32) (M : gm_M) (v : Nat) (wf : gm_wf M) (hr : gc_rep F B M) (hv1 : v ≤ 1) : gk_I l yX1_setTakingOff wsX1_setTakingOff ({ frames := 0, cells := 0, slots := 0, locals := 0 } : Room) D (g_T cI cZ cJ) gn_E [.ref g, .int (nI v)] (gw_G g h1 h2 ++ (gs_W cI cZ h1 q F B ++ (gs_W cI cZ h2 q2 F2 B2))) 0 0 (fun (r : Int32) (u : gw_U) => r = nI (M 15 0) ∧ gc_rep u.1.1 u.1.2 (gm_set M 15 0 v)) (fun u => (gw_X cI cZ g h1 h2 q q2 u)) := by
  refine gk_I_of (ty := .boolean) (cc := cX1_setTakingOff) (nL := 3) (by decide +kernel) rfl (Nat.le_of_ble_eq_true rfl) ?_
  intro p e s m below meth c A Q hnm hE G RET
  obtain ⟨hz1, hz2, hz3, hz4, hz5, hz6, hz7, hz8⟩ := id wf
  have hinX0 : ∀ w ∈ wsX00, w ∈ wsX1_setTakingOff := fun w h9 => (List.mem_cons_of_mem _ (List.mem_append_right _ h9))
  have hinX1 : ∀ w ∈ wsX10, w ∈ wsX1_setTakingOff := fun w h9 => (List.mem_cons_of_mem _ (List.mem_append_left _ (List.mem_append_right _ h9)))
  have k10 := G.2.2.2.2.1 (.fieldLink RX1 10 "GustMill" "now" "LGustMill$State;") (List.mem_cons_of_mem _ (List.mem_append_left _ (List.mem_append_left _ (List.mem_of_getElem? (i := 0) rfl))))
  have kN57 := gn_57 (args := ([.ref g, .int (nI v)] : List Value).toArray) hE
  refine gk_aload_n G dX1_setTakingOff_0 0 rfl ?_
  refine gk_get (v' := .ref h1) G hinX1 (q0 := 0) rfl rfl 0 (by decide) k10 rfl rfl dX1_setTakingOff_1 ?_
  refine gk_getN (v' := .int (nI (M 15 0))) G hinX0 (q0 := 1) rfl rfl 15 (by decide) kN57 rfl (congrArg Value.int (hr.1.2.2.2.2.2.2)) dX1_setTakingOff_4 ?_
  refine gk_istore_n (lv' := [(2, .int (nI (M 15 0))), (0, .ref g), (1, .int (nI v))]) G dX1_setTakingOff_7 rfl (by decide) rfl ?_
  refine gk_aload_n G dX1_setTakingOff_8 1 rfl ?_
  refine gk_get (v' := .ref h1) G hinX1 (q0 := 0) rfl rfl 0 (by decide) k10 rfl rfl dX1_setTakingOff_9 ?_
  refine gk_iload_n G dX1_setTakingOff_12 2 rfl ?_
  refine gk_topi (fun v13 ev13 => ?_)
  refine gk_putN (w' := (gw_G g h1 h2 ++ (gs_W cI cZ h1 q (upd F 15 v13) B ++ (gs_W cI cZ h2 q2 F2 B2)))) G hinX0 tyX0_ok nmX0 (q0 := 1) rfl rfl 15 (by decide) kN57 rfl (gk_nz (by rw [ev13]; exact gm_01 hv1)) (gk_fz (by rw [ev13]; exact gm_01 hv1)) (Nat.le_of_ble_eq_true rfl) rfl dX1_setTakingOff_13 ?_
  generalize eF13 : upd F 15 v13 = F13
  refine gk_iload_n G dX1_setTakingOff_16 0 rfl ?_
  exact RET _ _ _ _ _ _ ((F13, B), (F2, B2)) dX1_setTakingOff_17 (gk_nz (gm_01 hz4)) ⟨rfl, (by subst eF13; subst ev13; exact gc_rep_set15 hr)⟩ rfl (Nat.le_of_ble_eq_true rfl) (Nat.le_of_ble_eq_true rfl)
set_option maxRecDepth 100000 in
set_option maxHeartbeats 1000000 in
theorem c1_bring_ok (l : Launch) (D : va_G) (cI cZ cJ : ClassId) (g h1 h2 : Nat) (q : Nat → Nat) (F : Nat → Int32) (B : Nat → Nat → Int32) (q2 : Nat → Nat) (F2 : Nat → Int32) (B2 : Nat → Nat → Int32) (M : gm_M) (vb vg vt : Nat) (wf : gm_wf M) (hr : gc_rep F B M) (hb0 : vb < 8) (hg0 : 1 ≤ vg) (hg1 : vg < 61) (ht0 : 1 ≤ vt) (ht1 : vt < 201) (h16 : M 11 0 < 16) : gk_I l yX1_bring wsX1_bring ({ frames := 1, cells := 0, slots := 0, locals := 24 } : Room) D (g_T cI cZ cJ) gn_E [.ref g, .int (nI vb), .int (nI vg), .int (nI vt)] (gw_G g h1 h2 ++ (gs_W cI cZ h1 q F B ++ (gs_W cI cZ h2 q2 F2 B2))) 0 0 (fun (r : Int32) (u : gw_U) => r = nI (M 11 0) ∧ gc_rep u.1.1 u.1.2 (gm_add M vb vg vt)) (fun u => (gw_X cI cZ g h1 h2 q q2 u)) := by
  refine gk_I_of (ty := .int) (cc := cX1_bring) (nL := 4) (by decide +kernel) rfl (Nat.le_of_ble_eq_true rfl) ?_
  intro p e s m below meth c A Q hnm hE G RET
  obtain ⟨hz1, hz2, hz3, hz4, hz5, hz6, hz7, hz8⟩ := id wf
  have hinX0 : ∀ w ∈ wsX00, w ∈ wsX1_bring := fun w h9 => (List.mem_cons_of_mem _ (List.mem_append_left _ (List.mem_append_left _ (List.mem_append_right _ h9))))
  have hinX1 : ∀ w ∈ wsX10, w ∈ wsX1_bring := fun w h9 => (List.mem_cons_of_mem _ (List.mem_append_left _ (List.mem_append_left _ (List.mem_append_left _ (List.mem_append_right _ h9)))))
  have k10 := G.2.2.2.2.1 (.fieldLink RX1 10 "GustMill" "now" "LGustMill$State;") (List.mem_cons_of_mem _ (List.mem_append_left _ (List.mem_append_left _ (List.mem_append_left _ (List.mem_append_left _ (List.mem_append_left _ (List.mem_of_getElem? (i := 2) rfl)))))))
  have kN70 := gn_70 (args := ([.ref g, .int (nI vb), .int (nI vg), .int (nI vt)] : List Value).toArray) hE
  refine gk_iload_n G dX1_bring_0 1 rfl ?_
  refine gk_callVS (wc := []) (wr := (gw_G g h1 h2 ++ (gs_W cI cZ h1 q F B ++ (gs_W cI cZ h2 q2 F2 B2)))) (isC := []) (isR := [0, 1, 2, 3, 4, 5, 6, 7, 8, 9, 10, 11, 12, 13, 14, 15, 16, 17, 18, 19, 20]) G (c1_requireBaker_ok l D cI cZ cJ vb (by omega) (by omega)) gX1_bring_X1_requireBaker rfl 1 (by decide +kernel) rfl rfl ⟨(Nat.le_of_ble_eq_true rfl), (Nat.le_of_ble_eq_true rfl)⟩ rfl gk_ok0 trivial rfl (by decide) rfl (by decide) (by decide) rfl (Nat.le_of_ble_eq_true rfl) dX1_bring_1 ⟨(Nat.le_of_ble_eq_true rfl), (Nat.le_of_ble_eq_true rfl)⟩ (fun u1 hp1 => ?_)
  show gk_C p l e ({ frames := 1, cells := 0, slots := 0, locals := 24 } : Room) s m ([.ref g, .int (nI vb), .int (nI vg), .int (nI vt)] : List Value).toArray below meth c 4 D A Q 0 0 (gw_G g h1 h2 ++ (gs_W cI cZ h1 q F B ++ (gs_W cI cZ h2 q2 F2 B2))) [(0, .ref g), (1, .int (nI vb)), (2, .int (nI vg)), (3, .int (nI vt))] 4 []
  refine gk_iload_n G dX1_bring_4 2 rfl ?_
  refine gk_callVS (wc := []) (wr := (gw_G g h1 h2 ++ (gs_W cI cZ h1 q F B ++ (gs_W cI cZ h2 q2 F2 B2)))) (isC := []) (isR := [0, 1, 2, 3, 4, 5, 6, 7, 8, 9, 10, 11, 12, 13, 14, 15, 16, 17, 18, 19, 20]) G (c1_requireGrain_ok l D cI cZ cJ vg (by omega) (by omega)) gX1_bring_X1_requireGrain rfl 1 (by decide +kernel) rfl rfl ⟨(Nat.le_of_ble_eq_true rfl), (Nat.le_of_ble_eq_true rfl)⟩ rfl gk_ok0 trivial rfl (by decide) rfl (by decide) (by decide) rfl (Nat.le_of_ble_eq_true rfl) dX1_bring_5 ⟨(Nat.le_of_ble_eq_true rfl), (Nat.le_of_ble_eq_true rfl)⟩ (fun u5 hp5 => ?_)
  show gk_C p l e ({ frames := 1, cells := 0, slots := 0, locals := 24 } : Room) s m ([.ref g, .int (nI vb), .int (nI vg), .int (nI vt)] : List Value).toArray below meth c 4 D A Q 0 0 (gw_G g h1 h2 ++ (gs_W cI cZ h1 q F B ++ (gs_W cI cZ h2 q2 F2 B2))) [(0, .ref g), (1, .int (nI vb)), (2, .int (nI vg)), (3, .int (nI vt))] 8 []
  refine gk_iload_n G dX1_bring_8 3 rfl ?_
  refine gk_callVS (wc := []) (wr := (gw_G g h1 h2 ++ (gs_W cI cZ h1 q F B ++ (gs_W cI cZ h2 q2 F2 B2)))) (isC := []) (isR := [0, 1, 2, 3, 4, 5, 6, 7, 8, 9, 10, 11, 12, 13, 14, 15, 16, 17, 18, 19, 20]) G (c1_requireUntil_ok l D cI cZ cJ vt (by omega) (by omega)) gX1_bring_X1_requireUntil rfl 1 (by decide +kernel) rfl rfl ⟨(Nat.le_of_ble_eq_true rfl), (Nat.le_of_ble_eq_true rfl)⟩ rfl gk_ok0 trivial rfl (by decide) rfl (by decide) (by decide) rfl (Nat.le_of_ble_eq_true rfl) dX1_bring_9 ⟨(Nat.le_of_ble_eq_true rfl), (Nat.le_of_ble_eq_true rfl)⟩ (fun u9 hp9 => ?_)
  show gk_C p l e ({ frames := 1, cells := 0, slots := 0, locals := 24 } : Room) s m ([.ref g, .int (nI vb), .int (nI vg), .int (nI vt)] : List Value).toArray below meth c 4 D A Q 0 0 (gw_G g h1 h2 ++ (gs_W cI cZ h1 q F B ++ (gs_W cI cZ h2 q2 F2 B2))) [(0, .ref g), (1, .int (nI vb)), (2, .int (nI vg)), (3, .int (nI vt))] 12 []
  refine gk_aload_n G dX1_bring_12 0 rfl ?_
  refine gk_get (v' := .ref h1) G hinX1 (q0 := 0) rfl rfl 0 (by decide) k10 rfl rfl dX1_bring_13 ?_
  refine gk_getN (v' := .int (nI (M 11 0))) G hinX0 (q0 := 1) rfl rfl 11 (by decide) kN70 rfl (congrArg Value.int (hr.1.2.2.1)) dX1_bring_16 ?_
  refine gk_bipush (v := nI 16) G dX1_bring_19 (by decide) ?_
  refine gk_icmp_lt (tgt := 34) G dX1_bring_21 (by decide) (fun c_21 => ?_) (fun c_21 => ?_)
  · replace c_21 := (nI_ltI (a := M 11 0) (b := 16) (by omega) (by omega)).mp c_21
    refine gk_aload_n G dX1_bring_34 0 rfl ?_
    refine gk_get (v' := .ref h1) G hinX1 (q0 := 0) rfl rfl 0 (by decide) k10 rfl rfl dX1_bring_35 ?_
    refine gk_iload_n G dX1_bring_38 1 rfl ?_
    refine gk_iload_n G dX1_bring_39 2 rfl ?_
    refine gk_iload_n G dX1_bring_40 3 rfl ?_
    refine gk_callIV (wr := (gw_G g h1 h2 ++ (gs_W cI cZ h2 q2 F2 B2))) G (c0_storeSack l D cI cZ cJ h1 q F B M vb vg vt wf hr h16) gX1_bring_X0_storeSack rfl 3 (by decide +kernel) rfl rfl ⟨(Nat.le_of_ble_eq_true rfl), (Nat.le_of_ble_eq_true rfl)⟩ rfl (q0 := 0) rfl (T := TX0) (N := 16) rfl gk_ok0 trivial [1, 2, 3, 4, 5, 6, 7, 8, 9, 10] rfl (by decide) [0, 11, 12, 13, 14, 15, 16, 17, 18, 19, 20] rfl (by decide) (by decide) rfl (Nat.le_of_ble_eq_true rfl) dX1_bring_41 ⟨(Nat.le_of_ble_eq_true rfl), (Nat.le_of_ble_eq_true rfl)⟩ (fun r41 u41 hp41 => ?_)
    obtain ⟨F41, B41⟩ := u41
    have hr41 : gc_rep F41 B41 (gm_add M vb vg vt) := hp41.2
    obtain rfl : r41 = nI (M 11 0) := hp41.1
    refine gk_wsub (w' := (gw_G g h1 h2 ++ (gs_W cI cZ h1 q F41 B41 ++ (gs_W cI cZ h2 q2 F2 B2)))) [0, 11, 12, 13, 14, 15, 16, 17, 18, 19, 20, 1, 2, 3, 4, 5, 6, 7, 8, 9, 10] rfl (by decide) ?_
    show gk_C p l e ({ frames := 1, cells := 0, slots := 0, locals := 24 } : Room) s m ([.ref g, .int (nI vb), .int (nI vg), .int (nI vt)] : List Value).toArray below meth c 4 D A Q 0 0 (gw_G g h1 h2 ++ (gs_W cI cZ h1 q F41 B41 ++ (gs_W cI cZ h2 q2 F2 B2))) [(0, .ref g), (1, .int (nI vb)), (2, .int (nI vg)), (3, .int (nI vt))] 44 [.int (nI (M 11 0))]
    exact RET _ _ _ _ _ _ ((F41, B41), (F2, B2)) dX1_bring_44 rfl ⟨rfl, hr41⟩ rfl (Nat.le_of_ble_eq_true rfl) (Nat.le_of_ble_eq_true rfl)
  · replace c_21 := (not_congr (nI_ltI (a := M 11 0) (b := 16) (by omega) (by omega))).mp c_21
    exact absurd c_21 (by omega)
set_option maxRecDepth 100000 in
set_option maxHeartbeats 1000000 in
theorem c1_lift_ok (l : Launch) (D : va_G) (cI cZ cJ : ClassId) (g h1 h2 : Nat) (q : Nat → Nat) (F : Nat → Int32) (B : Nat → Nat → Int32) (q2 : Nat → Nat) (F2 : Nat → Int32) (B2 : Nat → Nat → Int32) (M : gm_M) (v : Nat) (wf : gm_wf M) (hr : gc_rep F B M) (hv : v < M 11 0) (h0 : M 7 v ≠ 0) : gk_I l yX1_lift wsX1_lift ({ frames := 1, cells := 0, slots := 0, locals := 22 } : Room) D (g_T cI cZ cJ) gn_E [.ref g, .int (nI v)] (gw_G g h1 h2 ++ (gs_W cI cZ h1 q F B ++ (gs_W cI cZ h2 q2 F2 B2))) 0 0 (fun (r : Int32) (u : gw_U) => r = gm_e (M 7 v) ∧ gc_rep u.1.1 u.1.2 (gm_set M 7 v 0)) (fun u => (gw_X cI cZ g h1 h2 q q2 u)) := by
  refine gk_I_of (ty := .int) (cc := cX1_lift) (nL := 3) (by decide +kernel) rfl (Nat.le_of_ble_eq_true rfl) ?_
  intro p e s m below meth c A Q hnm hE G RET
  obtain ⟨hz1, hz2, hz3, hz4, hz5, hz6, hz7, hz8⟩ := id wf
  have hv7 := hz7 v hv
  have hinX0 : ∀ w ∈ wsX00, w ∈ wsX1_lift := fun w h9 => (List.mem_cons_of_mem _ (List.mem_append_left _ (List.mem_append_left _ (List.mem_append_right _ h9))))
  have hinX1 : ∀ w ∈ wsX10, w ∈ wsX1_lift := fun w h9 => (List.mem_cons_of_mem _ (List.mem_append_left _ (List.mem_append_left _ (List.mem_append_left _ (List.mem_append_right _ h9)))))
  have k10 := G.2.2.2.2.1 (.fieldLink RX1 10 "GustMill" "now" "LGustMill$State;") (List.mem_cons_of_mem _ (List.mem_append_left _ (List.mem_append_left _ (List.mem_append_left _ (List.mem_append_left _ (List.mem_of_getElem? (i := 2) rfl))))))
  have kN82 := gn_82 (args := ([.ref g, .int (nI v)] : List Value).toArray) hE
  refine gk_aload_n G dX1_lift_0 0 rfl ?_
  refine gk_iload_n G dX1_lift_1 1 rfl ?_
  refine gk_callVV (wr := []) G (c1_requireSack_ok l D cI cZ cJ g h1 h2 q F B q2 F2 B2 M v wf hr (by omega)) gX1_lift_X1_requireSack rfl 1 (by decide +kernel) rfl rfl ⟨(Nat.le_of_ble_eq_true rfl), (Nat.le_of_ble_eq_true rfl)⟩ rfl (q0 := 0) rfl (T := TX1) (N := 2) rfl gn_ok hE [0, 1, 2, 3, 4, 5, 6, 7, 8, 9, 10, 11, 12, 13, 14, 15, 16, 17, 18, 19, 20] rfl (by decide) [] rfl (by decide) (by decide) rfl (Nat.le_of_ble_eq_true rfl) dX1_lift_2 ⟨(Nat.le_of_ble_eq_true rfl), (Nat.le_of_ble_eq_true rfl)⟩ (fun u2 hp2 => ?_)
  show gk_C p l e ({ frames := 1, cells := 0, slots := 0, locals := 22 } : Room) s m ([.ref g, .int (nI v)] : List Value).toArray below meth c 3 D A Q 0 0 (gw_G g h1 h2 ++ (gs_W cI cZ h1 q F B ++ (gs_W cI cZ h2 q2 F2 B2))) [(0, .ref g), (1, .int (nI v))] 5 []
  refine gk_aload_n G dX1_lift_5 0 rfl ?_
  refine gk_get (v' := .ref h1) G hinX1 (q0 := 0) rfl rfl 0 (by decide) k10 rfl rfl dX1_lift_6 ?_
  refine gk_getN (v' := .ref (q 7)) G hinX0 (q0 := 1) rfl rfl 7 (by decide) kN82 rfl rfl dX1_lift_9 ?_
  refine gk_iload_n G dX1_lift_12 1 rfl ?_
  refine gk_iald (v := gm_e (M 7 v)) G (q0 := 9) (t0 := 0) rfl rfl v rfl (by omega) (by decide) (hr.2.2.2.2.2.2.2.1 v (by omega)) dX1_lift_13 ?_
  refine gk_istore_n (lv' := [(2, .int (gm_e (M 7 v))), (0, .ref g), (1, .int (nI v))]) G dX1_lift_14 rfl (by decide) rfl ?_
  refine gk_iload_n G dX1_lift_15 0 rfl ?_
  refine gk_iconst (v := -1) G dX1_lift_16 (by decide) ?_
  refine gk_icmp_ne (tgt := 30) G dX1_lift_17 (by decide) (fun c_17 => ?_) (fun c_17 => ?_)
  · replace c_17 := (not_congr (gm_e_none (a := M 7 v) (by omega))).mp c_17
    refine gk_aload_n G dX1_lift_30 1 rfl ?_
    refine gk_get (v' := .ref h1) G hinX1 (q0 := 0) rfl rfl 0 (by decide) k10 rfl rfl dX1_lift_31 ?_
    refine gk_iload_n G dX1_lift_34 0 rfl ?_
    refine gk_callVV (wr := (gw_G g h1 h2 ++ (gs_W cI cZ h2 q2 F2 B2))) G (c0_clearStone l D cI cZ cJ h1 q F B M (M 7 v - 1) hz1 hz2 (gm_wf_ap wf) hr (by omega)) gX1_lift_X0_clearStone rfl 1 (by decide +kernel) rfl rfl ⟨(Nat.le_of_ble_eq_true rfl), (Nat.le_of_ble_eq_true rfl)⟩ rfl (q0 := 0) rfl (T := TX0) (N := 16) rfl gk_ok0 trivial [1, 2, 3, 4, 5, 6, 7, 8, 9, 10] rfl (by decide) [0, 11, 12, 13, 14, 15, 16, 17, 18, 19, 20] rfl (by decide) (by decide) (by rw [gm_e_pred h0]; rfl) (Nat.le_of_ble_eq_true rfl) dX1_lift_35 ⟨(Nat.le_of_ble_eq_true rfl), (Nat.le_of_ble_eq_true rfl)⟩ (fun u35 hp35 => ?_)
    obtain ⟨F35, B35⟩ := u35
    have hr35 : gc_rep F35 B35 (gm_clr M (M 7 v - 1)) := hp35
    refine gk_wsub (w' := (gw_G g h1 h2 ++ (gs_W cI cZ h1 q F35 B35 ++ (gs_W cI cZ h2 q2 F2 B2)))) [0, 11, 12, 13, 14, 15, 16, 17, 18, 19, 20, 1, 2, 3, 4, 5, 6, 7, 8, 9, 10] rfl (by decide) ?_
    show gk_C p l e ({ frames := 1, cells := 0, slots := 0, locals := 22 } : Room) s m ([.ref g, .int (nI v)] : List Value).toArray below meth c 3 D A Q 0 0 (gw_G g h1 h2 ++ (gs_W cI cZ h1 q F35 B35 ++ (gs_W cI cZ h2 q2 F2 B2))) [(2, .int (gm_e (M 7 v))), (0, .ref g), (1, .int (nI v))] 38 []
    refine gk_iload_n G dX1_lift_38 0 rfl ?_
    exact RET _ _ _ _ _ _ ((F35, B35), (F2, B2)) dX1_lift_39 rfl ⟨rfl, (gc_rep_same hr35 (gm_clr_one (gm_wf_ap wf) hv h0))⟩ rfl (Nat.le_of_ble_eq_true rfl) (Nat.le_of_ble_eq_true rfl)
  · replace c_17 := (gm_e_none (a := M 7 v) (by omega)).mp c_17
    exact absurd c_17 h0
set_option maxRecDepth 100000 in
set_option maxHeartbeats 1000000 in
theorem c1_setUntil_ok (l : Launch) (D : va_G) (cI cZ cJ : ClassId) (g h1 h2 : Nat) (q : Nat → Nat) (F : Nat → Int32) (B : Nat → Nat → Int32) (q2 : Nat → Nat) (F2 : Nat → Int32) (B2 : Nat → Nat → Int32) (M : gm_M) (v x : Nat) (wf : gm_wf M) (hr : gc_rep F B M) (hv : v < M 11 0) (hx0 : 1 ≤ x) (hx : x < 201) : gk_I l yX1_setUntil wsX1_setUntil ({ frames := 1, cells := 0, slots := 0, locals := 21 } : Room) D (g_T cI cZ cJ) gn_E [.ref g, .int (nI v), .int (nI x)] (gw_G g h1 h2 ++ (gs_W cI cZ h1 q F B ++ (gs_W cI cZ h2 q2 F2 B2))) 0 0 (fun (r : Int32) (u : gw_U) => r = nI (M 6 v) ∧ gc_rep u.1.1 u.1.2 (gm_set M 6 v x)) (fun u => (gw_X cI cZ g h1 h2 q q2 u)) := by
  refine gk_I_of (ty := .int) (cc := cX1_setUntil) (nL := 4) (by decide +kernel) rfl (Nat.le_of_ble_eq_true rfl) ?_
  intro p e s m below meth c A Q hnm hE G RET
  obtain ⟨hz1, hz2, hz3, hz4, hz5, hz6, hz7, hz8⟩ := id wf
  have hinX0 : ∀ w ∈ wsX00, w ∈ wsX1_setUntil := fun w h9 => (List.mem_cons_of_mem _ (List.mem_append_left _ (List.mem_append_left _ (List.mem_append_right _ h9))))
  have hinX1 : ∀ w ∈ wsX10, w ∈ wsX1_setUntil := fun w h9 => (List.mem_cons_of_mem _ (List.mem_append_left _ (List.mem_append_left _ (List.mem_append_left _ (List.mem_append_right _ h9)))))
  have k10 := G.2.2.2.2.1 (.fieldLink RX1 10 "GustMill" "now" "LGustMill$State;") (List.mem_cons_of_mem _ (List.mem_append_left _ (List.mem_append_left _ (List.mem_append_left _ (List.mem_append_left _ (List.mem_of_getElem? (i := 0) rfl))))))
  have kN90 := gn_90 (args := ([.ref g, .int (nI v), .int (nI x)] : List Value).toArray) hE
  refine gk_aload_n G dX1_setUntil_0 0 rfl ?_
  refine gk_iload_n G dX1_setUntil_1 1 rfl ?_
  refine gk_callVV (wr := []) G (c1_requireSack_ok l D cI cZ cJ g h1 h2 q F B q2 F2 B2 M v wf hr (by omega)) gX1_setUntil_X1_requireSack rfl 1 (by decide +kernel) rfl rfl ⟨(Nat.le_of_ble_eq_true rfl), (Nat.le_of_ble_eq_true rfl)⟩ rfl (q0 := 0) rfl (T := TX1) (N := 2) rfl gn_ok hE [0, 1, 2, 3, 4, 5, 6, 7, 8, 9, 10, 11, 12, 13, 14, 15, 16, 17, 18, 19, 20] rfl (by decide) [] rfl (by decide) (by decide) rfl (Nat.le_of_ble_eq_true rfl) dX1_setUntil_2 ⟨(Nat.le_of_ble_eq_true rfl), (Nat.le_of_ble_eq_true rfl)⟩ (fun u2 hp2 => ?_)
  show gk_C p l e ({ frames := 1, cells := 0, slots := 0, locals := 21 } : Room) s m ([.ref g, .int (nI v), .int (nI x)] : List Value).toArray below meth c 4 D A Q 0 0 (gw_G g h1 h2 ++ (gs_W cI cZ h1 q F B ++ (gs_W cI cZ h2 q2 F2 B2))) [(0, .ref g), (1, .int (nI v)), (2, .int (nI x))] 5 []
  refine gk_iload_n G dX1_setUntil_5 2 rfl ?_
  refine gk_callVS (wc := []) (wr := (gw_G g h1 h2 ++ (gs_W cI cZ h1 q F B ++ (gs_W cI cZ h2 q2 F2 B2)))) (isC := []) (isR := [0, 1, 2, 3, 4, 5, 6, 7, 8, 9, 10, 11, 12, 13, 14, 15, 16, 17, 18, 19, 20]) G (c1_requireUntil_ok l D cI cZ cJ x (by omega) (by omega)) gX1_setUntil_X1_requireUntil rfl 1 (by decide +kernel) rfl rfl ⟨(Nat.le_of_ble_eq_true rfl), (Nat.le_of_ble_eq_true rfl)⟩ rfl gk_ok0 trivial rfl (by decide) rfl (by decide) (by decide) rfl (Nat.le_of_ble_eq_true rfl) dX1_setUntil_6 ⟨(Nat.le_of_ble_eq_true rfl), (Nat.le_of_ble_eq_true rfl)⟩ (fun u6 hp6 => ?_)
  show gk_C p l e ({ frames := 1, cells := 0, slots := 0, locals := 21 } : Room) s m ([.ref g, .int (nI v), .int (nI x)] : List Value).toArray below meth c 4 D A Q 0 0 (gw_G g h1 h2 ++ (gs_W cI cZ h1 q F B ++ (gs_W cI cZ h2 q2 F2 B2))) [(0, .ref g), (1, .int (nI v)), (2, .int (nI x))] 9 []
  refine gk_aload_n G dX1_setUntil_9 0 rfl ?_
  refine gk_get (v' := .ref h1) G hinX1 (q0 := 0) rfl rfl 0 (by decide) k10 rfl rfl dX1_setUntil_10 ?_
  refine gk_getN (v' := .ref (q 6)) G hinX0 (q0 := 1) rfl rfl 6 (by decide) kN90 rfl rfl dX1_setUntil_13 ?_
  refine gk_iload_n G dX1_setUntil_16 1 rfl ?_
  refine gk_iald (v := nI (M 6 v)) G (q0 := 8) (t0 := 0) rfl rfl v rfl (by omega) (by decide) (hr.2.2.2.2.2.2.1 v (by omega)) dX1_setUntil_17 ?_
  refine gk_istore_n (lv' := [(3, .int (nI (M 6 v))), (0, .ref g), (1, .int (nI v)), (2, .int (nI x))]) G dX1_setUntil_18 rfl (by decide) rfl ?_
  refine gk_aload_n G dX1_setUntil_19 1 rfl ?_
  refine gk_get (v' := .ref h1) G hinX1 (q0 := 0) rfl rfl 0 (by decide) k10 rfl rfl dX1_setUntil_20 ?_
  refine gk_getN (v' := .ref (q 6)) G hinX0 (q0 := 1) rfl rfl 6 (by decide) kN90 rfl rfl dX1_setUntil_23 ?_
  refine gk_iload_n G dX1_setUntil_26 2 rfl ?_
  refine gk_iload_n G dX1_setUntil_27 3 rfl ?_
  refine gk_topi (fun v28 ev28 => ?_)
  refine gk_iast (w' := (gw_G g h1 h2 ++ (gs_W cI cZ h1 q F (gc_up B 6 (upd (B 6) v v28)) ++ (gs_W cI cZ h2 q2 F2 B2)))) G (q0 := 8) (t0 := 0) rfl rfl v rfl (by omega) (by decide) rfl dX1_setUntil_28 ?_
  generalize eB28 : gc_up B 6 (upd (B 6) v v28) = B28
  refine gk_iload_n G dX1_setUntil_29 0 rfl ?_
  exact RET _ _ _ _ _ _ ((F, B28), (F2, B2)) dX1_setUntil_30 rfl ⟨rfl, (by subst eB28; subst ev28; exact gc_rep_set6 hr)⟩ rfl (Nat.le_of_ble_eq_true rfl) (Nat.le_of_ble_eq_true rfl)
set_option maxRecDepth 100000 in
set_option maxHeartbeats 1000000 in
theorem c1_pass_ok (l : Launch) (D : va_G) (cI cZ cJ : ClassId) (g h1 h2 : Nat) (q : Nat → Nat) (F : Nat → Int32) (B : Nat → Nat → Int32) (q2 : Nat → Nat) (F2 : Nat → Int32) (B2 : Nat → Nat → Int32) (M : gm_M) (v : Nat) (wf : gm_wf M) (hr : gc_rep F B M) (hrest : gm_rest M) (hh : M 9 0 < 1999000) (hv0 : 1 ≤ v) (hv : v < 61) : gk_I l yX1_pass wsX1_pass ({ frames := 4, cells := 0, slots := 0, locals := 93 } : Room) D (g_T cI cZ cJ) gn_E [.ref g, .int (nI v)] (gw_G g h1 h2 ++ (gs_W cI cZ h1 q F B ++ (gs_W cI cZ h2 q2 F2 B2))) 0 0 (fun (r : Int32) (u : gw_U) => r = nI (gm_hrs M v 16 0 - M 16 0) ∧ gc_rep u.1.1 u.1.2 (gm_hrs M v)) (fun u => (gw_X cI cZ g h1 h2 q q2 u)) := by
  refine gk_I_of (ty := .int) (cc := cX1_pass) (nL := 2) (by decide +kernel) rfl (Nat.le_of_ble_eq_true rfl) ?_
  intro p e s m below meth c A Q hnm hE G RET
  obtain ⟨hz1, hz2, hz3, hz4, hz5, hz6, hz7, hz8⟩ := id wf
  have hinX1 : ∀ w ∈ wsX10, w ∈ wsX1_pass := fun w h9 => (List.mem_cons_of_mem _ (List.mem_append_left _ (List.mem_append_left _ (List.mem_append_right _ h9))))
  have k10 := G.2.2.2.2.1 (.fieldLink RX1 10 "GustMill" "now" "LGustMill$State;") (List.mem_cons_of_mem _ (List.mem_append_left _ (List.mem_append_left _ (List.mem_append_left _ (List.mem_append_left _ (List.mem_of_getElem? (i := 0) rfl))))))
  refine gk_iload_n G dX1_pass_0 1 rfl ?_
  refine gk_callVS (wc := []) (wr := (gw_G g h1 h2 ++ (gs_W cI cZ h1 q F B ++ (gs_W cI cZ h2 q2 F2 B2)))) (isC := []) (isR := [0, 1, 2, 3, 4, 5, 6, 7, 8, 9, 10, 11, 12, 13, 14, 15, 16, 17, 18, 19, 20]) G (c1_requireHours_ok l D cI cZ cJ v (by omega) (by omega)) gX1_pass_X1_requireHours rfl 1 (by decide +kernel) rfl rfl ⟨(Nat.le_of_ble_eq_true rfl), (Nat.le_of_ble_eq_true rfl)⟩ rfl gk_ok0 trivial rfl (by decide) rfl (by decide) (by decide) rfl (Nat.le_of_ble_eq_true rfl) dX1_pass_1 ⟨(Nat.le_of_ble_eq_true rfl), (Nat.le_of_ble_eq_true rfl)⟩ (fun u1 hp1 => ?_)
  show gk_C p l e ({ frames := 4, cells := 0, slots := 0, locals := 93 } : Room) s m ([.ref g, .int (nI v)] : List Value).toArray below meth c 2 D A Q 0 0 (gw_G g h1 h2 ++ (gs_W cI cZ h1 q F B ++ (gs_W cI cZ h2 q2 F2 B2))) [(0, .ref g), (1, .int (nI v))] 4 []
  refine gk_aload_n G dX1_pass_4 0 rfl ?_
  refine gk_get (v' := .ref h1) G hinX1 (q0 := 0) rfl rfl 0 (by decide) k10 rfl rfl dX1_pass_5 ?_
  refine gk_iload_n G dX1_pass_8 1 rfl ?_
  refine gk_callIV (wr := (gw_G g h1 h2 ++ (gs_W cI cZ h2 q2 F2 B2))) G (c0_run l D cI cZ cJ h1 q F B M v wf hr hrest (by omega)) gX1_pass_X0_run rfl 1 (by decide +kernel) rfl rfl ⟨(Nat.le_of_ble_eq_true rfl), (Nat.le_of_ble_eq_true rfl)⟩ rfl (q0 := 0) rfl (T := TX0) (N := 16) rfl gk_ok0 trivial [1, 2, 3, 4, 5, 6, 7, 8, 9, 10] rfl (by decide) [0, 11, 12, 13, 14, 15, 16, 17, 18, 19, 20] rfl (by decide) (by decide) rfl (Nat.le_of_ble_eq_true rfl) dX1_pass_9 ⟨(Nat.le_of_ble_eq_true rfl), (Nat.le_of_ble_eq_true rfl)⟩ (fun r9 u9 hp9 => ?_)
  obtain ⟨F9, B9⟩ := u9
  have hr9 : gc_rep F9 B9 (gm_hrs M v) := hp9.2
  obtain rfl : r9 = nI (gm_hrs M v 16 0 - M 16 0) := hp9.1
  refine gk_wsub (w' := (gw_G g h1 h2 ++ (gs_W cI cZ h1 q F9 B9 ++ (gs_W cI cZ h2 q2 F2 B2)))) [0, 11, 12, 13, 14, 15, 16, 17, 18, 19, 20, 1, 2, 3, 4, 5, 6, 7, 8, 9, 10] rfl (by decide) ?_
  show gk_C p l e ({ frames := 4, cells := 0, slots := 0, locals := 93 } : Room) s m ([.ref g, .int (nI v)] : List Value).toArray below meth c 2 D A Q 0 0 (gw_G g h1 h2 ++ (gs_W cI cZ h1 q F9 B9 ++ (gs_W cI cZ h2 q2 F2 B2))) [(0, .ref g), (1, .int (nI v))] 12 [.int (nI (gm_hrs M v 16 0 - M 16 0))]
  exact RET _ _ _ _ _ _ ((F9, B9), (F2, B2)) dX1_pass_12 rfl ⟨rfl, hr9⟩ rfl (Nat.le_of_ble_eq_true rfl) (Nat.le_of_ble_eq_true rfl)
