set_option maxRecDepth 100000 in
set_option maxHeartbeats 1000000 in
theorem c0_floorMod (l : Launch) (D : va_G) (cI cZ cJ : ClassId) (a b : Nat) (ha : a < 2 ^ 31) (hb0 : 0 < b) (hb : b < 2 ^ 31) : gk_I l yJ9_floorMod_7cf53 wsJ9_floorMod_7cf53 ({ frames := 0, cells := 0, slots := 0, locals := 0 } : Room) D (g_T cI cZ cJ) gk_E0 [.int (nI a), .int (nI b)] ([] : va_W) 0 0 (fun (r : Int32) (u : Unit) => r = nI (a % b)) (fun u => ([] : va_W)) := by
  refine gk_IF_of (ty := .int) (cc := cJ9_floorMod_7cf53) (nL := 3) (by decide +kernel) rfl (Nat.le_of_ble_eq_true rfl) ?_
  intro p e s m below meth c A Q hnm hE G RET
  refine gk_iload_n G dJ9_floorMod_7cf53_0 0 rfl ?_
  refine gk_iload_n G dJ9_floorMod_7cf53_1 1 rfl ?_
  refine gk_irem (v := nI (a % b)) G dJ9_floorMod_7cf53_2 (fun q => by rw [gm_0 hb] at q; omega) (pk_rem ha hb0 hb) ?_
  refine gk_istore_n (lv' := [(2, .int (nI (a % b))), (0, .int (nI a)), (1, .int (nI b))]) G dJ9_floorMod_7cf53_3 rfl (by decide) rfl ?_
  refine gk_iload_n G dJ9_floorMod_7cf53_4 1 rfl ?_
  refine gk_iload_n G dJ9_floorMod_7cf53_5 2 rfl ?_
  refine gk_ixor (v := (nI a) ^^^ (nI b)) G dJ9_floorMod_7cf53_6 rfl ?_
  refine gk_if_ge (tgt := 18) G dJ9_floorMod_7cf53_7 (by decide) (fun c_7 => ?_) (fun c_7 => ?_)
  · refine gk_iload_n G dJ9_floorMod_7cf53_18 0 rfl ?_
    exact RET _ _ _ _ _ _ () dJ9_floorMod_7cf53_19 rfl rfl rfl (Nat.le_of_ble_eq_true rfl) (Nat.le_of_ble_eq_true rfl)
  · exact absurd (gm_xpos ha hb) c_7
set_option maxRecDepth 100000 in
set_option maxHeartbeats 1000000 in
theorem c0_windOfHour (l : Launch) (D : va_G) (cI cZ cJ : ClassId) (h : Nat) (q : Nat → Nat) (F : Nat → Int32) (B : Nat → Nat → Int32) (M : gm_M) (wf : gm_wf M) (hr : gc_rep F B M) (hh : M 9 0 < 2000000) : gk_I l yX0_windOfHour wsX0_windOfHour ({ frames := 1, cells := 0, slots := 0, locals := 22 } : Room) D (g_T cI cZ cJ) gk_E0 [.ref h] (gs_W cI cZ h q F B) 0 0 (fun (r : Int32) (u : Unit) => r = nI (gm_wnd M)) (fun u => (gs_W cI cZ h q F B)) := by
  refine gk_I_of (ty := .int) (cc := cX0_windOfHour) (nL := 1) (by decide +kernel) rfl (Nat.le_of_ble_eq_true rfl) ?_
  intro p e s m below meth c A Q hnm hE G RET
  obtain ⟨hz1, hz2, hz3, hz4, hz5, hz6, hz7, hz8⟩ := id wf
  have hmod : M 9 0 % 12 < 12 := Nat.mod_lt _ (by decide)
  have hinX0 : ∀ w ∈ wsX00, w ∈ wsX0_windOfHour := fun w h9 => (List.mem_cons_of_mem _ (List.mem_append_right _ h9))
  have k9 := G.2.2.2.2.1 (.fieldLink RX0 9 "GustMill$State" "winds" "[I") (List.mem_cons_of_mem _ (List.mem_append_left _ (List.mem_of_getElem? (i := 0) rfl)))
  have k40 := G.2.2.2.2.1 (.fieldLink RX0 40 "GustMill$State" "hour" "I") (List.mem_cons_of_mem _ (List.mem_append_left _ (List.mem_of_getElem? (i := 1) rfl)))
  refine gk_aload_n G dX0_windOfHour_0 0 rfl ?_
  refine gk_get (v' := .ref (q 0)) G hinX0 (q0 := 0) rfl rfl 0 (by decide) k9 rfl rfl dX0_windOfHour_1 ?_
  refine gk_aload_n G dX0_windOfHour_4 0 rfl ?_
  refine gk_get (v' := .int (nI (M 9 0))) G hinX0 (q0 := 0) rfl rfl 9 (by decide) k40 rfl (congrArg Value.int (hr.1.1)) dX0_windOfHour_5 ?_
  refine gk_bipush (v := nI 12) G dX0_windOfHour_8 (by decide) ?_
  refine gk_callIS (wc := []) (wr := (gs_W cI cZ h q F B)) (isC := []) (isR := [0, 1, 2, 3, 4, 5, 6, 7, 8, 9]) G (c0_floorMod l D cI cZ cJ (M 9 0) 12 (by omega) (by decide) (by decide)) gX0_windOfHour_J9_floorMod_7cf53 rfl 2 (by decide +kernel) rfl rfl ⟨(Nat.le_of_ble_eq_true rfl), (Nat.le_of_ble_eq_true rfl)⟩ rfl gk_ok0 trivial rfl (by decide) rfl (by decide) (by decide) rfl (Nat.le_of_ble_eq_true rfl) dX0_windOfHour_10 ⟨(Nat.le_of_ble_eq_true rfl), (Nat.le_of_ble_eq_true rfl)⟩ (fun r10 u10 hp10 => ?_)
  obtain rfl : r10 = nI ((M 9 0) % 12) := hp10
  show gk_C p l e ({ frames := 1, cells := 0, slots := 0, locals := 22 } : Room) s m ([.ref h] : List Value).toArray below meth c 1 D A Q 0 0 (gs_W cI cZ h q F B) [(0, .ref h)] 13 [.int (nI ((M 9 0) % 12)), .ref (q 0)]
  refine gk_iald (v := nI (M 0 ((M 9 0) % 12))) G (q0 := 1) (t0 := 0) rfl rfl ((M 9 0) % 12) rfl (by omega) (by decide) (hr.2.1 ((M 9 0) % 12) (by omega)) dX0_windOfHour_13 ?_
  exact RET _ _ _ _ _ _ () dX0_windOfHour_14 rfl rfl rfl (Nat.le_of_ble_eq_true rfl) (Nat.le_of_ble_eq_true rfl)
set_option maxRecDepth 100000 in
set_option maxHeartbeats 1000000 in
theorem c0_hoursLate (l : Launch) (D : va_G) (cI cZ cJ : ClassId) (h : Nat) (q : Nat → Nat) (F : Nat → Int32) (B : Nat → Nat → Int32) (M : gm_M) (wf : gm_wf M) (hr : gc_rep F B M) (hrest : gm_rest M) (hh : M 9 0 < 2000000) : gk_I l yX0_hoursLate wsX0_hoursLate ({ frames := 1, cells := 0, slots := 0, locals := 21 } : Room) D (g_T cI cZ cJ) gk_E0 [.ref h] (gs_W cI cZ h q F B) 0 0 (fun (r : Int32) (u : Unit) => r = nI (gm_late M 0 (M 11 0))) (fun u => (gs_W cI cZ h q F B)) := by
  refine gk_I_of (ty := .int) (cc := cX0_hoursLate) (nL := 3) (by decide +kernel) rfl (Nat.le_of_ble_eq_true rfl) ?_
  intro p e s m below meth c A Q hnm hE G RET
  obtain ⟨hz1, hz2, hz3, hz4, hz5, hz6, hz7, hz8⟩ := id wf
  have hinX0 : ∀ w ∈ wsX00, w ∈ wsX0_hoursLate := fun w h9 => (List.mem_cons_of_mem _ (List.mem_append_right _ h9))
  have k31 := G.2.2.2.2.1 (.fieldLink RX0 31 "GustMill$State" "untils" "[I") (List.mem_cons_of_mem _ (List.mem_append_left _ (List.mem_of_getElem? (i := 2) rfl)))
  have k37 := G.2.2.2.2.1 (.fieldLink RX0 37 "GustMill$State" "groundHours" "[I") (List.mem_cons_of_mem _ (List.mem_append_left _ (List.mem_of_getElem? (i := 1) rfl)))
  have k47 := G.2.2.2.2.1 (.fieldLink RX0 47 "GustMill$State" "sackCount" "I") (List.mem_cons_of_mem _ (List.mem_append_left _ (List.mem_of_getElem? (i := 0) rfl)))
  have L4 : ∀ (n : Nat) (k : Nat), M 11 0 - k < n → (k ≤ M 11 0) → gk_C p l e ({ frames := 1, cells := 0, slots := 0, locals := 21 } : Room) s m ([.ref h] : List Value).toArray below meth c 3 D A Q 0 0 (gs_W cI cZ h q F B) [(0, .ref h), (1, .int (nI (gm_late M 0 k))), (2, .int (nI k))] 4 [] := by
    intro n
    induction n with
    | zero => intro k h0; exact absurd h0 (Nat.not_lt_zero _)
    | succ n ih =>
      intro k h0 w0
      refine gk_iload_n G dX0_hoursLate_4 2 rfl ?_
      refine gk_aload_n G dX0_hoursLate_5 0 rfl ?_
      refine gk_get (v' := .int (nI (M 11 0))) G hinX0 (q0 := 0) rfl rfl 11 (by decide) k47 rfl (congrArg Value.int (hr.1.2.2.1)) dX0_hoursLate_6 ?_
      refine gk_icmp_ge (tgt := 46) G dX0_hoursLate_9 (by decide) (fun c_9 => ?_) (fun c_9 => ?_)
      · replace c_9 := (nI_leI (a := M 11 0) (b := k) (by omega) (by omega)).mp c_9
        refine gk_iload_n G dX0_hoursLate_46 1 rfl ?_
        exact RET _ _ _ _ _ _ () dX0_hoursLate_47 rfl (by rw [show k = M 11 0 by omega]) rfl (Nat.le_of_ble_eq_true rfl) (Nat.le_of_ble_eq_true rfl)
      · replace c_9 := (not_congr (nI_leI (a := M 11 0) (b := k) (by omega) (by omega))).mp c_9
        have hk5 := hrest k (by omega)
        have hk7 := hz7 k (by omega)
        refine gk_aload_n G dX0_hoursLate_12 0 rfl ?_
        refine gk_iload_n G dX0_hoursLate_13 2 rfl ?_
        refine gk_callIV (wr := []) G (c0_isGround l D cI cZ cJ h q F B M k wf hr (by omega)) gX0_hoursLate_X0_isGround rfl 1 (by decide +kernel) rfl rfl ⟨(Nat.le_of_ble_eq_true rfl), (Nat.le_of_ble_eq_true rfl)⟩ rfl (q0 := 0) rfl (T := TX0) (N := 16) rfl gk_ok0 trivial [0, 1, 2, 3, 4, 5, 6, 7, 8, 9] rfl (by decide) [] rfl (by decide) (by decide) rfl (Nat.le_of_ble_eq_true rfl) dX0_hoursLate_14 ⟨(Nat.le_of_ble_eq_true rfl), (Nat.le_of_ble_eq_true rfl)⟩ (fun r14 u14 hp14 => ?_)
        obtain rfl : r14 = gm_b (M 5 k = 0) := hp14
        show gk_C p l e ({ frames := 1, cells := 0, slots := 0, locals := 21 } : Room) s m ([.ref h] : List Value).toArray below meth c 3 D A Q 0 0 (gs_W cI cZ h q F B) [(0, .ref h), (1, .int (nI (gm_late M 0 k))), (2, .int (nI k))] 17 [.int (gm_b (M 5 k = 0))]
        refine gk_if_eq (tgt := 40) G dX0_hoursLate_17 (by decide) (fun c_17 => ?_) (fun c_17 => ?_)
        · replace c_17 := gm_b_eq.mp c_17
          refine gk_iinc (j := 2) (v := nI (k + 1)) (lv' := [(2, .int (nI (k + 1))), (0, .ref h), (1, .int (nI (gm_late M 0 k)))]) G dX0_hoursLate_40 rfl (nI_add k 1) (by decide) rfl ?_
          refine gk_goto (tgt := 4) G dX0_hoursLate_43 (by decide) ?_
          have e9 : gm_late M 0 (k + 1) = gm_late M 0 k := by
            show gm_late M 0 k + (if M 8 k = 0 then 0 else M 8 k - 1 - M 6 k) = _
            rw [if_pos (Decidable.byContradiction (fun h9 => c_17 (hk7.2.2.2.2.2.1 h9).2))]; rfl
          have t9 := ih (k + 1) (by omega) (by omega)
          rw [e9] at t9
          exact gk_lsub [1,2,0] rfl t9
        · replace c_17 := gm_b_ne.mp c_17
          refine gk_iload_n G dX0_hoursLate_20 1 rfl ?_
          refine gk_iconst (v := nI 0) G dX0_hoursLate_21 (by decide) ?_
          refine gk_aload_n G dX0_hoursLate_22 0 rfl ?_
          refine gk_get (v' := .ref (q 8)) G hinX0 (q0 := 0) rfl rfl 8 (by decide) k37 rfl rfl dX0_hoursLate_23 ?_
          refine gk_iload_n G dX0_hoursLate_26 2 rfl ?_
          refine gk_iald (v := gm_e (M 8 k)) G (q0 := 9) (t0 := 0) rfl rfl k rfl (by omega) (by decide) (hr.2.2.2.2.2.2.2.2 k (by omega)) dX0_hoursLate_27 ?_
          refine gk_aload_n G dX0_hoursLate_28 0 rfl ?_
          refine gk_get (v' := .ref (q 6)) G hinX0 (q0 := 0) rfl rfl 6 (by decide) k31 rfl rfl dX0_hoursLate_29 ?_
          refine gk_iload_n G dX0_hoursLate_32 2 rfl ?_
          refine gk_iald (v := nI (M 6 k)) G (q0 := 7) (t0 := 0) rfl rfl k rfl (by omega) (by decide) (hr.2.2.2.2.2.2.1 k (by omega)) dX0_hoursLate_33 ?_
          refine gk_isub (v := (gm_e (M 8 k)) - (nI (M 6 k))) G dX0_hoursLate_34 rfl ?_
          refine gk_mmax (v := nI (M 8 k - 1 - M 6 k)) G (G.2.2.2.2.1 (.methodLink RX0 112 Lib.Math.max.name) (List.mem_cons_of_mem _ (List.mem_append_left _ (List.mem_of_getElem? (i := 3) rfl)))) (G.2.2.2.2.1 (.static Lib.Math.max.name) (List.mem_cons_of_mem _ (List.mem_append_left _ (List.mem_of_getElem? (i := 4) rfl)))) (G.2.2.2.2.1 (.initialized "java/lang/Math") (List.mem_cons_of_mem _ (List.mem_append_left _ (List.mem_of_getElem? (i := 5) rfl)))) (G.2.2.2.2.1 (.code Lib.Math.max.name Lib.Math.max.code 2 (some .int)) (List.mem_cons_of_mem _ (List.mem_append_left _ (List.mem_of_getElem? (i := 6) rfl)))) (Nat.le_of_ble_eq_true rfl) (Nat.le_of_ble_eq_true rfl) (Nat.le_of_ble_eq_true rfl) (Nat.le_of_ble_eq_true rfl) (gm_max0 (hk5 c_17) (by omega) (by omega)) dX0_hoursLate_35 ?_
          refine gk_iadd (v := nI ((gm_late M 0 k) + (M 8 k - 1 - M 6 k))) G dX0_hoursLate_38 (nI_add (gm_late M 0 k) (M 8 k - 1 - M 6 k)) ?_
          refine gk_istore_n (lv' := [(1, .int (nI ((gm_late M 0 k) + (M 8 k - 1 - M 6 k)))), (0, .ref h), (2, .int (nI k))]) G dX0_hoursLate_39 rfl (by decide) rfl ?_
          refine gk_iinc (j := 2) (v := nI (k + 1)) (lv' := [(2, .int (nI (k + 1))), (1, .int (nI ((gm_late M 0 k) + (M 8 k - 1 - M 6 k)))), (0, .ref h)]) G dX0_hoursLate_40 rfl (nI_add k 1) (by decide) rfl ?_
          refine gk_goto (tgt := 4) G dX0_hoursLate_43 (by decide) ?_
          have e9 : gm_late M 0 (k + 1) = (gm_late M 0 k) + (M 8 k - 1 - M 6 k) := by
            show gm_late M 0 k + (if M 8 k = 0 then 0 else M 8 k - 1 - M 6 k) = _
            rw [if_neg (hk5 c_17)]
          have t9 := ih (k + 1) (by omega) (by omega)
          rw [e9] at t9
          exact gk_lsub [2,1,0] rfl t9
  refine gk_iconst (v := nI 0) G dX0_hoursLate_0 (by decide) ?_
  refine gk_istore_n (lv' := [(1, .int (nI 0)), (0, .ref h)]) G dX0_hoursLate_1 rfl (by decide) rfl ?_
  refine gk_iconst (v := nI 0) G dX0_hoursLate_2 (by decide) ?_
  refine gk_istore_n (lv' := [(2, .int (nI 0)), (1, .int (nI 0)), (0, .ref h)]) G dX0_hoursLate_3 rfl (by decide) rfl ?_
  exact gk_lsub [2,1,0] rfl (L4 (M 11 0 + 1) 0 (by omega) (by omega))
