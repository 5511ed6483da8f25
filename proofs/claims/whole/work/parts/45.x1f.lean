set_option maxRecDepth 100000 in
set_option maxHeartbeats 1000000 in
theorem c1_bestRule (l : Launch) (D : va_G) (cI cZ cJ : ClassId) (g h1 h2 : Nat) (q : Nat → Nat) (F : Nat → Int32) (B : Nat → Nat → Int32) (q2 : Nat → Nat) (F2 : Nat → Int32) (B2 : Nat → Nat → Int32) (M : gm_M) (wf : gm_wf M) (hr : gc_rep F B M) (hrest : gm_rest M) (hh : M 9 0 < 1999000) : gk_I l yX1_bestRule wsX1_bestRule ({ frames := 5, cells := 0, slots := 0, locals := 115 } : Room) D (g_T cI cZ cJ) gn_E [.ref g] (gw_G g h1 h2 ++ (gs_W cI cZ h1 q F B ++ (gs_W cI cZ h2 q2 F2 B2))) 0 0 (fun (r : Int32) (u : gw_U) => r = nI ((gm_bst M 2).1) ∧ gc_rep u.1.1 u.1.2 M) (fun u => (gw_X cI cZ g h1 h2 q q2 u)) := by
  refine gk_I_of (ty := .int) (cc := cX1_bestRule) (nL := 5) (by decide +kernel) rfl (Nat.le_of_ble_eq_true rfl) ?_
  intro p e s m below meth c A Q hnm hE G RET
  obtain ⟨hz1, hz2, hz3, hz4, hz5, hz6, hz7, hz8⟩ := id wf
  have hinX0 : ∀ w ∈ wsX00, w ∈ wsX1_bestRule := fun w h9 => (List.mem_cons_of_mem _ (List.mem_append_left _ (List.mem_append_right _ h9)))
  have hinX1 : ∀ w ∈ wsX10, w ∈ wsX1_bestRule := fun w h9 => (List.mem_cons_of_mem _ (List.mem_append_left _ (List.mem_append_left _ (List.mem_append_right _ h9))))
  have k10 := G.2.2.2.2.1 (.fieldLink RX1 10 "GustMill" "now" "LGustMill$State;") (List.mem_cons_of_mem _ (List.mem_append_left _ (List.mem_append_left _ (List.mem_append_left _ (List.mem_append_left _ (List.mem_of_getElem? (i := 0) rfl))))))
  have kN57 := gn_57 (args := ([.ref g] : List Value).toArray) hE
  have L17 : ∀ (n : Nat) (k : Nat) (F1 : Nat → Int32) (B1 : Nat → Nat → Int32) (G1 : Nat → Int32) (C1 : Nat → Nat → Int32), 2 - k < n → (k ≤ 2) → (gc_rep F1 B1 M) → gk_C p l e ({ frames := 5, cells := 0, slots := 0, locals := 115 } : Room) s m ([.ref g] : List Value).toArray below meth c 5 D A Q 0 0 (gw_G g h1 h2 ++ (gs_W cI cZ h1 q F1 B1 ++ (gs_W cI cZ h2 q2 G1 C1))) [(0, .ref g), (1, .int (nI ((gm_bst M k).1))), (2, .int (nI ((gm_bst M k).2))), (3, .int (nI (k + 1)))] 17 [] := by
    intro n
    induction n with
    | zero => intro k F1 B1 G1 C1 h0; exact absurd h0 (Nat.not_lt_zero _)
    | succ n ih =>
      intro k F1 B1 G1 C1 h0 w0 w1
      refine gk_iload_n G dX1_bestRule_17 3 rfl ?_
      refine gk_iconst (v := nI 3) G dX1_bestRule_18 (by decide) ?_
      refine gk_icmp_ge (tgt := 53) G dX1_bestRule_19 (by decide) (fun c_19 => ?_) (fun c_19 => ?_)
      · replace c_19 := (nI_leI (a := 3) (b := k + 1) (by omega) (by omega)).mp c_19
        refine gk_iload_n G dX1_bestRule_53 1 rfl ?_
        exact RET _ _ _ _ _ _ ((F1, B1), (G1, C1)) dX1_bestRule_54 rfl ⟨(by rw [show k = 2 by omega]), w1⟩ rfl (Nat.le_of_ble_eq_true rfl) (Nat.le_of_ble_eq_true rfl)
      · replace c_19 := (not_congr (nI_leI (a := 3) (b := k + 1) (by omega) (by omega))).mp c_19
        have hb9 := gm_bst_lt wf hh k (by omega)
        have hl9 := gm_lw_lt wf (show k + 1 ≤ 2 by omega) hz4 hh
        refine gk_aload_n G dX1_bestRule_22 0 rfl ?_
        refine gk_iload_n G dX1_bestRule_23 3 rfl ?_
        refine gk_aload_n G dX1_bestRule_24 0 rfl ?_
        refine gk_get (v' := .ref h1) G hinX1 (q0 := 0) rfl rfl 0 (by decide) k10 rfl rfl dX1_bestRule_25 ?_
        refine gk_getN (v' := .int (nI (M 15 0))) G hinX0 (q0 := 1) rfl rfl 15 (by decide) kN57 rfl (congrArg Value.int (w1.1.2.2.2.2.2.2)) dX1_bestRule_28 ?_
        refine gk_callIV (wr := []) G (c1_lateWith_ok l D cI cZ cJ g h1 h2 q F1 B1 q2 G1 C1 M (k + 1) (M 15 0) wf w1 hrest hh (by omega) hz4) gX1_bestRule_X1_lateWith rfl 2 (by decide +kernel) rfl rfl ⟨(Nat.le_of_ble_eq_true rfl), (Nat.le_of_ble_eq_true rfl)⟩ rfl (q0 := 0) rfl (T := TX1) (N := 2) rfl gn_ok hE [0, 1, 2, 3, 4, 5, 6, 7, 8, 9, 10, 11, 12, 13, 14, 15, 16, 17, 18, 19, 20] rfl (by decide) [] rfl (by decide) (by decide) rfl (Nat.le_of_ble_eq_true rfl) dX1_bestRule_31 ⟨(Nat.le_of_ble_eq_true rfl), (Nat.le_of_ble_eq_true rfl)⟩ (fun r31 u31 hp31 => ?_)
        obtain ⟨⟨F31, B31⟩, ⟨G31, C31⟩⟩ := u31
        have hr31 : gc_rep F31 B31 M := hp31.2
        rw [show r31 = nI (gm_lw M (k + 1) (M 15 0)) from hp31.1]
        show gk_C p l e ({ frames := 5, cells := 0, slots := 0, locals := 115 } : Room) s m ([.ref g] : List Value).toArray below meth c 5 D A Q 0 0 (gw_G g h1 h2 ++ (gs_W cI cZ h1 q F31 B31 ++ (gs_W cI cZ h2 q2 G31 C31))) [(0, .ref g), (1, .int (nI ((gm_bst M k).1))), (2, .int (nI ((gm_bst M k).2))), (3, .int (nI (k + 1)))] 34 [.int (nI (gm_lw M (k + 1) (M 15 0)))]
        refine gk_istore (lv' := [(4, .int (nI (gm_lw M (k + 1) (M 15 0)))), (0, .ref g), (1, .int (nI ((gm_bst M k).1))), (2, .int (nI ((gm_bst M k).2))), (3, .int (nI (k + 1)))]) G dX1_bestRule_34 (by decide) rfl ?_
        refine gk_iload G dX1_bestRule_36 0 rfl ?_
        refine gk_iload_n G dX1_bestRule_38 3 rfl ?_
        refine gk_icmp_ge (tgt := 47) G dX1_bestRule_39 (by decide) (fun c_39 => ?_) (fun c_39 => ?_)
        · replace c_39 := (nI_leI (a := (gm_bst M k).2) (b := gm_lw M (k + 1) (M 15 0)) (by omega) (by omega)).mp c_39
          replace c_39 := c_39
          refine gk_iinc (j := 4) (v := nI (k + 1 + 1)) (lv' := [(3, .int (nI (k + 1 + 1))), (4, .int (nI (gm_lw M (k + 1) (M 15 0)))), (0, .ref g), (1, .int (nI ((gm_bst M k).1))), (2, .int (nI ((gm_bst M k).2)))]) G dX1_bestRule_47 rfl (nI_add (k + 1) 1) (by decide) rfl ?_
          refine gk_goto (tgt := 17) G dX1_bestRule_50 (by decide) ?_
          have e9 : gm_bst M (k + 1) = gm_bst M k := by
            show (if gm_lw M (k + 1) (M 15 0) < (gm_bst M k).2 then (k + 1, gm_lw M (k + 1) (M 15 0)) else gm_bst M k) = _
            rw [if_neg (by omega)]
          have t9 := ih (k + 1) F31 B31 G31 C31 (by omega) (by omega) hr31
          rw [e9] at t9
          exact gk_lsub [2,3,4,0] rfl t9
        · replace c_39 := (not_congr (nI_leI (a := (gm_bst M k).2) (b := gm_lw M (k + 1) (M 15 0)) (by omega) (by omega))).mp c_39
          refine gk_iload_n G dX1_bestRule_42 4 rfl ?_
          refine gk_istore_n (lv' := [(1, .int (nI (k + 1))), (4, .int (nI (gm_lw M (k + 1) (M 15 0)))), (0, .ref g), (2, .int (nI ((gm_bst M k).2))), (3, .int (nI (k + 1)))]) G dX1_bestRule_43 rfl (by decide) rfl ?_
          refine gk_iload G dX1_bestRule_44 1 rfl ?_
          refine gk_istore_n (lv' := [(2, .int (nI (gm_lw M (k + 1) (M 15 0)))), (1, .int (nI (k + 1))), (4, .int (nI (gm_lw M (k + 1) (M 15 0)))), (0, .ref g), (3, .int (nI (k + 1)))]) G dX1_bestRule_46 rfl (by decide) rfl ?_
          refine gk_iinc (j := 4) (v := nI (k + 1 + 1)) (lv' := [(3, .int (nI (k + 1 + 1))), (2, .int (nI (gm_lw M (k + 1) (M 15 0)))), (1, .int (nI (k + 1))), (4, .int (nI (gm_lw M (k + 1) (M 15 0)))), (0, .ref g)]) G dX1_bestRule_47 rfl (nI_add (k + 1) 1) (by decide) rfl ?_
          refine gk_goto (tgt := 17) G dX1_bestRule_50 (by decide) ?_
          have e9 : gm_bst M (k + 1) = (k + 1, gm_lw M (k + 1) (M 15 0)) := by
            show (if gm_lw M (k + 1) (M 15 0) < (gm_bst M k).2 then (k + 1, gm_lw M (k + 1) (M 15 0)) else gm_bst M k) = _
            rw [if_pos (by omega)]
          have t9 := ih (k + 1) F31 B31 G31 C31 (by omega) (by omega) hr31
          rw [e9] at t9
          exact gk_lsub [4,2,1,0] rfl t9
  refine gk_iconst (v := nI 0) G dX1_bestRule_0 (by decide) ?_
  refine gk_istore_n (lv' := [(1, .int (nI 0)), (0, .ref g)]) G dX1_bestRule_1 rfl (by decide) rfl ?_
  refine gk_aload_n G dX1_bestRule_2 1 rfl ?_
  refine gk_iconst (v := nI 0) G dX1_bestRule_3 (by decide) ?_
  refine gk_aload_n G dX1_bestRule_4 1 rfl ?_
  refine gk_get (v' := .ref h1) G hinX1 (q0 := 0) rfl rfl 0 (by decide) k10 rfl rfl dX1_bestRule_5 ?_
  refine gk_getN (v' := .int (nI (M 15 0))) G hinX0 (q0 := 1) rfl rfl 15 (by decide) kN57 rfl (congrArg Value.int (hr.1.2.2.2.2.2.2)) dX1_bestRule_8 ?_
  refine gk_callIV (wr := []) G (c1_lateWith_ok l D cI cZ cJ g h1 h2 q F B q2 F2 B2 M 0 (M 15 0) wf hr hrest hh (by omega) hz4) gX1_bestRule_X1_lateWith rfl 2 (by decide +kernel) rfl rfl ⟨(Nat.le_of_ble_eq_true rfl), (Nat.le_of_ble_eq_true rfl)⟩ rfl (q0 := 0) rfl (T := TX1) (N := 2) rfl gn_ok hE [0, 1, 2, 3, 4, 5, 6, 7, 8, 9, 10, 11, 12, 13, 14, 15, 16, 17, 18, 19, 20] rfl (by decide) [] rfl (by decide) (by decide) rfl (Nat.le_of_ble_eq_true rfl) dX1_bestRule_11 ⟨(Nat.le_of_ble_eq_true rfl), (Nat.le_of_ble_eq_true rfl)⟩ (fun r11 u11 hp11 => ?_)
  obtain ⟨⟨F11, B11⟩, ⟨G11, C11⟩⟩ := u11
  have hr11 : gc_rep F11 B11 M := hp11.2
  rw [show r11 = nI (gm_lw M 0 (M 15 0)) from hp11.1]
  show gk_C p l e ({ frames := 5, cells := 0, slots := 0, locals := 115 } : Room) s m ([.ref g] : List Value).toArray below meth c 5 D A Q 0 0 (gw_G g h1 h2 ++ (gs_W cI cZ h1 q F11 B11 ++ (gs_W cI cZ h2 q2 G11 C11))) [(1, .int (nI 0)), (0, .ref g)] 14 [.int (nI (gm_lw M 0 (M 15 0)))]
  refine gk_istore_n (lv' := [(2, .int (nI (gm_lw M 0 (M 15 0)))), (1, .int (nI 0)), (0, .ref g)]) G dX1_bestRule_14 rfl (by decide) rfl ?_
  refine gk_iconst (v := nI 1) G dX1_bestRule_15 (by decide) ?_
  refine gk_istore_n (lv' := [(3, .int (nI 1)), (2, .int (nI (gm_lw M 0 (M 15 0)))), (1, .int (nI 0)), (0, .ref g)]) G dX1_bestRule_16 rfl (by decide) rfl ?_
  exact gk_lsub [3,2,1,0] rfl (L17 3 0 F11 B11 G11 C11 (by omega) (by omega) hr11)
set_option maxRecDepth 100000 in
set_option maxHeartbeats 1000000 in
theorem c1_groundIn_no (l : Launch) (D : va_G) (cI cZ cJ : ClassId) (g h1 h2 : Nat) (q : Nat → Nat) (F : Nat → Int32) (B : Nat → Nat → Int32) (q2 : Nat → Nat) (F2 : Nat → Int32) (B2 : Nat → Nat → Int32) (M : gm_M) (hl9 : l.stackTraces = false) (p0 : Int32) (wf : gm_wf M) (hr : gc_rep F B M) (hb : ¬ gm_rg p0 1 61) : gk_N l yX1_groundIn wsX1_groundIn ({ frames := 7, cells := 1, slots := 6, locals := 110 } : Room) D (g_T cI cZ cJ) gn_E [.ref g, .int p0] (gw_G g h1 h2 ++ (gs_W cI cZ h1 q F B ++ (gs_W cI cZ h2 q2 F2 B2))) 1 6 "java/lang/IllegalArgumentException" := by
  refine gk_N_of (cc := cX1_groundIn) (nL := 2) (by decide +kernel) rfl (Nat.le_of_ble_eq_true rfl) ?_
  intro p e s m below meth c A hout hE G
  obtain ⟨hz1, hz2, hz3, hz4, hz5, hz6, hz7, hz8⟩ := id wf
  refine gk_iload_n G dX1_groundIn_0 1 rfl ?_
  exact gk_callNS (wc := []) (wr := (gw_G g h1 h2 ++ (gs_W cI cZ h1 q F B ++ (gs_W cI cZ h2 q2 F2 B2)))) G (c1_requireHours_no l D cI cZ cJ hl9 p0 hb) gX1_groundIn_X1_requireHours rfl 1 (by decide +kernel) rfl rfl ⟨(Nat.le_of_ble_eq_true rfl), (Nat.le_of_ble_eq_true rfl)⟩ rfl gn_ok hE hout [] rfl (by decide) [0, 1, 2, 3, 4, 5, 6, 7, 8, 9, 10, 11, 12, 13, 14, 15, 16, 17, 18, 19, 20] rfl (by decide) (by decide) [0, 1, 2, 3, 4, 5, 6, 7, 8, 9, 10, 11, 12, 13, 14, 15, 16, 17, 18, 19, 20] rfl (by decide) rfl (Nat.le_of_ble_eq_true rfl) dX1_groundIn_1 ⟨(Nat.le_of_ble_eq_true rfl), (Nat.le_of_ble_eq_true rfl)⟩ (Nat.le_of_ble_eq_true rfl) (Nat.le_of_ble_eq_true rfl)
set_option maxRecDepth 100000 in
set_option maxHeartbeats 1000000 in
theorem c1_groundIn_ok (l : Launch) (D : va_G) (cI cZ cJ : ClassId) (g h1 h2 : Nat) (q : Nat → Nat) (F : Nat → Int32) (B : Nat → Nat → Int32) (q2 : Nat → Nat) (F2 : Nat → Int32) (B2 : Nat → Nat → Int32) (M : gm_M) (v : Nat) (wf : gm_wf M) (hr : gc_rep F B M) (hrest : gm_rest M) (hh : M 9 0 < 1999000) (hv0 : 1 ≤ v) (hv : v < 61) : gk_I l yX1_groundIn wsX1_groundIn ({ frames := 4, cells := 0, slots := 0, locals := 93 } : Room) D (g_T cI cZ cJ) gn_E [.ref g, .int (nI v)] (gw_G g h1 h2 ++ (gs_W cI cZ h1 q F B ++ (gs_W cI cZ h2 q2 F2 B2))) 0 0 (fun (r : Int32) (u : gw_U) => r = nI (gm_hrs M v 16 0 - M 16 0) ∧ gc_rep u.1.1 u.1.2 M) (fun u => (gw_X cI cZ g h1 h2 q q2 u)) := by
  refine gk_I_of (ty := .int) (cc := cX1_groundIn) (nL := 2) (by decide +kernel) rfl (Nat.le_of_ble_eq_true rfl) ?_
  intro p e s m below meth c A Q hnm hE G RET
  obtain ⟨hz1, hz2, hz3, hz4, hz5, hz6, hz7, hz8⟩ := id wf
  have hinX1 : ∀ w ∈ wsX10, w ∈ wsX1_groundIn := fun w h9 => (List.mem_cons_of_mem _ (List.mem_append_left _ (List.mem_append_left _ (List.mem_append_right _ h9))))
  have k10 := G.2.2.2.2.1 (.fieldLink RX1 10 "GustMill" "now" "LGustMill$State;") (List.mem_cons_of_mem _ (List.mem_append_left _ (List.mem_append_left _ (List.mem_append_left _ (List.mem_append_left _ (List.mem_of_getElem? (i := 1) rfl))))))
  have k16 := G.2.2.2.2.1 (.fieldLink RX1 16 "GustMill" "trial" "LGustMill$State;") (List.mem_cons_of_mem _ (List.mem_append_left _ (List.mem_append_left _ (List.mem_append_left _ (List.mem_append_left _ (List.mem_of_getElem? (i := 0) rfl))))))
  refine gk_iload_n G dX1_groundIn_0 1 rfl ?_
  refine gk_callVS (wc := []) (wr := (gw_G g h1 h2 ++ (gs_W cI cZ h1 q F B ++ (gs_W cI cZ h2 q2 F2 B2)))) (isC := []) (isR := [0, 1, 2, 3, 4, 5, 6, 7, 8, 9, 10, 11, 12, 13, 14, 15, 16, 17, 18, 19, 20]) G (c1_requireHours_ok l D cI cZ cJ v (by omega) (by omega)) gX1_groundIn_X1_requireHours rfl 1 (by decide +kernel) rfl rfl ⟨(Nat.le_of_ble_eq_true rfl), (Nat.le_of_ble_eq_true rfl)⟩ rfl gk_ok0 trivial rfl (by decide) rfl (by decide) (by decide) rfl (Nat.le_of_ble_eq_true rfl) dX1_groundIn_1 ⟨(Nat.le_of_ble_eq_true rfl), (Nat.le_of_ble_eq_true rfl)⟩ (fun u1 hp1 => ?_)
  show gk_C p l e ({ frames := 4, cells := 0, slots := 0, locals := 93 } : Room) s m ([.ref g, .int (nI v)] : List Value).toArray below meth c 2 D A Q 0 0 (gw_G g h1 h2 ++ (gs_W cI cZ h1 q F B ++ (gs_W cI cZ h2 q2 F2 B2))) [(0, .ref g), (1, .int (nI v))] 4 []
  refine gk_aload_n G dX1_groundIn_4 0 rfl ?_
  refine gk_get (v' := .ref h2) G hinX1 (q0 := 0) rfl rfl 1 (by decide) k16 rfl rfl dX1_groundIn_5 ?_
  refine gk_aload_n G dX1_groundIn_8 0 rfl ?_
  refine gk_get (v' := .ref h1) G hinX1 (q0 := 0) rfl rfl 0 (by decide) k10 rfl rfl dX1_groundIn_9 ?_
  refine gk_callVV (wr := gw_G g h1 h2) G (c0_become l D cI cZ cJ h2 q2 F2 B2 M h1 q F B wf hr) gX1_groundIn_X0_become rfl 1 (by decide +kernel) rfl rfl ⟨(Nat.le_of_ble_eq_true rfl), (Nat.le_of_ble_eq_true rfl)⟩ rfl (q0 := 0) rfl (T := TX0) (N := 16) rfl gk_ok0 trivial [11, 12, 13, 14, 15, 16, 17, 18, 19, 20, 1, 2, 3, 4, 5, 6, 7, 8, 9, 10] rfl (by decide) [0] rfl (by decide) (by decide) rfl (Nat.le_of_ble_eq_true rfl) dX1_groundIn_12 ⟨(Nat.le_of_ble_eq_true rfl), (Nat.le_of_ble_eq_true rfl)⟩ (fun u12 hp12 => ?_)
  obtain ⟨F12, B12⟩ := u12
  have hr12 : gc_rep F12 B12 M := hp12
  refine gk_wsub (w' := (gw_G g h1 h2 ++ (gs_W cI cZ h1 q F B ++ (gs_W cI cZ h2 q2 F12 B12)))) [0, 11, 12, 13, 14, 15, 16, 17, 18, 19, 20, 1, 2, 3, 4, 5, 6, 7, 8, 9, 10] rfl (by decide) ?_
  show gk_C p l e ({ frames := 4, cells := 0, slots := 0, locals := 93 } : Room) s m ([.ref g, .int (nI v)] : List Value).toArray below meth c 2 D A Q 0 0 (gw_G g h1 h2 ++ (gs_W cI cZ h1 q F B ++ (gs_W cI cZ h2 q2 F12 B12))) [(0, .ref g), (1, .int (nI v))] 15 []
  refine gk_aload_n G dX1_groundIn_15 0 rfl ?_
  refine gk_get (v' := .ref h2) G hinX1 (q0 := 0) rfl rfl 1 (by decide) k16 rfl rfl dX1_groundIn_16 ?_
  refine gk_iload_n G dX1_groundIn_19 1 rfl ?_
  refine gk_callIV (wr := (gw_G g h1 h2 ++ (gs_W cI cZ h1 q F B))) G (c0_run l D cI cZ cJ h2 q2 F12 B12 M v wf hr12 hrest (by omega)) gX1_groundIn_X0_run rfl 1 (by decide +kernel) rfl rfl ⟨(Nat.le_of_ble_eq_true rfl), (Nat.le_of_ble_eq_true rfl)⟩ rfl (q0 := 0) rfl (T := TX0) (N := 16) rfl gk_ok0 trivial [11, 12, 13, 14, 15, 16, 17, 18, 19, 20] rfl (by decide) [0, 1, 2, 3, 4, 5, 6, 7, 8, 9, 10] rfl (by decide) (by decide) rfl (Nat.le_of_ble_eq_true rfl) dX1_groundIn_20 ⟨(Nat.le_of_ble_eq_true rfl), (Nat.le_of_ble_eq_true rfl)⟩ (fun r20 u20 hp20 => ?_)
  obtain ⟨F20, B20⟩ := u20
  have hr20 : gc_rep F20 B20 (gm_hrs M v) := hp20.2
  obtain rfl : r20 = nI (gm_hrs M v 16 0 - M 16 0) := hp20.1
  show gk_C p l e ({ frames := 4, cells := 0, slots := 0, locals := 93 } : Room) s m ([.ref g, .int (nI v)] : List Value).toArray below meth c 2 D A Q 0 0 (gw_G g h1 h2 ++ (gs_W cI cZ h1 q F B ++ (gs_W cI cZ h2 q2 F20 B20))) [(0, .ref g), (1, .int (nI v))] 23 [.int (nI (gm_hrs M v 16 0 - M 16 0))]
  exact RET _ _ _ _ _ _ ((F, B), (F20, B20)) dX1_groundIn_23 rfl ⟨rfl, hr⟩ rfl (Nat.le_of_ble_eq_true rfl) (Nat.le_of_ble_eq_true rfl)
set_option maxRecDepth 100000 in
set_option maxHeartbeats 1000000 in
theorem c1_wouldBeInTime_no1 (l : Launch) (D : va_G) (cI cZ cJ : ClassId) (g h1 h2 : Nat) (q : Nat → Nat) (F : Nat → Int32) (B : Nat → Nat → Int32) (q2 : Nat → Nat) (F2 : Nat → Int32) (B2 : Nat → Nat → Int32) (M : gm_M) (hl9 : l.stackTraces = false) (p0 p1 : Int32) (wf : gm_wf M) (hr : gc_rep F B M) (hb : ¬ gm_rg p0 1 61) : gk_N l yX1_wouldBeInTime wsX1_wouldBeInTime ({ frames := 7, cells := 1, slots := 6, locals := 110 } : Room) D (g_T cI cZ cJ) gn_E [.ref g, .int p0, .int p1] (gw_G g h1 h2 ++ (gs_W cI cZ h1 q F B ++ (gs_W cI cZ h2 q2 F2 B2))) 1 6 "java/lang/IllegalArgumentException" := by
  refine gk_N_of (cc := cX1_wouldBeInTime) (nL := 4) (by decide +kernel) rfl (Nat.le_of_ble_eq_true rfl) ?_
  intro p e s m below meth c A hout hE G
  obtain ⟨hz1, hz2, hz3, hz4, hz5, hz6, hz7, hz8⟩ := id wf
  refine gk_iload_n G dX1_wouldBeInTime_0 1 rfl ?_
  exact gk_callNS (wc := []) (wr := (gw_G g h1 h2 ++ (gs_W cI cZ h1 q F B ++ (gs_W cI cZ h2 q2 F2 B2)))) G (c1_requireGrain_no l D cI cZ cJ hl9 p0 hb) gX1_wouldBeInTime_X1_requireGrain rfl 1 (by decide +kernel) rfl rfl ⟨(Nat.le_of_ble_eq_true rfl), (Nat.le_of_ble_eq_true rfl)⟩ rfl gn_ok hE hout [] rfl (by decide) [0, 1, 2, 3, 4, 5, 6, 7, 8, 9, 10, 11, 12, 13, 14, 15, 16, 17, 18, 19, 20] rfl (by decide) (by decide) [0, 1, 2, 3, 4, 5, 6, 7, 8, 9, 10, 11, 12, 13, 14, 15, 16, 17, 18, 19, 20] rfl (by decide) rfl (Nat.le_of_ble_eq_true rfl) dX1_wouldBeInTime_1 ⟨(Nat.le_of_ble_eq_true rfl), (Nat.le_of_ble_eq_true rfl)⟩ (Nat.le_of_ble_eq_true rfl) (Nat.le_of_ble_eq_true rfl)
set_option maxRecDepth 100000 in
set_option maxHeartbeats 1000000 in
theorem c1_wouldBeInTime_no2 (l : Launch) (D : va_G) (cI cZ cJ : ClassId) (g h1 h2 : Nat) (q : Nat → Nat) (F : Nat → Int32) (B : Nat → Nat → Int32) (q2 : Nat → Nat) (F2 : Nat → Int32) (B2 : Nat → Nat → Int32) (M : gm_M) (hl9 : l.stackTraces = false) (vg : Nat) (p1 : Int32) (wf : gm_wf M) (hr : gc_rep F B M) (hg0 : 1 ≤ vg) (hg1 : vg < 61) (hb : ¬ gm_rg p1 1 201) : gk_N l yX1_wouldBeInTime wsX1_wouldBeInTime ({ frames := 7, cells := 1, slots := 6, locals := 110 } : Room) D (g_T cI cZ cJ) gn_E [.ref g, .int (nI vg), .int p1] (gw_G g h1 h2 ++ (gs_W cI cZ h1 q F B ++ (gs_W cI cZ h2 q2 F2 B2))) 1 6 "java/lang/IllegalArgumentException" := by
  refine gk_N_of (cc := cX1_wouldBeInTime) (nL := 4) (by decide +kernel) rfl (Nat.le_of_ble_eq_true rfl) ?_
  intro p e s m below meth c A hout hE G
  obtain ⟨hz1, hz2, hz3, hz4, hz5, hz6, hz7, hz8⟩ := id wf
  refine gk_iload_n G dX1_wouldBeInTime_0 1 rfl ?_
  refine gk_callVS (wc := []) (wr := (gw_G g h1 h2 ++ (gs_W cI cZ h1 q F B ++ (gs_W cI cZ h2 q2 F2 B2)))) (isC := []) (isR := [0, 1, 2, 3, 4, 5, 6, 7, 8, 9, 10, 11, 12, 13, 14, 15, 16, 17, 18, 19, 20]) G (c1_requireGrain_ok l D cI cZ cJ vg (by omega) (by omega)) gX1_wouldBeInTime_X1_requireGrain rfl 1 (by decide +kernel) rfl rfl ⟨(Nat.le_of_ble_eq_true rfl), (Nat.le_of_ble_eq_true rfl)⟩ rfl gk_ok0 trivial rfl (by decide) rfl (by decide) (by decide) rfl (Nat.le_of_ble_eq_true rfl) dX1_wouldBeInTime_1 ⟨(Nat.le_of_ble_eq_true rfl), (Nat.le_of_ble_eq_true rfl)⟩ (fun u1 hp1 => ?_)
  show gk_C p l e ({ frames := 7, cells := 1, slots := 6, locals := 110 } : Room) s m ([.ref g, .int (nI vg), .int p1] : List Value).toArray below meth c 4 D A (gk_QN below D (g_T cI cZ cJ) A (gw_G g h1 h2 ++ (gs_W cI cZ h1 q F B ++ (gs_W cI cZ h2 q2 F2 B2))) "java/lang/IllegalArgumentException" ([.ref g, .int (nI vg), .int p1] : List Value).toArray s 1 6) 0 0 (gw_G g h1 h2 ++ (gs_W cI cZ h1 q F B ++ (gs_W cI cZ h2 q2 F2 B2))) [(0, .ref g), (1, .int (nI vg)), (2, .int p1)] 4 []
  refine gk_iload_n G dX1_wouldBeInTime_4 2 rfl ?_
  exact gk_callNS (wc := []) (wr := (gw_G g h1 h2 ++ (gs_W cI cZ h1 q F B ++ (gs_W cI cZ h2 q2 F2 B2)))) G (c1_requireUntil_no l D cI cZ cJ hl9 p1 hb) gX1_wouldBeInTime_X1_requireUntil rfl 1 (by decide +kernel) rfl rfl ⟨(Nat.le_of_ble_eq_true rfl), (Nat.le_of_ble_eq_true rfl)⟩ rfl gn_ok hE hout [] rfl (by decide) [0, 1, 2, 3, 4, 5, 6, 7, 8, 9, 10, 11, 12, 13, 14, 15, 16, 17, 18, 19, 20] rfl (by decide) (by decide) [0, 1, 2, 3, 4, 5, 6, 7, 8, 9, 10, 11, 12, 13, 14, 15, 16, 17, 18, 19, 20] rfl (by decide) rfl (Nat.le_of_ble_eq_true rfl) dX1_wouldBeInTime_5 ⟨(Nat.le_of_ble_eq_true rfl), (Nat.le_of_ble_eq_true rfl)⟩ (Nat.le_of_ble_eq_true rfl) (Nat.le_of_ble_eq_true rfl)
set_option maxRecDepth 100000 in
set_option maxHeartbeats 1000000 in
theorem c1_wouldBeInTime_full (l : Launch) (D : va_G) (cI cZ cJ : ClassId) (g h1 h2 : Nat) (q : Nat → Nat) (F : Nat → Int32) (B : Nat → Nat → Int32) (q2 : Nat → Nat) (F2 : Nat → Int32) (B2 : Nat → Nat → Int32) (M : gm_M) (vg vt : Nat) (wf : gm_wf M) (hr : gc_rep F B M) (hg0 : 1 ≤ vg) (hg1 : vg < 61) (ht0 : 1 ≤ vt) (ht1 : vt < 201) (h16 : M 11 0 = 16) : gk_I l yX1_wouldBeInTime wsX1_wouldBeInTime ({ frames := 1, cells := 0, slots := 0, locals := 20 } : Room) D (g_T cI cZ cJ) gn_E [.ref g, .int (nI vg), .int (nI vt)] (gw_G g h1 h2 ++ (gs_W cI cZ h1 q F B ++ (gs_W cI cZ h2 q2 F2 B2))) 0 0 (fun (r : Int32) (u : gw_U) => r = nI 0 ∧ gc_rep u.1.1 u.1.2 M) (fun u => (gw_X cI cZ g h1 h2 q q2 u)) := by
  refine gk_I_of (ty := .boolean) (cc := cX1_wouldBeInTime) (nL := 4) (by decide +kernel) rfl (Nat.le_of_ble_eq_true rfl) ?_
  intro p e s m below meth c A Q hnm hE G RET
  obtain ⟨hz1, hz2, hz3, hz4, hz5, hz6, hz7, hz8⟩ := id wf
  have hinX0 : ∀ w ∈ wsX00, w ∈ wsX1_wouldBeInTime := fun w h9 => (List.mem_cons_of_mem _ (List.mem_append_left _ (List.mem_append_right _ h9)))
  have hinX1 : ∀ w ∈ wsX10, w ∈ wsX1_wouldBeInTime := fun w h9 => (List.mem_cons_of_mem _ (List.mem_append_left _ (List.mem_append_left _ (List.mem_append_right _ h9))))
  have k10 := G.2.2.2.2.1 (.fieldLink RX1 10 "GustMill" "now" "LGustMill$State;") (List.mem_cons_of_mem _ (List.mem_append_left _ (List.mem_append_left _ (List.mem_append_left _ (List.mem_append_left _ (List.mem_of_getElem? (i := 0) rfl))))))
  have kN70 := gn_70 (args := ([.ref g, .int (nI vg), .int (nI vt)] : List Value).toArray) hE
  refine gk_iload_n G dX1_wouldBeInTime_0 1 rfl ?_
  refine gk_callVS (wc := []) (wr := (gw_G g h1 h2 ++ (gs_W cI cZ h1 q F B ++ (gs_W cI cZ h2 q2 F2 B2)))) (isC := []) (isR := [0, 1, 2, 3, 4, 5, 6, 7, 8, 9, 10, 11, 12, 13, 14, 15, 16, 17, 18, 19, 20]) G (c1_requireGrain_ok l D cI cZ cJ vg (by omega) (by omega)) gX1_wouldBeInTime_X1_requireGrain rfl 1 (by decide +kernel) rfl rfl ⟨(Nat.le_of_ble_eq_true rfl), (Nat.le_of_ble_eq_true rfl)⟩ rfl gk_ok0 trivial rfl (by decide) rfl (by decide) (by decide) rfl (Nat.le_of_ble_eq_true rfl) dX1_wouldBeInTime_1 ⟨(Nat.le_of_ble_eq_true rfl), (Nat.le_of_ble_eq_true rfl)⟩ (fun u1 hp1 => ?_)
  show gk_C p l e ({ frames := 1, cells := 0, slots := 0, locals := 20 } : Room) s m ([.ref g, .int (nI vg), .int (nI vt)] : List Value).toArray below meth c 4 D A Q 0 0 (gw_G g h1 h2 ++ (gs_W cI cZ h1 q F B ++ (gs_W cI cZ h2 q2 F2 B2))) [(0, .ref g), (1, .int (nI vg)), (2, .int (nI vt))] 4 []
  refine gk_iload_n G dX1_wouldBeInTime_4 2 rfl ?_
  refine gk_callVS (wc := []) (wr := (gw_G g h1 h2 ++ (gs_W cI cZ h1 q F B ++ (gs_W cI cZ h2 q2 F2 B2)))) (isC := []) (isR := [0, 1, 2, 3, 4, 5, 6, 7, 8, 9, 10, 11, 12, 13, 14, 15, 16, 17, 18, 19, 20]) G (c1_requireUntil_ok l D cI cZ cJ vt (by omega) (by omega)) gX1_wouldBeInTime_X1_requireUntil rfl 1 (by decide +kernel) rfl rfl ⟨(Nat.le_of_ble_eq_true rfl), (Nat.le_of_ble_eq_true rfl)⟩ rfl gk_ok0 trivial rfl (by decide) rfl (by decide) (by decide) rfl (Nat.le_of_ble_eq_true rfl) dX1_wouldBeInTime_5 ⟨(Nat.le_of_ble_eq_true rfl), (Nat.le_of_ble_eq_true rfl)⟩ (fun u5 hp5 => ?_)
  show gk_C p l e ({ frames := 1, cells := 0, slots := 0, locals := 20 } : Room) s m ([.ref g, .int (nI vg), .int (nI vt)] : List Value).toArray below meth c 4 D A Q 0 0 (gw_G g h1 h2 ++ (gs_W cI cZ h1 q F B ++ (gs_W cI cZ h2 q2 F2 B2))) [(0, .ref g), (1, .int (nI vg)), (2, .int (nI vt))] 8 []
  refine gk_aload_n G dX1_wouldBeInTime_8 0 rfl ?_
  refine gk_get (v' := .ref h1) G hinX1 (q0 := 0) rfl rfl 0 (by decide) k10 rfl rfl dX1_wouldBeInTime_9 ?_
  refine gk_getN (v' := .int (nI (M 11 0))) G hinX0 (q0 := 1) rfl rfl 11 (by decide) kN70 rfl (congrArg Value.int (hr.1.2.2.1)) dX1_wouldBeInTime_12 ?_
  refine gk_bipush (v := nI 16) G dX1_wouldBeInTime_15 (by decide) ?_
  refine gk_icmp_lt (tgt := 22) G dX1_wouldBeInTime_17 (by decide) (fun c_17 => ?_) (fun c_17 => ?_)
  · replace c_17 := (nI_ltI (a := M 11 0) (b := 16) (by omega) (by omega)).mp c_17
    exact absurd c_17 (by omega)
  · replace c_17 := (not_congr (nI_ltI (a := M 11 0) (b := 16) (by omega) (by omega))).mp c_17
    refine gk_iconst (v := nI 0) G dX1_wouldBeInTime_20 (by decide) ?_
    exact RET _ _ _ _ _ _ ((F, B), (F2, B2)) dX1_wouldBeInTime_21 rfl ⟨rfl, hr⟩ rfl (Nat.le_of_ble_eq_true rfl) (Nat.le_of_ble_eq_true rfl)
set_option maxRecDepth 100000 in
set_option maxHeartbeats 1000000 in
theorem c1_wouldBeInTime_ok (l : Launch) (D : va_G) (cI cZ cJ : ClassId) (g h1 h2 : Nat) (q : Nat → Nat) (F : Nat → Int32) (B : Nat → Nat → Int32) (q2 : Nat → Nat) (F2 : Nat → Int32) (B2 : Nat → Nat → Int32) (M : gm_M) (vg vt : Nat) (wf : gm_wf M) (hr : gc_rep F B M) (hrest : gm_rest M) (hh : M 9 0 < 1999000) (hg0 : 1 ≤ vg) (hg1 : vg < 61) (ht0 : 1 ≤ vt) (ht1 : vt < 201) (h16 : M 11 0 < 16) : gk_I l yX1_wouldBeInTime wsX1_wouldBeInTime ({ frames := 4, cells := 0, slots := 0, locals := 93 } : Room) D (g_T cI cZ cJ) gn_E [.ref g, .int (nI vg), .int (nI vt)] (gw_G g h1 h2 ++ (gs_W cI cZ h1 q F B ++ (gs_W cI cZ h2 q2 F2 B2))) 0 0 (fun (r : Int32) (u : gw_U) => r = gm_b (gm_wbt M vg vt) ∧ gc_rep u.1.1 u.1.2 M) (fun u => (gw_X cI cZ g h1 h2 q q2 u)) := by
  refine gk_I_of (ty := .boolean) (cc := cX1_wouldBeInTime) (nL := 4) (by decide +kernel) rfl (Nat.le_of_ble_eq_true rfl) ?_
  intro p e s m below meth c A Q hnm hE G RET
  obtain ⟨hz1, hz2, hz3, hz4, hz5, hz6, hz7, hz8⟩ := id wf
  have hinX0 : ∀ w ∈ wsX00, w ∈ wsX1_wouldBeInTime := fun w h9 => (List.mem_cons_of_mem _ (List.mem_append_left _ (List.mem_append_right _ h9)))
  have hinX1 : ∀ w ∈ wsX10, w ∈ wsX1_wouldBeInTime := fun w h9 => (List.mem_cons_of_mem _ (List.mem_append_left _ (List.mem_append_left _ (List.mem_append_right _ h9))))
  have k10 := G.2.2.2.2.1 (.fieldLink RX1 10 "GustMill" "now" "LGustMill$State;") (List.mem_cons_of_mem _ (List.mem_append_left _ (List.mem_append_left _ (List.mem_append_left _ (List.mem_append_left _ (List.mem_of_getElem? (i := 0) rfl))))))
  have k16 := G.2.2.2.2.1 (.fieldLink RX1 16 "GustMill" "trial" "LGustMill$State;") (List.mem_cons_of_mem _ (List.mem_append_left _ (List.mem_append_left _ (List.mem_append_left _ (List.mem_append_left _ (List.mem_of_getElem? (i := 1) rfl))))))
  have kN70 := gn_70 (args := ([.ref g, .int (nI vg), .int (nI vt)] : List Value).toArray) hE
  have kN114 := gn_114 (args := ([.ref g, .int (nI vg), .int (nI vt)] : List Value).toArray) hE
  refine gk_iload_n G dX1_wouldBeInTime_0 1 rfl ?_
  refine gk_callVS (wc := []) (wr := (gw_G g h1 h2 ++ (gs_W cI cZ h1 q F B ++ (gs_W cI cZ h2 q2 F2 B2)))) (isC := []) (isR := [0, 1, 2, 3, 4, 5, 6, 7, 8, 9, 10, 11, 12, 13, 14, 15, 16, 17, 18, 19, 20]) G (c1_requireGrain_ok l D cI cZ cJ vg (by omega) (by omega)) gX1_wouldBeInTime_X1_requireGrain rfl 1 (by decide +kernel) rfl rfl ⟨(Nat.le_of_ble_eq_true rfl), (Nat.le_of_ble_eq_true rfl)⟩ rfl gk_ok0 trivial rfl (by decide) rfl (by decide) (by decide) rfl (Nat.le_of_ble_eq_true rfl) dX1_wouldBeInTime_1 ⟨(Nat.le_of_ble_eq_true rfl), (Nat.le_of_ble_eq_true rfl)⟩ (fun u1 hp1 => ?_)
  show gk_C p l e ({ frames := 4, cells := 0, slots := 0, locals := 93 } : Room) s m ([.ref g, .int (nI vg), .int (nI vt)] : List Value).toArray below meth c 4 D A Q 0 0 (gw_G g h1 h2 ++ (gs_W cI cZ h1 q F B ++ (gs_W cI cZ h2 q2 F2 B2))) [(0, .ref g), (1, .int (nI vg)), (2, .int (nI vt))] 4 []
  refine gk_iload_n G dX1_wouldBeInTime_4 2 rfl ?_
  refine gk_callVS (wc := []) (wr := (gw_G g h1 h2 ++ (gs_W cI cZ h1 q F B ++ (gs_W cI cZ h2 q2 F2 B2)))) (isC := []) (isR := [0, 1, 2, 3, 4, 5, 6, 7, 8, 9, 10, 11, 12, 13, 14, 15, 16, 17, 18, 19, 20]) G (c1_requireUntil_ok l D cI cZ cJ vt (by omega) (by omega)) gX1_wouldBeInTime_X1_requireUntil rfl 1 (by decide +kernel) rfl rfl ⟨(Nat.le_of_ble_eq_true rfl), (Nat.le_of_ble_eq_true rfl)⟩ rfl gk_ok0 trivial rfl (by decide) rfl (by decide) (by decide) rfl (Nat.le_of_ble_eq_true rfl) dX1_wouldBeInTime_5 ⟨(Nat.le_of_ble_eq_true rfl), (Nat.le_of_ble_eq_true rfl)⟩ (fun u5 hp5 => ?_)
  show gk_C p l e ({ frames := 4, cells := 0, slots := 0, locals := 93 } : Room) s m ([.ref g, .int (nI vg), .int (nI vt)] : List Value).toArray below meth c 4 D A Q 0 0 (gw_G g h1 h2 ++ (gs_W cI cZ h1 q F B ++ (gs_W cI cZ h2 q2 F2 B2))) [(0, .ref g), (1, .int (nI vg)), (2, .int (nI vt))] 8 []
  refine gk_aload_n G dX1_wouldBeInTime_8 0 rfl ?_
  refine gk_get (v' := .ref h1) G hinX1 (q0 := 0) rfl rfl 0 (by decide) k10 rfl rfl dX1_wouldBeInTime_9 ?_
  refine gk_getN (v' := .int (nI (M 11 0))) G hinX0 (q0 := 1) rfl rfl 11 (by decide) kN70 rfl (congrArg Value.int (hr.1.2.2.1)) dX1_wouldBeInTime_12 ?_
  refine gk_bipush (v := nI 16) G dX1_wouldBeInTime_15 (by decide) ?_
  refine gk_icmp_lt (tgt := 22) G dX1_wouldBeInTime_17 (by decide) (fun c_17 => ?_) (fun c_17 => ?_)
  · replace c_17 := (nI_ltI (a := M 11 0) (b := 16) (by omega) (by omega)).mp c_17
    refine gk_aload_n G dX1_wouldBeInTime_22 0 rfl ?_
    refine gk_get (v' := .ref h2) G hinX1 (q0 := 0) rfl rfl 1 (by decide) k16 rfl rfl dX1_wouldBeInTime_23 ?_
    refine gk_aload_n G dX1_wouldBeInTime_26 0 rfl ?_
    refine gk_get (v' := .ref h1) G hinX1 (q0 := 0) rfl rfl 0 (by decide) k10 rfl rfl dX1_wouldBeInTime_27 ?_
    refine gk_callVV (wr := gw_G g h1 h2) G (c0_become l D cI cZ cJ h2 q2 F2 B2 M h1 q F B wf hr) gX1_wouldBeInTime_X0_become rfl 1 (by decide +kernel) rfl rfl ⟨(Nat.le_of_ble_eq_true rfl), (Nat.le_of_ble_eq_true rfl)⟩ rfl (q0 := 0) rfl (T := TX0) (N := 16) rfl gk_ok0 trivial [11, 12, 13, 14, 15, 16, 17, 18, 19, 20, 1, 2, 3, 4, 5, 6, 7, 8, 9, 10] rfl (by decide) [0] rfl (by decide) (by decide) rfl (Nat.le_of_ble_eq_true rfl) dX1_wouldBeInTime_30 ⟨(Nat.le_of_ble_eq_true rfl), (Nat.le_of_ble_eq_true rfl)⟩ (fun u30 hp30 => ?_)
    obtain ⟨F30, B30⟩ := u30
    have hr30 : gc_rep F30 B30 M := hp30
    refine gk_wsub (w' := (gw_G g h1 h2 ++ (gs_W cI cZ h1 q F B ++ (gs_W cI cZ h2 q2 F30 B30)))) [0, 11, 12, 13, 14, 15, 16, 17, 18, 19, 20, 1, 2, 3, 4, 5, 6, 7, 8, 9, 10] rfl (by decide) ?_
    show gk_C p l e ({ frames := 4, cells := 0, slots := 0, locals := 93 } : Room) s m ([.ref g, .int (nI vg), .int (nI vt)] : List Value).toArray below meth c 4 D A Q 0 0 (gw_G g h1 h2 ++ (gs_W cI cZ h1 q F B ++ (gs_W cI cZ h2 q2 F30 B30))) [(0, .ref g), (1, .int (nI vg)), (2, .int (nI vt))] 33 []
    refine gk_aload_n G dX1_wouldBeInTime_33 0 rfl ?_
    refine gk_get (v' := .ref h2) G hinX1 (q0 := 0) rfl rfl 1 (by decide) k16 rfl rfl dX1_wouldBeInTime_34 ?_
    refine gk_iconst (v := nI 0) G dX1_wouldBeInTime_37 (by decide) ?_
    refine gk_iload_n G dX1_wouldBeInTime_38 1 rfl ?_
    refine gk_iload_n G dX1_wouldBeInTime_39 2 rfl ?_
    refine gk_callIV (wr := (gw_G g h1 h2 ++ (gs_W cI cZ h1 q F B))) G (c0_storeSack l D cI cZ cJ h2 q2 F30 B30 M 0 vg vt wf hr30 h16) gX1_wouldBeInTime_X0_storeSack rfl 3 (by decide +kernel) rfl rfl ⟨(Nat.le_of_ble_eq_true rfl), (Nat.le_of_ble_eq_true rfl)⟩ rfl (q0 := 0) rfl (T := TX0) (N := 16) rfl gk_ok0 trivial [11, 12, 13, 14, 15, 16, 17, 18, 19, 20] rfl (by decide) [0, 1, 2, 3, 4, 5, 6, 7, 8, 9, 10] rfl (by decide) (by decide) rfl (Nat.le_of_ble_eq_true rfl) dX1_wouldBeInTime_40 ⟨(Nat.le_of_ble_eq_true rfl), (Nat.le_of_ble_eq_true rfl)⟩ (fun r40 u40 hp40 => ?_)
    obtain ⟨F40, B40⟩ := u40
    have hr40 : gc_rep F40 B40 (gm_add M 0 vg vt) := hp40.2
    obtain rfl : r40 = nI (M 11 0) := hp40.1
    show gk_C p l e ({ frames := 4, cells := 0, slots := 0, locals := 93 } : Room) s m ([.ref g, .int (nI vg), .int (nI vt)] : List Value).toArray below meth c 4 D A Q 0 0 (gw_G g h1 h2 ++ (gs_W cI cZ h1 q F B ++ (gs_W cI cZ h2 q2 F40 B40))) [(0, .ref g), (1, .int (nI vg)), (2, .int (nI vt))] 43 [.int (nI (M 11 0))]
    refine gk_istore_n (lv' := [(3, .int (nI (M 11 0))), (0, .ref g), (1, .int (nI vg)), (2, .int (nI vt))]) G dX1_wouldBeInTime_43 rfl (by decide) rfl ?_
    refine gk_aload_n G dX1_wouldBeInTime_44 1 rfl ?_
    refine gk_get (v' := .ref h2) G hinX1 (q0 := 0) rfl rfl 1 (by decide) k16 rfl rfl dX1_wouldBeInTime_45 ?_
    refine gk_sipush (v := nI 200) G dX1_wouldBeInTime_48 (by decide) ?_
    have wfA := gm_add_wf (b := 0) (g := vg) (u := vt) wf h16 (by omega) (by omega) ht0 (by omega)
    have restA := gm_add_rest (b := 0) (u := vt) hrest hg0
    have e9A : (gm_add M 0 vg vt) 9 0 = M 9 0 := gm_add_k M 0 vg vt 0 (by decide) (by decide)
    refine gk_callIV (wr := (gw_G g h1 h2 ++ (gs_W cI cZ h1 q F B))) G (c0_run l D cI cZ cJ h2 q2 F40 B40 (gm_add M 0 vg vt) 200 wfA hr40 restA (by omega)) gX1_wouldBeInTime_X0_run rfl 1 (by decide +kernel) rfl rfl ⟨(Nat.le_of_ble_eq_true rfl), (Nat.le_of_ble_eq_true rfl)⟩ rfl (q0 := 0) rfl (T := TX0) (N := 16) rfl gk_ok0 trivial [11, 12, 13, 14, 15, 16, 17, 18, 19, 20] rfl (by decide) [0, 1, 2, 3, 4, 5, 6, 7, 8, 9, 10] rfl (by decide) (by decide) rfl (Nat.le_of_ble_eq_true rfl) dX1_wouldBeInTime_51 ⟨(Nat.le_of_ble_eq_true rfl), (Nat.le_of_ble_eq_true rfl)⟩ (fun r51 u51 hp51 => ?_)
    obtain ⟨F51, B51⟩ := u51
    have hr51 : gc_rep F51 B51 (gm_hrs (gm_add M 0 vg vt) 200) := hp51.2
    obtain rfl : r51 = nI ((gm_hrs (gm_add M 0 vg vt) 200) 16 0 - (gm_add M 0 vg vt) 16 0) := hp51.1
    have e11A : (gm_hrs (gm_add M 0 vg vt) 200) 11 0 = M 11 0 + 1 := (gm_hrs_ne _ 0 (by decide) (by decide) (by decide) (by decide) (by decide) (by decide) (by decide) 200).trans (gm_add_11 M 0 vg vt)
    have hvT : M 11 0 < (gm_hrs (gm_add M 0 vg vt) 200) 11 0 := by rw [e11A]; exact Nat.lt_succ_self _
    have h8T : (gm_hrs (gm_add M 0 vg vt) 200) 8 (M 11 0) ≤ (gm_hrs (gm_add M 0 vg vt) 200) 9 0 + 1 := ((gm_hrs_wf wfA 200).2.2.2.2.2.2.1 (M 11 0) hvT).2.2.2.2.2.2
    rw [gm_hrs_9, e9A] at h8T
    show gk_C p l e ({ frames := 4, cells := 0, slots := 0, locals := 93 } : Room) s m ([.ref g, .int (nI vg), .int (nI vt)] : List Value).toArray below meth c 4 D A Q 0 0 (gw_G g h1 h2 ++ (gs_W cI cZ h1 q F B ++ (gs_W cI cZ h2 q2 F51 B51))) [(3, .int (nI (M 11 0))), (0, .ref g), (1, .int (nI vg)), (2, .int (nI vt))] 54 [.int (nI ((gm_hrs (gm_add M 0 vg vt) 200) 16 0 - (gm_add M 0 vg vt) 16 0))]
    refine gk_pop G dX1_wouldBeInTime_54 rfl ?_
    refine gk_aload_n G dX1_wouldBeInTime_55 1 rfl ?_
    refine gk_get (v' := .ref h2) G hinX1 (q0 := 0) rfl rfl 1 (by decide) k16 rfl rfl dX1_wouldBeInTime_56 ?_
    refine gk_iload_n G dX1_wouldBeInTime_59 0 rfl ?_
    refine gk_callIV (wr := (gw_G g h1 h2 ++ (gs_W cI cZ h1 q F B))) G (c0_isGround l D cI cZ cJ h2 q2 F51 B51 (gm_hrs (gm_add M 0 vg vt) 200) (M 11 0) (gm_hrs_wf wfA 200) hr51 hvT) gX1_wouldBeInTime_X0_isGround rfl 1 (by decide +kernel) rfl rfl ⟨(Nat.le_of_ble_eq_true rfl), (Nat.le_of_ble_eq_true rfl)⟩ rfl (q0 := 0) rfl (T := TX0) (N := 16) rfl gk_ok0 trivial [11, 12, 13, 14, 15, 16, 17, 18, 19, 20] rfl (by decide) [0, 1, 2, 3, 4, 5, 6, 7, 8, 9, 10] rfl (by decide) (by decide) rfl (Nat.le_of_ble_eq_true rfl) dX1_wouldBeInTime_60 ⟨(Nat.le_of_ble_eq_true rfl), (Nat.le_of_ble_eq_true rfl)⟩ (fun r60 u60 hp60 => ?_)
    rw [show r60 = gm_b ((gm_hrs (gm_add M 0 vg vt) 200) 5 (M 11 0) = 0) from hp60]
    show gk_C p l e ({ frames := 4, cells := 0, slots := 0, locals := 93 } : Room) s m ([.ref g, .int (nI vg), .int (nI vt)] : List Value).toArray below meth c 4 D A Q 0 0 (gw_G g h1 h2 ++ (gs_W cI cZ h1 q F B ++ (gs_W cI cZ h2 q2 F51 B51))) [(3, .int (nI (M 11 0))), (0, .ref g), (1, .int (nI vg)), (2, .int (nI vt))] 63 [.int (gm_b ((gm_hrs (gm_add M 0 vg vt) 200) 5 (M 11 0) = 0))]
    refine gk_if_eq (tgt := 83) G dX1_wouldBeInTime_63 (by decide) (fun c_63 => ?_) (fun c_63 => ?_)
    · replace c_63 := gm_b_eq.mp c_63
      have e8 : (gm_hrs (gm_add M 0 vg vt) 200) 8 (M 11 0) = 0 := gm_d8 (gm_hrs_wf wfA 200) hvT c_63
      refine gk_iconst (v := nI 0) G dX1_wouldBeInTime_83 (by decide) ?_
      exact RET _ _ _ _ _ _ ((F, B), (F51, B51)) dX1_wouldBeInTime_84 rfl ⟨(gm_b0 (P := gm_wbt M vg vt) (fun q => q.1 e8)).symm, hr⟩ rfl (Nat.le_of_ble_eq_true rfl) (Nat.le_of_ble_eq_true rfl)
    · replace c_63 := gm_b_ne.mp c_63
      have e8 : (gm_hrs (gm_add M 0 vg vt) 200) 8 (M 11 0) ≠ 0 := gm_hrs_rest wfA restA 200 (M 11 0) hvT c_63
      refine gk_aload_n G dX1_wouldBeInTime_66 1 rfl ?_
      refine gk_get (v' := .ref h2) G hinX1 (q0 := 0) rfl rfl 1 (by decide) k16 rfl rfl dX1_wouldBeInTime_67 ?_
      refine gk_getN (v' := .ref (q2 8)) G hinX0 (q0 := 11) rfl rfl 8 (by decide) kN114 rfl rfl dX1_wouldBeInTime_70 ?_
      refine gk_iload_n G dX1_wouldBeInTime_73 0 rfl ?_
      refine gk_iald (v := gm_e ((gm_hrs (gm_add M 0 vg vt) 200) 8 (M 11 0))) G (q0 := 20) (t0 := 0) rfl rfl (M 11 0) rfl h16 (by decide) (hr51.2.2.2.2.2.2.2.2 (M 11 0) hvT) dX1_wouldBeInTime_74 ?_
      refine gk_iload_n G dX1_wouldBeInTime_75 3 rfl ?_
      refine gk_icmp_gt (tgt := 83) G dX1_wouldBeInTime_76 (by decide) (fun c_76 => ?_) (fun c_76 => ?_)
      · rw [gm_e_pred e8] at c_76
        replace c_76 := (nI_ltI (by omega) (by omega)).mp c_76
        refine gk_iconst (v := nI 0) G dX1_wouldBeInTime_83 (by decide) ?_
        exact RET _ _ _ _ _ _ ((F, B), (F51, B51)) dX1_wouldBeInTime_84 rfl ⟨(gm_b0 (P := gm_wbt M vg vt) (fun q => absurd q.2 (Nat.not_le_of_lt c_76))).symm, hr⟩ rfl (Nat.le_of_ble_eq_true rfl) (Nat.le_of_ble_eq_true rfl)
      · rw [gm_e_pred e8] at c_76
        replace c_76 := (not_congr (nI_ltI (by omega) (by omega))).mp c_76
        refine gk_iconst (v := nI 1) G dX1_wouldBeInTime_79 (by decide) ?_
        refine gk_goto (tgt := 84) G dX1_wouldBeInTime_80 (by decide) ?_
        exact RET _ _ _ _ _ _ ((F, B), (F51, B51)) dX1_wouldBeInTime_84 rfl ⟨(gm_b1 (P := gm_wbt M vg vt) ⟨e8, Nat.le_of_not_lt c_76⟩).symm, hr⟩ rfl (Nat.le_of_ble_eq_true rfl) (Nat.le_of_ble_eq_true rfl)
  · replace c_17 := (not_congr (nI_ltI (a := M 11 0) (b := 16) (by omega) (by omega))).mp c_17
    exact absurd c_17 (by omega)
