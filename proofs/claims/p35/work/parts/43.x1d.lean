set_option maxRecDepth 100000 in
set_option maxHeartbeats 1000000 in
theorem c1_hour (l : Launch) (D : va_G) (cI cZ cJ : ClassId) (g h1 h2 : Nat) (q : Nat → Nat) (F : Nat → Int32) (B : Nat → Nat → Int32) (q2 : Nat → Nat) (F2 : Nat → Int32) (B2 : Nat → Nat → Int32) (M : gm_M)  (wf : gm_wf M) (hr : gc_rep F B M)  : gk_I l yX1_hour wsX1_hour ({ frames := 0, cells := 0, slots := 0, locals := 0 } : Room) D (g_T cI cZ cJ) gn_E [.ref g] (gw_G g h1 h2 ++ (gs_W cI cZ h1 q F B ++ (gs_W cI cZ h2 q2 F2 B2))) 0 0 (fun (r : Int32) (u : gw_U) => r = nI (M 9 0) ∧ gc_rep u.1.1 u.1.2 M) (fun u => (gw_X cI cZ g h1 h2 q q2 u)) := by
  refine gk_I_of (ty := .int) (cc := cX1_hour) (nL := 1) (by decide +kernel) rfl (Nat.le_of_ble_eq_true rfl) ?_
  intro p e s m below meth c A Q hnm hE G RET
  obtain ⟨hz1, hz2, hz3, hz4, hz5, hz6, hz7, hz8⟩ := id wf
  have hinX0 : ∀ w ∈ wsX00, w ∈ wsX1_hour := fun w h9 => (List.mem_cons_of_mem _ (List.mem_append_right _ h9))
  have hinX1 : ∀ w ∈ wsX10, w ∈ wsX1_hour := fun w h9 => (List.mem_cons_of_mem _ (List.mem_append_left _ (List.mem_append_right _ h9)))
  have k10 := G.2.2.2.2.1 (.fieldLink RX1 10 "GustMill" "now" "LGustMill$State;") (List.mem_cons_of_mem _ (List.mem_append_left _ (List.mem_append_left _ (List.mem_of_getElem? (i := 0) rfl))))
  have kN99 := gn_99 (args := ([.ref g] : List Value).toArray) hE
  refine gk_aload_n G dX1_hour_0 0 rfl ?_
  refine gk_get (v' := .ref h1) G hinX1 (q0 := 0) rfl rfl 0 (by decide) k10 rfl rfl dX1_hour_1 ?_
  refine gk_getN (v' := .int (nI (M 9 0))) G hinX0 (q0 := 1) rfl rfl 9 (by decide) kN99 rfl (congrArg Value.int (hr.1.1)) dX1_hour_4 ?_
  exact RET _ _ _ _ _ _ ((F, B), (F2, B2)) dX1_hour_7 rfl ⟨rfl, hr⟩ rfl (Nat.le_of_ble_eq_true rfl) (Nat.le_of_ble_eq_true rfl)
set_option maxRecDepth 100000 in
set_option maxHeartbeats 1000000 in
theorem c1_stones (l : Launch) (D : va_G) (cI cZ cJ : ClassId) (g h1 h2 : Nat) (q : Nat → Nat) (F : Nat → Int32) (B : Nat → Nat → Int32) (q2 : Nat → Nat) (F2 : Nat → Int32) (B2 : Nat → Nat → Int32) (M : gm_M)  (wf : gm_wf M) (hr : gc_rep F B M)  : gk_I l yX1_stones wsX1_stones ({ frames := 0, cells := 0, slots := 0, locals := 0 } : Room) D (g_T cI cZ cJ) gn_E [.ref g] (gw_G g h1 h2 ++ (gs_W cI cZ h1 q F B ++ (gs_W cI cZ h2 q2 F2 B2))) 0 0 (fun (r : Int32) (u : gw_U) => r = nI (M 10 0) ∧ gc_rep u.1.1 u.1.2 M) (fun u => (gw_X cI cZ g h1 h2 q q2 u)) := by
  refine gk_I_of (ty := .int) (cc := cX1_stones) (nL := 1) (by decide +kernel) rfl (Nat.le_of_ble_eq_true rfl) ?_
  intro p e s m below meth c A Q hnm hE G RET
  obtain ⟨hz1, hz2, hz3, hz4, hz5, hz6, hz7, hz8⟩ := id wf
  have hinX0 : ∀ w ∈ wsX00, w ∈ wsX1_stones := fun w h9 => (List.mem_cons_of_mem _ (List.mem_append_right _ h9))
  have hinX1 : ∀ w ∈ wsX10, w ∈ wsX1_stones := fun w h9 => (List.mem_cons_of_mem _ (List.mem_append_left _ (List.mem_append_right _ h9)))
  have k10 := G.2.2.2.2.1 (.fieldLink RX1 10 "GustMill" "now" "LGustMill$State;") (List.mem_cons_of_mem _ (List.mem_append_left _ (List.mem_append_left _ (List.mem_of_getElem? (i := 0) rfl))))
  have kN26 := gn_26 (args := ([.ref g] : List Value).toArray) hE
  refine gk_aload_n G dX1_stones_0 0 rfl ?_
  refine gk_get (v' := .ref h1) G hinX1 (q0 := 0) rfl rfl 0 (by decide) k10 rfl rfl dX1_stones_1 ?_
  refine gk_getN (v' := .int (nI (M 10 0))) G hinX0 (q0 := 1) rfl rfl 10 (by decide) kN26 rfl (congrArg Value.int (hr.1.2.1)) dX1_stones_4 ?_
  exact RET _ _ _ _ _ _ ((F, B), (F2, B2)) dX1_stones_7 rfl ⟨rfl, hr⟩ rfl (Nat.le_of_ble_eq_true rfl) (Nat.le_of_ble_eq_true rfl)
set_option maxRecDepth 100000 in
set_option maxHeartbeats 1000000 in
theorem c1_sacks (l : Launch) (D : va_G) (cI cZ cJ : ClassId) (g h1 h2 : Nat) (q : Nat → Nat) (F : Nat → Int32) (B : Nat → Nat → Int32) (q2 : Nat → Nat) (F2 : Nat → Int32) (B2 : Nat → Nat → Int32) (M : gm_M)  (wf : gm_wf M) (hr : gc_rep F B M)  : gk_I l yX1_sacks wsX1_sacks ({ frames := 0, cells := 0, slots := 0, locals := 0 } : Room) D (g_T cI cZ cJ) gn_E [.ref g] (gw_G g h1 h2 ++ (gs_W cI cZ h1 q F B ++ (gs_W cI cZ h2 q2 F2 B2))) 0 0 (fun (r : Int32) (u : gw_U) => r = nI (M 11 0) ∧ gc_rep u.1.1 u.1.2 M) (fun u => (gw_X cI cZ g h1 h2 q q2 u)) := by
  refine gk_I_of (ty := .int) (cc := cX1_sacks) (nL := 1) (by decide +kernel) rfl (Nat.le_of_ble_eq_true rfl) ?_
  intro p e s m below meth c A Q hnm hE G RET
  obtain ⟨hz1, hz2, hz3, hz4, hz5, hz6, hz7, hz8⟩ := id wf
  have hinX0 : ∀ w ∈ wsX00, w ∈ wsX1_sacks := fun w h9 => (List.mem_cons_of_mem _ (List.mem_append_right _ h9))
  have hinX1 : ∀ w ∈ wsX10, w ∈ wsX1_sacks := fun w h9 => (List.mem_cons_of_mem _ (List.mem_append_left _ (List.mem_append_right _ h9)))
  have k10 := G.2.2.2.2.1 (.fieldLink RX1 10 "GustMill" "now" "LGustMill$State;") (List.mem_cons_of_mem _ (List.mem_append_left _ (List.mem_append_left _ (List.mem_of_getElem? (i := 0) rfl))))
  have kN70 := gn_70 (args := ([.ref g] : List Value).toArray) hE
  refine gk_aload_n G dX1_sacks_0 0 rfl ?_
  refine gk_get (v' := .ref h1) G hinX1 (q0 := 0) rfl rfl 0 (by decide) k10 rfl rfl dX1_sacks_1 ?_
  refine gk_getN (v' := .int (nI (M 11 0))) G hinX0 (q0 := 1) rfl rfl 11 (by decide) kN70 rfl (congrArg Value.int (hr.1.2.2.1)) dX1_sacks_4 ?_
  exact RET _ _ _ _ _ _ ((F, B), (F2, B2)) dX1_sacks_7 rfl ⟨rfl, hr⟩ rfl (Nat.le_of_ble_eq_true rfl) (Nat.le_of_ble_eq_true rfl)
set_option maxRecDepth 100000 in
set_option maxHeartbeats 1000000 in
theorem c1_rule (l : Launch) (D : va_G) (cI cZ cJ : ClassId) (g h1 h2 : Nat) (q : Nat → Nat) (F : Nat → Int32) (B : Nat → Nat → Int32) (q2 : Nat → Nat) (F2 : Nat → Int32) (B2 : Nat → Nat → Int32) (M : gm_M)  (wf : gm_wf M) (hr : gc_rep F B M)  : gk_I l yX1_rule wsX1_rule ({ frames := 0, cells := 0, slots := 0, locals := 0 } : Room) D (g_T cI cZ cJ) gn_E [.ref g] (gw_G g h1 h2 ++ (gs_W cI cZ h1 q F B ++ (gs_W cI cZ h2 q2 F2 B2))) 0 0 (fun (r : Int32) (u : gw_U) => r = nI (M 14 0) ∧ gc_rep u.1.1 u.1.2 M) (fun u => (gw_X cI cZ g h1 h2 q q2 u)) := by
  refine gk_I_of (ty := .int) (cc := cX1_rule) (nL := 1) (by decide +kernel) rfl (Nat.le_of_ble_eq_true rfl) ?_
  intro p e s m below meth c A Q hnm hE G RET
  obtain ⟨hz1, hz2, hz3, hz4, hz5, hz6, hz7, hz8⟩ := id wf
  have hinX0 : ∀ w ∈ wsX00, w ∈ wsX1_rule := fun w h9 => (List.mem_cons_of_mem _ (List.mem_append_right _ h9))
  have hinX1 : ∀ w ∈ wsX10, w ∈ wsX1_rule := fun w h9 => (List.mem_cons_of_mem _ (List.mem_append_left _ (List.mem_append_right _ h9)))
  have k10 := G.2.2.2.2.1 (.fieldLink RX1 10 "GustMill" "now" "LGustMill$State;") (List.mem_cons_of_mem _ (List.mem_append_left _ (List.mem_append_left _ (List.mem_of_getElem? (i := 0) rfl))))
  have kN54 := gn_54 (args := ([.ref g] : List Value).toArray) hE
  refine gk_aload_n G dX1_rule_0 0 rfl ?_
  refine gk_get (v' := .ref h1) G hinX1 (q0 := 0) rfl rfl 0 (by decide) k10 rfl rfl dX1_rule_1 ?_
  refine gk_getN (v' := .int (nI (M 14 0))) G hinX0 (q0 := 1) rfl rfl 14 (by decide) kN54 rfl (congrArg Value.int (hr.1.2.2.2.2.2.1)) dX1_rule_4 ?_
  exact RET _ _ _ _ _ _ ((F, B), (F2, B2)) dX1_rule_7 rfl ⟨rfl, hr⟩ rfl (Nat.le_of_ble_eq_true rfl) (Nat.le_of_ble_eq_true rfl)
set_option maxRecDepth 100000 in
set_option maxHeartbeats 1000000 in
theorem c1_changes (l : Launch) (D : va_G) (cI cZ cJ : ClassId) (g h1 h2 : Nat) (q : Nat → Nat) (F : Nat → Int32) (B : Nat → Nat → Int32) (q2 : Nat → Nat) (F2 : Nat → Int32) (B2 : Nat → Nat → Int32) (M : gm_M)  (wf : gm_wf M) (hr : gc_rep F B M)  : gk_I l yX1_changes wsX1_changes ({ frames := 0, cells := 0, slots := 0, locals := 0 } : Room) D (g_T cI cZ cJ) gn_E [.ref g] (gw_G g h1 h2 ++ (gs_W cI cZ h1 q F B ++ (gs_W cI cZ h2 q2 F2 B2))) 0 0 (fun (r : Int32) (u : gw_U) => r = nI (M 13 0) ∧ gc_rep u.1.1 u.1.2 M) (fun u => (gw_X cI cZ g h1 h2 q q2 u)) := by
  refine gk_I_of (ty := .int) (cc := cX1_changes) (nL := 1) (by decide +kernel) rfl (Nat.le_of_ble_eq_true rfl) ?_
  intro p e s m below meth c A Q hnm hE G RET
  obtain ⟨hz1, hz2, hz3, hz4, hz5, hz6, hz7, hz8⟩ := id wf
  have hinX0 : ∀ w ∈ wsX00, w ∈ wsX1_changes := fun w h9 => (List.mem_cons_of_mem _ (List.mem_append_right _ h9))
  have hinX1 : ∀ w ∈ wsX10, w ∈ wsX1_changes := fun w h9 => (List.mem_cons_of_mem _ (List.mem_append_left _ (List.mem_append_right _ h9)))
  have k10 := G.2.2.2.2.1 (.fieldLink RX1 10 "GustMill" "now" "LGustMill$State;") (List.mem_cons_of_mem _ (List.mem_append_left _ (List.mem_append_left _ (List.mem_of_getElem? (i := 0) rfl))))
  have kN120 := gn_120 (args := ([.ref g] : List Value).toArray) hE
  refine gk_aload_n G dX1_changes_0 0 rfl ?_
  refine gk_get (v' := .ref h1) G hinX1 (q0 := 0) rfl rfl 0 (by decide) k10 rfl rfl dX1_changes_1 ?_
  refine gk_getN (v' := .int (nI (M 13 0))) G hinX0 (q0 := 1) rfl rfl 13 (by decide) kN120 rfl (congrArg Value.int (hr.1.2.2.2.2.1)) dX1_changes_4 ?_
  exact RET _ _ _ _ _ _ ((F, B), (F2, B2)) dX1_changes_7 rfl ⟨rfl, hr⟩ rfl (Nat.le_of_ble_eq_true rfl) (Nat.le_of_ble_eq_true rfl)
set_option maxRecDepth 100000 in
set_option maxHeartbeats 1000000 in
theorem c1_ground (l : Launch) (D : va_G) (cI cZ cJ : ClassId) (g h1 h2 : Nat) (q : Nat → Nat) (F : Nat → Int32) (B : Nat → Nat → Int32) (q2 : Nat → Nat) (F2 : Nat → Int32) (B2 : Nat → Nat → Int32) (M : gm_M)  (wf : gm_wf M) (hr : gc_rep F B M)  : gk_I l yX1_ground wsX1_ground ({ frames := 0, cells := 0, slots := 0, locals := 0 } : Room) D (g_T cI cZ cJ) gn_E [.ref g] (gw_G g h1 h2 ++ (gs_W cI cZ h1 q F B ++ (gs_W cI cZ h2 q2 F2 B2))) 0 0 (fun (r : Int32) (u : gw_U) => r = nI (gm_gct M (M 11 0)) ∧ gc_rep u.1.1 u.1.2 M) (fun u => (gw_X cI cZ g h1 h2 q q2 u)) := by
  refine gk_I_of (ty := .int) (cc := cX1_ground) (nL := 1) (by decide +kernel) rfl (Nat.le_of_ble_eq_true rfl) ?_
  intro p e s m below meth c A Q hnm hE G RET
  obtain ⟨hz1, hz2, hz3, hz4, hz5, hz6, hz7, hz8⟩ := id wf
  have hinX0 : ∀ w ∈ wsX00, w ∈ wsX1_ground := fun w h9 => (List.mem_cons_of_mem _ (List.mem_append_right _ h9))
  have hinX1 : ∀ w ∈ wsX10, w ∈ wsX1_ground := fun w h9 => (List.mem_cons_of_mem _ (List.mem_append_left _ (List.mem_append_right _ h9)))
  have k10 := G.2.2.2.2.1 (.fieldLink RX1 10 "GustMill" "now" "LGustMill$State;") (List.mem_cons_of_mem _ (List.mem_append_left _ (List.mem_append_left _ (List.mem_of_getElem? (i := 0) rfl))))
  have kN117 := gn_117 (args := ([.ref g] : List Value).toArray) hE
  refine gk_aload_n G dX1_ground_0 0 rfl ?_
  refine gk_get (v' := .ref h1) G hinX1 (q0 := 0) rfl rfl 0 (by decide) k10 rfl rfl dX1_ground_1 ?_
  refine gk_getN (v' := .int (nI (gm_gct M (M 11 0)))) G hinX0 (q0 := 1) rfl rfl 12 (by decide) kN117 rfl (congrArg Value.int (hr.1.2.2.2.1)) dX1_ground_4 ?_
  exact RET _ _ _ _ _ _ ((F, B), (F2, B2)) dX1_ground_7 rfl ⟨rfl, hr⟩ rfl (Nat.le_of_ble_eq_true rfl) (Nat.le_of_ble_eq_true rfl)
set_option maxRecDepth 100000 in
set_option maxHeartbeats 1000000 in
theorem c1_wind (l : Launch) (D : va_G) (cI cZ cJ : ClassId) (g h1 h2 : Nat) (q : Nat → Nat) (F : Nat → Int32) (B : Nat → Nat → Int32) (q2 : Nat → Nat) (F2 : Nat → Int32) (B2 : Nat → Nat → Int32) (M : gm_M)  (wf : gm_wf M) (hr : gc_rep F B M) (hh : M 9 0 < 2000000) : gk_I l yX1_wind wsX1_wind ({ frames := 2, cells := 0, slots := 0, locals := 42 } : Room) D (g_T cI cZ cJ) gn_E [.ref g] (gw_G g h1 h2 ++ (gs_W cI cZ h1 q F B ++ (gs_W cI cZ h2 q2 F2 B2))) 0 0 (fun (r : Int32) (u : gw_U) => r = nI (gm_wnd M) ∧ gc_rep u.1.1 u.1.2 M) (fun u => (gw_X cI cZ g h1 h2 q q2 u)) := by
  refine gk_I_of (ty := .int) (cc := cX1_wind) (nL := 1) (by decide +kernel) rfl (Nat.le_of_ble_eq_true rfl) ?_
  intro p e s m below meth c A Q hnm hE G RET
  obtain ⟨hz1, hz2, hz3, hz4, hz5, hz6, hz7, hz8⟩ := id wf
  have hinX1 : ∀ w ∈ wsX10, w ∈ wsX1_wind := fun w h9 => (List.mem_cons_of_mem _ (List.mem_append_left _ (List.mem_append_right _ h9)))
  have k10 := G.2.2.2.2.1 (.fieldLink RX1 10 "GustMill" "now" "LGustMill$State;") (List.mem_cons_of_mem _ (List.mem_append_left _ (List.mem_append_left _ (List.mem_of_getElem? (i := 0) rfl))))
  refine gk_aload_n G dX1_wind_0 0 rfl ?_
  refine gk_get (v' := .ref h1) G hinX1 (q0 := 0) rfl rfl 0 (by decide) k10 rfl rfl dX1_wind_1 ?_
  refine gk_callIV (wr := (gw_G g h1 h2 ++ (gs_W cI cZ h2 q2 F2 B2))) G (c0_windOfHour l D cI cZ cJ h1 q F B M wf hr hh) gX1_wind_X0_windOfHour rfl 0 (by decide +kernel) rfl rfl ⟨(Nat.le_of_ble_eq_true rfl), (Nat.le_of_ble_eq_true rfl)⟩ rfl (q0 := 0) rfl (T := TX0) (N := 16) rfl gk_ok0 trivial [1, 2, 3, 4, 5, 6, 7, 8, 9, 10] rfl (by decide) [0, 11, 12, 13, 14, 15, 16, 17, 18, 19, 20] rfl (by decide) (by decide) rfl (Nat.le_of_ble_eq_true rfl) dX1_wind_4 ⟨(Nat.le_of_ble_eq_true rfl), (Nat.le_of_ble_eq_true rfl)⟩ (fun r4 u4 hp4 => ?_)
  obtain rfl : r4 = nI (gm_wnd M) := hp4
  refine gk_wsub (w' := (gw_G g h1 h2 ++ (gs_W cI cZ h1 q F B ++ (gs_W cI cZ h2 q2 F2 B2)))) [0, 11, 12, 13, 14, 15, 16, 17, 18, 19, 20, 1, 2, 3, 4, 5, 6, 7, 8, 9, 10] rfl (by decide) ?_
  show gk_C p l e ({ frames := 2, cells := 0, slots := 0, locals := 42 } : Room) s m ([.ref g] : List Value).toArray below meth c 1 D A Q 0 0 (gw_G g h1 h2 ++ (gs_W cI cZ h1 q F B ++ (gs_W cI cZ h2 q2 F2 B2))) [(0, .ref g)] 7 [.int (nI (gm_wnd M))]
  exact RET _ _ _ _ _ _ ((F, B), (F2, B2)) dX1_wind_7 rfl ⟨rfl, hr⟩ rfl (Nat.le_of_ble_eq_true rfl) (Nat.le_of_ble_eq_true rfl)
set_option maxRecDepth 100000 in
set_option maxHeartbeats 1000000 in
theorem c1_sackOn_ok (l : Launch) (D : va_G) (cI cZ cJ : ClassId) (g h1 h2 : Nat) (q : Nat → Nat) (F : Nat → Int32) (B : Nat → Nat → Int32) (q2 : Nat → Nat) (F2 : Nat → Int32) (B2 : Nat → Nat → Int32) (M : gm_M) (v : Nat) (wf : gm_wf M) (hr : gc_rep F B M) (hv : v < M 10 0) : gk_I l yX1_sackOn wsX1_sackOn ({ frames := 0, cells := 0, slots := 0, locals := 0 } : Room) D (g_T cI cZ cJ) gn_E [.ref g, .int (nI v)] (gw_G g h1 h2 ++ (gs_W cI cZ h1 q F B ++ (gs_W cI cZ h2 q2 F2 B2))) 0 0 (fun (r : Int32) (u : gw_U) => r = gm_e (gm_who M v (M 11 0)) ∧ gc_rep u.1.1 u.1.2 M) (fun u => (gw_X cI cZ g h1 h2 q q2 u)) := by
  refine gk_I_of (ty := .int) (cc := cX1_sackOn) (nL := 2) (by decide +kernel) rfl (Nat.le_of_ble_eq_true rfl) ?_
  intro p e s m below meth c A Q hnm hE G RET
  obtain ⟨hz1, hz2, hz3, hz4, hz5, hz6, hz7, hz8⟩ := id wf
  have hinX0 : ∀ w ∈ wsX00, w ∈ wsX1_sackOn := fun w h9 => (List.mem_cons_of_mem _ (List.mem_append_left _ (List.mem_append_right _ h9)))
  have hinX1 : ∀ w ∈ wsX10, w ∈ wsX1_sackOn := fun w h9 => (List.mem_cons_of_mem _ (List.mem_append_left _ (List.mem_append_left _ (List.mem_append_right _ h9))))
  have k10 := G.2.2.2.2.1 (.fieldLink RX1 10 "GustMill" "now" "LGustMill$State;") (List.mem_cons_of_mem _ (List.mem_append_left _ (List.mem_append_left _ (List.mem_append_left _ (List.mem_of_getElem? (i := 2) rfl)))))
  have kN26 := gn_26 (args := ([.ref g, .int (nI v)] : List Value).toArray) hE
  have kN108 := gn_108 (args := ([.ref g, .int (nI v)] : List Value).toArray) hE
  refine gk_iload_n G dX1_sackOn_0 1 rfl ?_
  refine gk_if_lt (tgt := 15) G dX1_sackOn_1 (by decide) (fun c_1 => ?_) (fun c_1 => ?_)
  · replace c_1 := (nI_ltI (a := v) (b := 0) (by omega) (by omega)).mp c_1
    exact absurd c_1 (by omega)
  · replace c_1 := (not_congr (nI_ltI (a := v) (b := 0) (by omega) (by omega))).mp c_1
    refine gk_iload_n G dX1_sackOn_4 1 rfl ?_
    refine gk_aload_n G dX1_sackOn_5 0 rfl ?_
    refine gk_get (v' := .ref h1) G hinX1 (q0 := 0) rfl rfl 0 (by decide) k10 rfl rfl dX1_sackOn_6 ?_
    refine gk_getN (v' := .int (nI (M 10 0))) G hinX0 (q0 := 1) rfl rfl 10 (by decide) kN26 rfl (congrArg Value.int (hr.1.2.1)) dX1_sackOn_9 ?_
    refine gk_icmp_lt (tgt := 25) G dX1_sackOn_12 (by decide) (fun c_12 => ?_) (fun c_12 => ?_)
    · replace c_12 := (nI_ltI (a := v) (b := M 10 0) (by omega) (by omega)).mp c_12
      refine gk_aload_n G dX1_sackOn_25 0 rfl ?_
      refine gk_get (v' := .ref h1) G hinX1 (q0 := 0) rfl rfl 0 (by decide) k10 rfl rfl dX1_sackOn_26 ?_
      refine gk_getN (v' := .ref (q 2)) G hinX0 (q0 := 1) rfl rfl 2 (by decide) kN108 rfl rfl dX1_sackOn_29 ?_
      refine gk_iload_n G dX1_sackOn_32 1 rfl ?_
      refine gk_iald (v := gm_e (gm_who M v (M 11 0))) G (q0 := 4) (t0 := 0) rfl rfl v rfl (by omega) (by decide) (hr.2.2.2.1 v (by omega)) dX1_sackOn_33 ?_
      exact RET _ _ _ _ _ _ ((F, B), (F2, B2)) dX1_sackOn_34 rfl ⟨rfl, hr⟩ rfl (Nat.le_of_ble_eq_true rfl) (Nat.le_of_ble_eq_true rfl)
    · replace c_12 := (not_congr (nI_ltI (a := v) (b := M 10 0) (by omega) (by omega))).mp c_12
      exact absurd c_12 (by omega)
set_option maxRecDepth 100000 in
set_option maxHeartbeats 1000000 in
theorem c1_stoneOf_ok (l : Launch) (D : va_G) (cI cZ cJ : ClassId) (g h1 h2 : Nat) (q : Nat → Nat) (F : Nat → Int32) (B : Nat → Nat → Int32) (q2 : Nat → Nat) (F2 : Nat → Int32) (B2 : Nat → Nat → Int32) (M : gm_M) (v : Nat) (wf : gm_wf M) (hr : gc_rep F B M) (hv : v < M 11 0) : gk_I l yX1_stoneOf wsX1_stoneOf ({ frames := 1, cells := 0, slots := 0, locals := 21 } : Room) D (g_T cI cZ cJ) gn_E [.ref g, .int (nI v)] (gw_G g h1 h2 ++ (gs_W cI cZ h1 q F B ++ (gs_W cI cZ h2 q2 F2 B2))) 0 0 (fun (r : Int32) (u : gw_U) => r = gm_e (M 7 v) ∧ gc_rep u.1.1 u.1.2 M) (fun u => (gw_X cI cZ g h1 h2 q q2 u)) := by
  refine gk_I_of (ty := .int) (cc := cX1_stoneOf) (nL := 2) (by decide +kernel) rfl (Nat.le_of_ble_eq_true rfl) ?_
  intro p e s m below meth c A Q hnm hE G RET
  obtain ⟨hz1, hz2, hz3, hz4, hz5, hz6, hz7, hz8⟩ := id wf
  have hinX0 : ∀ w ∈ wsX00, w ∈ wsX1_stoneOf := fun w h9 => (List.mem_cons_of_mem _ (List.mem_append_left _ (List.mem_append_right _ h9)))
  have hinX1 : ∀ w ∈ wsX10, w ∈ wsX1_stoneOf := fun w h9 => (List.mem_cons_of_mem _ (List.mem_append_left _ (List.mem_append_left _ (List.mem_append_right _ h9))))
  have k10 := G.2.2.2.2.1 (.fieldLink RX1 10 "GustMill" "now" "LGustMill$State;") (List.mem_cons_of_mem _ (List.mem_append_left _ (List.mem_append_left _ (List.mem_append_left _ (List.mem_of_getElem? (i := 0) rfl)))))
  have kN82 := gn_82 (args := ([.ref g, .int (nI v)] : List Value).toArray) hE
  refine gk_aload_n G dX1_stoneOf_0 0 rfl ?_
  refine gk_iload_n G dX1_stoneOf_1 1 rfl ?_
  refine gk_callVV (wr := []) G (c1_requireSack_ok l D cI cZ cJ g h1 h2 q F B q2 F2 B2 M v wf hr (by omega)) gX1_stoneOf_X1_requireSack rfl 1 (by decide +kernel) rfl rfl ⟨(Nat.le_of_ble_eq_true rfl), (Nat.le_of_ble_eq_true rfl)⟩ rfl (q0 := 0) rfl (T := TX1) (N := 2) rfl gn_ok hE [0, 1, 2, 3, 4, 5, 6, 7, 8, 9, 10, 11, 12, 13, 14, 15, 16, 17, 18, 19, 20] rfl (by decide) [] rfl (by decide) (by decide) rfl (Nat.le_of_ble_eq_true rfl) dX1_stoneOf_2 ⟨(Nat.le_of_ble_eq_true rfl), (Nat.le_of_ble_eq_true rfl)⟩ (fun u2 hp2 => ?_)
  show gk_C p l e ({ frames := 1, cells := 0, slots := 0, locals := 21 } : Room) s m ([.ref g, .int (nI v)] : List Value).toArray below meth c 2 D A Q 0 0 (gw_G g h1 h2 ++ (gs_W cI cZ h1 q F B ++ (gs_W cI cZ h2 q2 F2 B2))) [(0, .ref g), (1, .int (nI v))] 5 []
  refine gk_aload_n G dX1_stoneOf_5 0 rfl ?_
  refine gk_get (v' := .ref h1) G hinX1 (q0 := 0) rfl rfl 0 (by decide) k10 rfl rfl dX1_stoneOf_6 ?_
  refine gk_getN (v' := .ref (q 7)) G hinX0 (q0 := 1) rfl rfl 7 (by decide) kN82 rfl rfl dX1_stoneOf_9 ?_
  refine gk_iload_n G dX1_stoneOf_12 1 rfl ?_
  refine gk_iald (v := gm_e (M 7 v)) G (q0 := 9) (t0 := 0) rfl rfl v rfl (by omega) (by decide) (hr.2.2.2.2.2.2.2.1 v (by omega)) dX1_stoneOf_13 ?_
  exact RET _ _ _ _ _ _ ((F, B), (F2, B2)) dX1_stoneOf_14 rfl ⟨rfl, hr⟩ rfl (Nat.le_of_ble_eq_true rfl) (Nat.le_of_ble_eq_true rfl)
set_option maxRecDepth 100000 in
set_option maxHeartbeats 1000000 in
theorem c1_leftOf_ok (l : Launch) (D : va_G) (cI cZ cJ : ClassId) (g h1 h2 : Nat) (q : Nat → Nat) (F : Nat → Int32) (B : Nat → Nat → Int32) (q2 : Nat → Nat) (F2 : Nat → Int32) (B2 : Nat → Nat → Int32) (M : gm_M) (v : Nat) (wf : gm_wf M) (hr : gc_rep F B M) (hv : v < M 11 0) : gk_I l yX1_leftOf wsX1_leftOf ({ frames := 1, cells := 0, slots := 0, locals := 21 } : Room) D (g_T cI cZ cJ) gn_E [.ref g, .int (nI v)] (gw_G g h1 h2 ++ (gs_W cI cZ h1 q F B ++ (gs_W cI cZ h2 q2 F2 B2))) 0 0 (fun (r : Int32) (u : gw_U) => r = nI (M 5 v) ∧ gc_rep u.1.1 u.1.2 M) (fun u => (gw_X cI cZ g h1 h2 q q2 u)) := by
  refine gk_I_of (ty := .int) (cc := cX1_leftOf) (nL := 2) (by decide +kernel) rfl (Nat.le_of_ble_eq_true rfl) ?_
  intro p e s m below meth c A Q hnm hE G RET
  obtain ⟨hz1, hz2, hz3, hz4, hz5, hz6, hz7, hz8⟩ := id wf
  have hinX0 : ∀ w ∈ wsX00, w ∈ wsX1_leftOf := fun w h9 => (List.mem_cons_of_mem _ (List.mem_append_left _ (List.mem_append_right _ h9)))
  have hinX1 : ∀ w ∈ wsX10, w ∈ wsX1_leftOf := fun w h9 => (List.mem_cons_of_mem _ (List.mem_append_left _ (List.mem_append_left _ (List.mem_append_right _ h9))))
  have k10 := G.2.2.2.2.1 (.fieldLink RX1 10 "GustMill" "now" "LGustMill$State;") (List.mem_cons_of_mem _ (List.mem_append_left _ (List.mem_append_left _ (List.mem_append_left _ (List.mem_of_getElem? (i := 0) rfl)))))
  have kN111 := gn_111 (args := ([.ref g, .int (nI v)] : List Value).toArray) hE
  refine gk_aload_n G dX1_leftOf_0 0 rfl ?_
  refine gk_iload_n G dX1_leftOf_1 1 rfl ?_
  refine gk_callVV (wr := []) G (c1_requireSack_ok l D cI cZ cJ g h1 h2 q F B q2 F2 B2 M v wf hr (by omega)) gX1_leftOf_X1_requireSack rfl 1 (by decide +kernel) rfl rfl ⟨(Nat.le_of_ble_eq_true rfl), (Nat.le_of_ble_eq_true rfl)⟩ rfl (q0 := 0) rfl (T := TX1) (N := 2) rfl gn_ok hE [0, 1, 2, 3, 4, 5, 6, 7, 8, 9, 10, 11, 12, 13, 14, 15, 16, 17, 18, 19, 20] rfl (by decide) [] rfl (by decide) (by decide) rfl (Nat.le_of_ble_eq_true rfl) dX1_leftOf_2 ⟨(Nat.le_of_ble_eq_true rfl), (Nat.le_of_ble_eq_true rfl)⟩ (fun u2 hp2 => ?_)
  show gk_C p l e ({ frames := 1, cells := 0, slots := 0, locals := 21 } : Room) s m ([.ref g, .int (nI v)] : List Value).toArray below meth c 2 D A Q 0 0 (gw_G g h1 h2 ++ (gs_W cI cZ h1 q F B ++ (gs_W cI cZ h2 q2 F2 B2))) [(0, .ref g), (1, .int (nI v))] 5 []
  refine gk_aload_n G dX1_leftOf_5 0 rfl ?_
  refine gk_get (v' := .ref h1) G hinX1 (q0 := 0) rfl rfl 0 (by decide) k10 rfl rfl dX1_leftOf_6 ?_
  refine gk_getN (v' := .ref (q 5)) G hinX0 (q0 := 1) rfl rfl 5 (by decide) kN111 rfl rfl dX1_leftOf_9 ?_
  refine gk_iload_n G dX1_leftOf_12 1 rfl ?_
  refine gk_iald (v := nI (M 5 v)) G (q0 := 7) (t0 := 0) rfl rfl v rfl (by omega) (by decide) (hr.2.2.2.2.2.1 v (by omega)) dX1_leftOf_13 ?_
  exact RET _ _ _ _ _ _ ((F, B), (F2, B2)) dX1_leftOf_14 rfl ⟨rfl, hr⟩ rfl (Nat.le_of_ble_eq_true rfl) (Nat.le_of_ble_eq_true rfl)
set_option maxRecDepth 100000 in
set_option maxHeartbeats 1000000 in
theorem c1_untilOf_ok (l : Launch) (D : va_G) (cI cZ cJ : ClassId) (g h1 h2 : Nat) (q : Nat → Nat) (F : Nat → Int32) (B : Nat → Nat → Int32) (q2 : Nat → Nat) (F2 : Nat → Int32) (B2 : Nat → Nat → Int32) (M : gm_M) (v : Nat) (wf : gm_wf M) (hr : gc_rep F B M) (hv : v < M 11 0) : gk_I l yX1_untilOf wsX1_untilOf ({ frames := 1, cells := 0, slots := 0, locals := 21 } : Room) D (g_T cI cZ cJ) gn_E [.ref g, .int (nI v)] (gw_G g h1 h2 ++ (gs_W cI cZ h1 q F B ++ (gs_W cI cZ h2 q2 F2 B2))) 0 0 (fun (r : Int32) (u : gw_U) => r = nI (M 6 v) ∧ gc_rep u.1.1 u.1.2 M) (fun u => (gw_X cI cZ g h1 h2 q q2 u)) := by
  refine gk_I_of (ty := .int) (cc := cX1_untilOf) (nL := 2) (by decide +kernel) rfl (Nat.le_of_ble_eq_true rfl) ?_
  intro p e s m below meth c A Q hnm hE G RET
  obtain ⟨hz1, hz2, hz3, hz4, hz5, hz6, hz7, hz8⟩ := id wf
  have hinX0 : ∀ w ∈ wsX00, w ∈ wsX1_untilOf := fun w h9 => (List.mem_cons_of_mem _ (List.mem_append_left _ (List.mem_append_right _ h9)))
  have hinX1 : ∀ w ∈ wsX10, w ∈ wsX1_untilOf := fun w h9 => (List.mem_cons_of_mem _ (List.mem_append_left _ (List.mem_append_left _ (List.mem_append_right _ h9))))
  have k10 := G.2.2.2.2.1 (.fieldLink RX1 10 "GustMill" "now" "LGustMill$State;") (List.mem_cons_of_mem _ (List.mem_append_left _ (List.mem_append_left _ (List.mem_append_left _ (List.mem_of_getElem? (i := 0) rfl)))))
  have kN90 := gn_90 (args := ([.ref g, .int (nI v)] : List Value).toArray) hE
  refine gk_aload_n G dX1_untilOf_0 0 rfl ?_
  refine gk_iload_n G dX1_untilOf_1 1 rfl ?_
  refine gk_callVV (wr := []) G (c1_requireSack_ok l D cI cZ cJ g h1 h2 q F B q2 F2 B2 M v wf hr (by omega)) gX1_untilOf_X1_requireSack rfl 1 (by decide +kernel) rfl rfl ⟨(Nat.le_of_ble_eq_true rfl), (Nat.le_of_ble_eq_true rfl)⟩ rfl (q0 := 0) rfl (T := TX1) (N := 2) rfl gn_ok hE [0, 1, 2, 3, 4, 5, 6, 7, 8, 9, 10, 11, 12, 13, 14, 15, 16, 17, 18, 19, 20] rfl (by decide) [] rfl (by decide) (by decide) rfl (Nat.le_of_ble_eq_true rfl) dX1_untilOf_2 ⟨(Nat.le_of_ble_eq_true rfl), (Nat.le_of_ble_eq_true rfl)⟩ (fun u2 hp2 => ?_)
  show gk_C p l e ({ frames := 1, cells := 0, slots := 0, locals := 21 } : Room) s m ([.ref g, .int (nI v)] : List Value).toArray below meth c 2 D A Q 0 0 (gw_G g h1 h2 ++ (gs_W cI cZ h1 q F B ++ (gs_W cI cZ h2 q2 F2 B2))) [(0, .ref g), (1, .int (nI v))] 5 []
  refine gk_aload_n G dX1_untilOf_5 0 rfl ?_
  refine gk_get (v' := .ref h1) G hinX1 (q0 := 0) rfl rfl 0 (by decide) k10 rfl rfl dX1_untilOf_6 ?_
  refine gk_getN (v' := .ref (q 6)) G hinX0 (q0 := 1) rfl rfl 6 (by decide) kN90 rfl rfl dX1_untilOf_9 ?_
  refine gk_iload_n G dX1_untilOf_12 1 rfl ?_
  refine gk_iald (v := nI (M 6 v)) G (q0 := 8) (t0 := 0) rfl rfl v rfl (by omega) (by decide) (hr.2.2.2.2.2.2.1 v (by omega)) dX1_untilOf_13 ?_
  exact RET _ _ _ _ _ _ ((F, B), (F2, B2)) dX1_untilOf_14 rfl ⟨rfl, hr⟩ rfl (Nat.le_of_ble_eq_true rfl) (Nat.le_of_ble_eq_true rfl)
set_option maxRecDepth 100000 in
set_option maxHeartbeats 1000000 in
theorem c1_groundAt_ok (l : Launch) (D : va_G) (cI cZ cJ : ClassId) (g h1 h2 : Nat) (q : Nat → Nat) (F : Nat → Int32) (B : Nat → Nat → Int32) (q2 : Nat → Nat) (F2 : Nat → Int32) (B2 : Nat → Nat → Int32) (M : gm_M) (v : Nat) (wf : gm_wf M) (hr : gc_rep F B M) (hv : v < M 11 0) : gk_I l yX1_groundAt wsX1_groundAt ({ frames := 1, cells := 0, slots := 0, locals := 21 } : Room) D (g_T cI cZ cJ) gn_E [.ref g, .int (nI v)] (gw_G g h1 h2 ++ (gs_W cI cZ h1 q F B ++ (gs_W cI cZ h2 q2 F2 B2))) 0 0 (fun (r : Int32) (u : gw_U) => r = gm_e (M 8 v) ∧ gc_rep u.1.1 u.1.2 M) (fun u => (gw_X cI cZ g h1 h2 q q2 u)) := by
  refine gk_I_of (ty := .int) (cc := cX1_groundAt) (nL := 2) (by decide +kernel) rfl (Nat.le_of_ble_eq_true rfl) ?_
  intro p e s m below meth c A Q hnm hE G RET
  obtain ⟨hz1, hz2, hz3, hz4, hz5, hz6, hz7, hz8⟩ := id wf
  have hinX0 : ∀ w ∈ wsX00, w ∈ wsX1_groundAt := fun w h9 => (List.mem_cons_of_mem _ (List.mem_append_left _ (List.mem_append_right _ h9)))
  have hinX1 : ∀ w ∈ wsX10, w ∈ wsX1_groundAt := fun w h9 => (List.mem_cons_of_mem _ (List.mem_append_left _ (List.mem_append_left _ (List.mem_append_right _ h9))))
  have k10 := G.2.2.2.2.1 (.fieldLink RX1 10 "GustMill" "now" "LGustMill$State;") (List.mem_cons_of_mem _ (List.mem_append_left _ (List.mem_append_left _ (List.mem_append_left _ (List.mem_of_getElem? (i := 0) rfl)))))
  have kN114 := gn_114 (args := ([.ref g, .int (nI v)] : List Value).toArray) hE
  refine gk_aload_n G dX1_groundAt_0 0 rfl ?_
  refine gk_iload_n G dX1_groundAt_1 1 rfl ?_
  refine gk_callVV (wr := []) G (c1_requireSack_ok l D cI cZ cJ g h1 h2 q F B q2 F2 B2 M v wf hr (by omega)) gX1_groundAt_X1_requireSack rfl 1 (by decide +kernel) rfl rfl ⟨(Nat.le_of_ble_eq_true rfl), (Nat.le_of_ble_eq_true rfl)⟩ rfl (q0 := 0) rfl (T := TX1) (N := 2) rfl gn_ok hE [0, 1, 2, 3, 4, 5, 6, 7, 8, 9, 10, 11, 12, 13, 14, 15, 16, 17, 18, 19, 20] rfl (by decide) [] rfl (by decide) (by decide) rfl (Nat.le_of_ble_eq_true rfl) dX1_groundAt_2 ⟨(Nat.le_of_ble_eq_true rfl), (Nat.le_of_ble_eq_true rfl)⟩ (fun u2 hp2 => ?_)
  show gk_C p l e ({ frames := 1, cells := 0, slots := 0, locals := 21 } : Room) s m ([.ref g, .int (nI v)] : List Value).toArray below meth c 2 D A Q 0 0 (gw_G g h1 h2 ++ (gs_W cI cZ h1 q F B ++ (gs_W cI cZ h2 q2 F2 B2))) [(0, .ref g), (1, .int (nI v))] 5 []
  refine gk_aload_n G dX1_groundAt_5 0 rfl ?_
  refine gk_get (v' := .ref h1) G hinX1 (q0 := 0) rfl rfl 0 (by decide) k10 rfl rfl dX1_groundAt_6 ?_
  refine gk_getN (v' := .ref (q 8)) G hinX0 (q0 := 1) rfl rfl 8 (by decide) kN114 rfl rfl dX1_groundAt_9 ?_
  refine gk_iload_n G dX1_groundAt_12 1 rfl ?_
  refine gk_iald (v := gm_e (M 8 v)) G (q0 := 10) (t0 := 0) rfl rfl v rfl (by omega) (by decide) (hr.2.2.2.2.2.2.2.2 v (by omega)) dX1_groundAt_13 ?_
  exact RET _ _ _ _ _ _ ((F, B), (F2, B2)) dX1_groundAt_14 rfl ⟨rfl, hr⟩ rfl (Nat.le_of_ble_eq_true rfl) (Nat.le_of_ble_eq_true rfl)
set_option maxRecDepth 100000 in
set_option maxHeartbeats 1000000 in
theorem c1_first (l : Launch) (D : va_G) (cI cZ cJ : ClassId) (g h1 h2 : Nat) (q : Nat → Nat) (F : Nat → Int32) (B : Nat → Nat → Int32) (q2 : Nat → Nat) (F2 : Nat → Int32) (B2 : Nat → Nat → Int32) (M : gm_M)  (wf : gm_wf M) (hr : gc_rep F B M) (hrest : gm_rest M) : gk_I l yX1_first wsX1_first ({ frames := 2, cells := 0, slots := 0, locals := 47 } : Room) D (g_T cI cZ cJ) gn_E [.ref g] (gw_G g h1 h2 ++ (gs_W cI cZ h1 q F B ++ (gs_W cI cZ h2 q2 F2 B2))) 0 0 (fun (r : Int32) (u : gw_U) => r = gm_e (gm_nxt M 0 (M 11 0)) ∧ gc_rep u.1.1 u.1.2 M) (fun u => (gw_X cI cZ g h1 h2 q q2 u)) := by
  refine gk_I_of (ty := .int) (cc := cX1_first) (nL := 1) (by decide +kernel) rfl (Nat.le_of_ble_eq_true rfl) ?_
  intro p e s m below meth c A Q hnm hE G RET
  obtain ⟨hz1, hz2, hz3, hz4, hz5, hz6, hz7, hz8⟩ := id wf
  have hinX1 : ∀ w ∈ wsX10, w ∈ wsX1_first := fun w h9 => (List.mem_cons_of_mem _ (List.mem_append_left _ (List.mem_append_right _ h9)))
  have k10 := G.2.2.2.2.1 (.fieldLink RX1 10 "GustMill" "now" "LGustMill$State;") (List.mem_cons_of_mem _ (List.mem_append_left _ (List.mem_append_left _ (List.mem_of_getElem? (i := 0) rfl))))
  refine gk_aload_n G dX1_first_0 0 rfl ?_
  refine gk_get (v' := .ref h1) G hinX1 (q0 := 0) rfl rfl 0 (by decide) k10 rfl rfl dX1_first_1 ?_
  refine gk_iconst (v := nI 0) G dX1_first_4 (by decide) ?_
  refine gk_callIV (wr := (gw_G g h1 h2 ++ (gs_W cI cZ h2 q2 F2 B2))) G (c0_firstByRule l D cI cZ cJ h1 q F B M 0 wf hr hrest (by omega)) gX1_first_X0_firstByRule rfl 1 (by decide +kernel) rfl rfl ⟨(Nat.le_of_ble_eq_true rfl), (Nat.le_of_ble_eq_true rfl)⟩ rfl (q0 := 0) rfl (T := TX0) (N := 16) rfl gk_ok0 trivial [1, 2, 3, 4, 5, 6, 7, 8, 9, 10] rfl (by decide) [0, 11, 12, 13, 14, 15, 16, 17, 18, 19, 20] rfl (by decide) (by decide) rfl (Nat.le_of_ble_eq_true rfl) dX1_first_5 ⟨(Nat.le_of_ble_eq_true rfl), (Nat.le_of_ble_eq_true rfl)⟩ (fun r5 u5 hp5 => ?_)
  obtain rfl : r5 = gm_e (gm_nxt M 0 (M 11 0)) := hp5
  refine gk_wsub (w' := (gw_G g h1 h2 ++ (gs_W cI cZ h1 q F B ++ (gs_W cI cZ h2 q2 F2 B2)))) [0, 11, 12, 13, 14, 15, 16, 17, 18, 19, 20, 1, 2, 3, 4, 5, 6, 7, 8, 9, 10] rfl (by decide) ?_
  show gk_C p l e ({ frames := 2, cells := 0, slots := 0, locals := 47 } : Room) s m ([.ref g] : List Value).toArray below meth c 1 D A Q 0 0 (gw_G g h1 h2 ++ (gs_W cI cZ h1 q F B ++ (gs_W cI cZ h2 q2 F2 B2))) [(0, .ref g)] 8 [.int (gm_e (gm_nxt M 0 (M 11 0)))]
  exact RET _ _ _ _ _ _ ((F, B), (F2, B2)) dX1_first_8 rfl ⟨rfl, hr⟩ rfl (Nat.le_of_ble_eq_true rfl) (Nat.le_of_ble_eq_true rfl)
set_option maxRecDepth 100000 in
set_option maxHeartbeats 1000000 in
theorem c1_placeOf_ok (l : Launch) (D : va_G) (cI cZ cJ : ClassId) (g h1 h2 : Nat) (q : Nat → Nat) (F : Nat → Int32) (B : Nat → Nat → Int32) (q2 : Nat → Nat) (F2 : Nat → Int32) (B2 : Nat → Nat → Int32) (M : gm_M) (v : Nat) (wf : gm_wf M) (hr : gc_rep F B M) (hrest : gm_rest M) (hv : v < M 11 0) : gk_I l yX1_placeOf wsX1_placeOf ({ frames := 2, cells := 0, slots := 0, locals := 46 } : Room) D (g_T cI cZ cJ) gn_E [.ref g, .int (nI v)] (gw_G g h1 h2 ++ (gs_W cI cZ h1 q F B ++ (gs_W cI cZ h2 q2 F2 B2))) 0 0 (fun (r : Int32) (u : gw_U) => r = gm_plc M v ∧ gc_rep u.1.1 u.1.2 M) (fun u => (gw_X cI cZ g h1 h2 q q2 u)) := by
  refine gk_I_of (ty := .int) (cc := cX1_placeOf) (nL := 2) (by decide +kernel) rfl (Nat.le_of_ble_eq_true rfl) ?_
  intro p e s m below meth c A Q hnm hE G RET
  obtain ⟨hz1, hz2, hz3, hz4, hz5, hz6, hz7, hz8⟩ := id wf
  have hv7 := hz7 v hv
  have hinX1 : ∀ w ∈ wsX10, w ∈ wsX1_placeOf := fun w h9 => (List.mem_cons_of_mem _ (List.mem_append_left _ (List.mem_append_left _ (List.mem_append_right _ h9))))
  have k10 := G.2.2.2.2.1 (.fieldLink RX1 10 "GustMill" "now" "LGustMill$State;") (List.mem_cons_of_mem _ (List.mem_append_left _ (List.mem_append_left _ (List.mem_append_left _ (List.mem_append_left _ (List.mem_of_getElem? (i := 0) rfl))))))
  refine gk_aload_n G dX1_placeOf_0 0 rfl ?_
  refine gk_iload_n G dX1_placeOf_1 1 rfl ?_
  refine gk_callVV (wr := []) G (c1_requireSack_ok l D cI cZ cJ g h1 h2 q F B q2 F2 B2 M v wf hr (by omega)) gX1_placeOf_X1_requireSack rfl 1 (by decide +kernel) rfl rfl ⟨(Nat.le_of_ble_eq_true rfl), (Nat.le_of_ble_eq_true rfl)⟩ rfl (q0 := 0) rfl (T := TX1) (N := 2) rfl gn_ok hE [0, 1, 2, 3, 4, 5, 6, 7, 8, 9, 10, 11, 12, 13, 14, 15, 16, 17, 18, 19, 20] rfl (by decide) [] rfl (by decide) (by decide) rfl (Nat.le_of_ble_eq_true rfl) dX1_placeOf_2 ⟨(Nat.le_of_ble_eq_true rfl), (Nat.le_of_ble_eq_true rfl)⟩ (fun u2 hp2 => ?_)
  show gk_C p l e ({ frames := 2, cells := 0, slots := 0, locals := 46 } : Room) s m ([.ref g, .int (nI v)] : List Value).toArray below meth c 2 D A Q 0 0 (gw_G g h1 h2 ++ (gs_W cI cZ h1 q F B ++ (gs_W cI cZ h2 q2 F2 B2))) [(0, .ref g), (1, .int (nI v))] 5 []
  refine gk_aload_n G dX1_placeOf_5 0 rfl ?_
  refine gk_get (v' := .ref h1) G hinX1 (q0 := 0) rfl rfl 0 (by decide) k10 rfl rfl dX1_placeOf_6 ?_
  refine gk_iload_n G dX1_placeOf_9 1 rfl ?_
  refine gk_callIV (wr := (gw_G g h1 h2 ++ (gs_W cI cZ h2 q2 F2 B2))) G (c0_isGround l D cI cZ cJ h1 q F B M v wf hr hv) gX1_placeOf_X0_isGround rfl 1 (by decide +kernel) rfl rfl ⟨(Nat.le_of_ble_eq_true rfl), (Nat.le_of_ble_eq_true rfl)⟩ rfl (q0 := 0) rfl (T := TX0) (N := 16) rfl gk_ok0 trivial [1, 2, 3, 4, 5, 6, 7, 8, 9, 10] rfl (by decide) [0, 11, 12, 13, 14, 15, 16, 17, 18, 19, 20] rfl (by decide) (by decide) rfl (Nat.le_of_ble_eq_true rfl) dX1_placeOf_10 ⟨(Nat.le_of_ble_eq_true rfl), (Nat.le_of_ble_eq_true rfl)⟩ (fun r10 u10 hp10 => ?_)
  obtain rfl : r10 = gm_b (M 5 v = 0) := hp10
  refine gk_wsub (w' := (gw_G g h1 h2 ++ (gs_W cI cZ h1 q F B ++ (gs_W cI cZ h2 q2 F2 B2)))) [0, 11, 12, 13, 14, 15, 16, 17, 18, 19, 20, 1, 2, 3, 4, 5, 6, 7, 8, 9, 10] rfl (by decide) ?_
  show gk_C p l e ({ frames := 2, cells := 0, slots := 0, locals := 46 } : Room) s m ([.ref g, .int (nI v)] : List Value).toArray below meth c 2 D A Q 0 0 (gw_G g h1 h2 ++ (gs_W cI cZ h1 q F B ++ (gs_W cI cZ h2 q2 F2 B2))) [(0, .ref g), (1, .int (nI v))] 13 [.int (gm_b (M 5 v = 0))]
  refine gk_if_eq (tgt := 20) G dX1_placeOf_13 (by decide) (fun c_13 => ?_) (fun c_13 => ?_)
  · replace c_13 := gm_b_eq.mp c_13
    have e8 : M 8 v = 0 := Decidable.byContradiction (fun q9 => c_13 (hv7.2.2.2.2.2.1 q9).2)
    refine gk_aload_n G dX1_placeOf_20 0 rfl ?_
    refine gk_get (v' := .ref h1) G hinX1 (q0 := 0) rfl rfl 0 (by decide) k10 rfl rfl dX1_placeOf_21 ?_
    refine gk_iload_n G dX1_placeOf_24 1 rfl ?_
    refine gk_callIV (wr := (gw_G g h1 h2 ++ (gs_W cI cZ h2 q2 F2 B2))) G (c0_countAhead l D cI cZ cJ h1 q F B M v wf hr hrest hv) gX1_placeOf_X0_countAhead rfl 1 (by decide +kernel) rfl rfl ⟨(Nat.le_of_ble_eq_true rfl), (Nat.le_of_ble_eq_true rfl)⟩ rfl (q0 := 0) rfl (T := TX0) (N := 16) rfl gk_ok0 trivial [1, 2, 3, 4, 5, 6, 7, 8, 9, 10] rfl (by decide) [0, 11, 12, 13, 14, 15, 16, 17, 18, 19, 20] rfl (by decide) (by decide) rfl (Nat.le_of_ble_eq_true rfl) dX1_placeOf_25 ⟨(Nat.le_of_ble_eq_true rfl), (Nat.le_of_ble_eq_true rfl)⟩ (fun r25 u25 hp25 => ?_)
    obtain rfl : r25 = nI (gm_cnt M v (M 11 0)) := hp25
    refine gk_wsub (w' := (gw_G g h1 h2 ++ (gs_W cI cZ h1 q F B ++ (gs_W cI cZ h2 q2 F2 B2)))) [0, 11, 12, 13, 14, 15, 16, 17, 18, 19, 20, 1, 2, 3, 4, 5, 6, 7, 8, 9, 10] rfl (by decide) ?_
    show gk_C p l e ({ frames := 2, cells := 0, slots := 0, locals := 46 } : Room) s m ([.ref g, .int (nI v)] : List Value).toArray below meth c 2 D A Q 0 0 (gw_G g h1 h2 ++ (gs_W cI cZ h1 q F B ++ (gs_W cI cZ h2 q2 F2 B2))) [(0, .ref g), (1, .int (nI v))] 28 [.int (nI (gm_cnt M v (M 11 0)))]
    exact RET _ _ _ _ _ _ ((F, B), (F2, B2)) dX1_placeOf_28 rfl ⟨(by unfold gm_plc; first | rw [if_pos e8] | rw [if_neg e8]), hr⟩ rfl (Nat.le_of_ble_eq_true rfl) (Nat.le_of_ble_eq_true rfl)
  · replace c_13 := gm_b_ne.mp c_13
    have e8 : M 8 v ≠ 0 := hrest v hv c_13
    refine gk_iconst (v := -1) G dX1_placeOf_16 (by decide) ?_
    refine gk_goto (tgt := 28) G dX1_placeOf_17 (by decide) ?_
    exact RET _ _ _ _ _ _ ((F, B), (F2, B2)) dX1_placeOf_28 rfl ⟨(by unfold gm_plc; first | rw [if_pos e8] | rw [if_neg e8]), hr⟩ rfl (Nat.le_of_ble_eq_true rfl) (Nat.le_of_ble_eq_true rfl)
theorem gm_rst_lt {M : gm_M} (wf : gm_wf M) (v : Nat) : ∀ k : Nat, k ≤ M 11 0 → gm_rst M v k ≤ 60 * k
  | 0, _ => Nat.le_refl 0
  | k + 1, hk => by
    have ih := gm_rst_lt wf v k (by omega)
    have h7 := wf.2.2.2.2.2.2.1 k (by omega)
    show gm_rst M v k + (if M 4 k = v then M 5 k else 0) ≤ 60 * (k + 1)
    split <;> omega
set_option maxRecDepth 100000 in
set_option maxHeartbeats 1000000 in
theorem c1_leftFor_ok (l : Launch) (D : va_G) (cI cZ cJ : ClassId) (g h1 h2 : Nat) (q : Nat → Nat) (F : Nat → Int32) (B : Nat → Nat → Int32) (q2 : Nat → Nat) (F2 : Nat → Int32) (B2 : Nat → Nat → Int32) (M : gm_M) (v : Nat) (wf : gm_wf M) (hr : gc_rep F B M) (hv : v < 8) : gk_I l yX1_leftFor wsX1_leftFor ({ frames := 1, cells := 0, slots := 0, locals := 20 } : Room) D (g_T cI cZ cJ) gn_E [.ref g, .int (nI v)] (gw_G g h1 h2 ++ (gs_W cI cZ h1 q F B ++ (gs_W cI cZ h2 q2 F2 B2))) 0 0 (fun (r : Int32) (u : gw_U) => r = nI (gm_rst M v (M 11 0)) ∧ gc_rep u.1.1 u.1.2 M) (fun u => (gw_X cI cZ g h1 h2 q q2 u)) := by
  refine gk_I_of (ty := .int) (cc := cX1_leftFor) (nL := 4) (by decide +kernel) rfl (Nat.le_of_ble_eq_true rfl) ?_
  intro p e s m below meth c A Q hnm hE G RET
  obtain ⟨hz1, hz2, hz3, hz4, hz5, hz6, hz7, hz8⟩ := id wf
  have hinX0 : ∀ w ∈ wsX00, w ∈ wsX1_leftFor := fun w h9 => (List.mem_cons_of_mem _ (List.mem_append_left _ (List.mem_append_right _ h9)))
  have hinX1 : ∀ w ∈ wsX10, w ∈ wsX1_leftFor := fun w h9 => (List.mem_cons_of_mem _ (List.mem_append_left _ (List.mem_append_left _ (List.mem_append_right _ h9))))
  have k10 := G.2.2.2.2.1 (.fieldLink RX1 10 "GustMill" "now" "LGustMill$State;") (List.mem_cons_of_mem _ (List.mem_append_left _ (List.mem_append_left _ (List.mem_append_left _ (List.mem_of_getElem? (i := 0) rfl)))))
  have kN70 := gn_70 (args := ([.ref g, .int (nI v)] : List Value).toArray) hE
  have kN111 := gn_111 (args := ([.ref g, .int (nI v)] : List Value).toArray) hE
  have kN134 := gn_134 (args := ([.ref g, .int (nI v)] : List Value).toArray) hE
  have L8 : ∀ (n : Nat) (k : Nat), M 11 0 - k < n → (k ≤ M 11 0) → gk_C p l e ({ frames := 1, cells := 0, slots := 0, locals := 20 } : Room) s m ([.ref g, .int (nI v)] : List Value).toArray below meth c 4 D A Q 0 0 (gw_G g h1 h2 ++ (gs_W cI cZ h1 q F B ++ (gs_W cI cZ h2 q2 F2 B2))) [(0, .ref g), (1, .int (nI v)), (2, .int (nI (gm_rst M v k))), (3, .int (nI k))] 8 [] := by
    intro n
    induction n with
    | zero => intro k h0; exact absurd h0 (Nat.not_lt_zero _)
    | succ n ih =>
      intro k h0 w0
      refine gk_iload_n G dX1_leftFor_8 3 rfl ?_
      refine gk_aload_n G dX1_leftFor_9 0 rfl ?_
      refine gk_get (v' := .ref h1) G hinX1 (q0 := 0) rfl rfl 0 (by decide) k10 rfl rfl dX1_leftFor_10 ?_
      refine gk_getN (v' := .int (nI (M 11 0))) G hinX0 (q0 := 1) rfl rfl 11 (by decide) kN70 rfl (congrArg Value.int (hr.1.2.2.1)) dX1_leftFor_13 ?_
      refine gk_icmp_ge (tgt := 50) G dX1_leftFor_16 (by decide) (fun c_16 => ?_) (fun c_16 => ?_)
      · replace c_16 := (nI_leI (a := M 11 0) (b := k) (by omega) (by omega)).mp c_16
        refine gk_iload_n G dX1_leftFor_50 2 rfl ?_
        exact RET _ _ _ _ _ _ ((F, B), (F2, B2)) dX1_leftFor_51 rfl ⟨(by rw [show k = M 11 0 by omega]), hr⟩ rfl (Nat.le_of_ble_eq_true rfl) (Nat.le_of_ble_eq_true rfl)
      · replace c_16 := (not_congr (nI_leI (a := M 11 0) (b := k) (by omega) (by omega))).mp c_16
        have hk7 := hz7 k (by omega)
        have hrk := gm_rst_lt wf v k (by omega)
        refine gk_aload_n G dX1_leftFor_19 0 rfl ?_
        refine gk_get (v' := .ref h1) G hinX1 (q0 := 0) rfl rfl 0 (by decide) k10 rfl rfl dX1_leftFor_20 ?_
        refine gk_getN (v' := .ref (q 4)) G hinX0 (q0 := 1) rfl rfl 4 (by decide) kN134 rfl rfl dX1_leftFor_23 ?_
        refine gk_iload_n G dX1_leftFor_26 3 rfl ?_
        refine gk_iald (v := nI (M 4 k)) G (q0 := 6) (t0 := 0) rfl rfl k rfl (by omega) (by decide) (hr.2.2.2.2.1 k (by omega)) dX1_leftFor_27 ?_
        refine gk_iload_n G dX1_leftFor_28 1 rfl ?_
        refine gk_icmp_ne (tgt := 44) G dX1_leftFor_29 (by decide) (fun c_29 => ?_) (fun c_29 => ?_)
        · replace c_29 := (not_congr (nI_eq (a := M 4 k) (b := v) (by omega) (by omega))).mp c_29
          refine gk_iinc (j := 3) (v := nI (k + 1)) (lv' := [(3, .int (nI (k + 1))), (0, .ref g), (1, .int (nI v)), (2, .int (nI (gm_rst M v k)))]) G dX1_leftFor_44 rfl (nI_add k 1) (by decide) rfl ?_
          refine gk_goto (tgt := 8) G dX1_leftFor_47 (by decide) ?_
          have e9 : gm_rst M v (k + 1) = gm_rst M v k := by
            show gm_rst M v k + (if M 4 k = v then M 5 k else 0) = _
            rw [if_neg (by omega)]; rfl
          have t9 := ih (k + 1) (by omega) (by omega)
          rw [e9] at t9
          exact gk_lsub [1,2,3,0] rfl t9
        · replace c_29 := (nI_eq (a := M 4 k) (b := v) (by omega) (by omega)).mp c_29
          refine gk_iload_n G dX1_leftFor_32 2 rfl ?_
          refine gk_aload_n G dX1_leftFor_33 0 rfl ?_
          refine gk_get (v' := .ref h1) G hinX1 (q0 := 0) rfl rfl 0 (by decide) k10 rfl rfl dX1_leftFor_34 ?_
          refine gk_getN (v' := .ref (q 5)) G hinX0 (q0 := 1) rfl rfl 5 (by decide) kN111 rfl rfl dX1_leftFor_37 ?_
          refine gk_iload_n G dX1_leftFor_40 3 rfl ?_
          refine gk_iald (v := nI (M 5 k)) G (q0 := 7) (t0 := 0) rfl rfl k rfl (by omega) (by decide) (hr.2.2.2.2.2.1 k (by omega)) dX1_leftFor_41 ?_
          refine gk_iadd (v := nI ((gm_rst M v k) + (M 5 k))) G dX1_leftFor_42 (nI_add (gm_rst M v k) (M 5 k)) ?_
          refine gk_istore_n (lv' := [(2, .int (nI ((gm_rst M v k) + (M 5 k)))), (0, .ref g), (1, .int (nI v)), (3, .int (nI k))]) G dX1_leftFor_43 rfl (by decide) rfl ?_
          refine gk_iinc (j := 3) (v := nI (k + 1)) (lv' := [(3, .int (nI (k + 1))), (2, .int (nI ((gm_rst M v k) + (M 5 k)))), (0, .ref g), (1, .int (nI v))]) G dX1_leftFor_44 rfl (nI_add k 1) (by decide) rfl ?_
          refine gk_goto (tgt := 8) G dX1_leftFor_47 (by decide) ?_
          have e9 : gm_rst M v (k + 1) = (gm_rst M v k) + (M 5 k) := by
            show gm_rst M v k + (if M 4 k = v then M 5 k else 0) = _
            rw [if_pos (by omega)]
          have t9 := ih (k + 1) (by omega) (by omega)
          rw [e9] at t9
          exact gk_lsub [2,3,1,0] rfl t9
  refine gk_iload_n G dX1_leftFor_0 1 rfl ?_
  refine gk_callVS (wc := []) (wr := (gw_G g h1 h2 ++ (gs_W cI cZ h1 q F B ++ (gs_W cI cZ h2 q2 F2 B2)))) (isC := []) (isR := [0, 1, 2, 3, 4, 5, 6, 7, 8, 9, 10, 11, 12, 13, 14, 15, 16, 17, 18, 19, 20]) G (c1_requireBaker_ok l D cI cZ cJ v (by omega) (by omega)) gX1_leftFor_X1_requireBaker rfl 1 (by decide +kernel) rfl rfl ⟨(Nat.le_of_ble_eq_true rfl), (Nat.le_of_ble_eq_true rfl)⟩ rfl gk_ok0 trivial rfl (by decide) rfl (by decide) (by decide) rfl (Nat.le_of_ble_eq_true rfl) dX1_leftFor_1 ⟨(Nat.le_of_ble_eq_true rfl), (Nat.le_of_ble_eq_true rfl)⟩ (fun u1 hp1 => ?_)
  show gk_C p l e ({ frames := 1, cells := 0, slots := 0, locals := 20 } : Room) s m ([.ref g, .int (nI v)] : List Value).toArray below meth c 4 D A Q 0 0 (gw_G g h1 h2 ++ (gs_W cI cZ h1 q F B ++ (gs_W cI cZ h2 q2 F2 B2))) [(0, .ref g), (1, .int (nI v))] 4 []
  refine gk_iconst (v := nI 0) G dX1_leftFor_4 (by decide) ?_
  refine gk_istore_n (lv' := [(2, .int (nI 0)), (0, .ref g), (1, .int (nI v))]) G dX1_leftFor_5 rfl (by decide) rfl ?_
  refine gk_iconst (v := nI 0) G dX1_leftFor_6 (by decide) ?_
  refine gk_istore_n (lv' := [(3, .int (nI 0)), (2, .int (nI 0)), (0, .ref g), (1, .int (nI v))]) G dX1_leftFor_7 rfl (by decide) rfl ?_
  exact gk_lsub [2,3,1,0] rfl (L8 (M 11 0 + 1) 0 (by omega) (by omega))
set_option maxRecDepth 100000 in
set_option maxHeartbeats 1000000 in
theorem c1_late (l : Launch) (D : va_G) (cI cZ cJ : ClassId) (g h1 h2 : Nat) (q : Nat → Nat) (F : Nat → Int32) (B : Nat → Nat → Int32) (q2 : Nat → Nat) (F2 : Nat → Int32) (B2 : Nat → Nat → Int32) (M : gm_M)  (wf : gm_wf M) (hr : gc_rep F B M) (hrest : gm_rest M) (hh : M 9 0 < 2000000) : gk_I l yX1_late wsX1_late ({ frames := 2, cells := 0, slots := 0, locals := 43 } : Room) D (g_T cI cZ cJ) gn_E [.ref g] (gw_G g h1 h2 ++ (gs_W cI cZ h1 q F B ++ (gs_W cI cZ h2 q2 F2 B2))) 0 0 (fun (r : Int32) (u : gw_U) => r = nI (gm_late M 0 (M 11 0)) ∧ gc_rep u.1.1 u.1.2 M) (fun u => (gw_X cI cZ g h1 h2 q q2 u)) := by
  refine gk_I_of (ty := .int) (cc := cX1_late) (nL := 1) (by decide +kernel) rfl (Nat.le_of_ble_eq_true rfl) ?_
  intro p e s m below meth c A Q hnm hE G RET
  obtain ⟨hz1, hz2, hz3, hz4, hz5, hz6, hz7, hz8⟩ := id wf
  have hinX1 : ∀ w ∈ wsX10, w ∈ wsX1_late := fun w h9 => (List.mem_cons_of_mem _ (List.mem_append_left _ (List.mem_append_right _ h9)))
  have k10 := G.2.2.2.2.1 (.fieldLink RX1 10 "GustMill" "now" "LGustMill$State;") (List.mem_cons_of_mem _ (List.mem_append_left _ (List.mem_append_left _ (List.mem_of_getElem? (i := 0) rfl))))
  refine gk_aload_n G dX1_late_0 0 rfl ?_
  refine gk_get (v' := .ref h1) G hinX1 (q0 := 0) rfl rfl 0 (by decide) k10 rfl rfl dX1_late_1 ?_
  refine gk_callIV (wr := (gw_G g h1 h2 ++ (gs_W cI cZ h2 q2 F2 B2))) G (c0_hoursLate l D cI cZ cJ h1 q F B M wf hr hrest hh) gX1_late_X0_hoursLate rfl 0 (by decide +kernel) rfl rfl ⟨(Nat.le_of_ble_eq_true rfl), (Nat.le_of_ble_eq_true rfl)⟩ rfl (q0 := 0) rfl (T := TX0) (N := 16) rfl gk_ok0 trivial [1, 2, 3, 4, 5, 6, 7, 8, 9, 10] rfl (by decide) [0, 11, 12, 13, 14, 15, 16, 17, 18, 19, 20] rfl (by decide) (by decide) rfl (Nat.le_of_ble_eq_true rfl) dX1_late_4 ⟨(Nat.le_of_ble_eq_true rfl), (Nat.le_of_ble_eq_true rfl)⟩ (fun r4 u4 hp4 => ?_)
  obtain rfl : r4 = nI (gm_late M 0 (M 11 0)) := hp4
  refine gk_wsub (w' := (gw_G g h1 h2 ++ (gs_W cI cZ h1 q F B ++ (gs_W cI cZ h2 q2 F2 B2)))) [0, 11, 12, 13, 14, 15, 16, 17, 18, 19, 20, 1, 2, 3, 4, 5, 6, 7, 8, 9, 10] rfl (by decide) ?_
  show gk_C p l e ({ frames := 2, cells := 0, slots := 0, locals := 43 } : Room) s m ([.ref g] : List Value).toArray below meth c 1 D A Q 0 0 (gw_G g h1 h2 ++ (gs_W cI cZ h1 q F B ++ (gs_W cI cZ h2 q2 F2 B2))) [(0, .ref g)] 7 [.int (nI (gm_late M 0 (M 11 0)))]
  exact RET _ _ _ _ _ _ ((F, B), (F2, B2)) dX1_late_7 rfl ⟨rfl, hr⟩ rfl (Nat.le_of_ble_eq_true rfl) (Nat.le_of_ble_eq_true rfl)
