set_option maxRecDepth 100000 in
set_option maxHeartbeats 1000000 in
theorem c2_hour (l : Launch) (D : va_G) (cI cZ cJ : ClassId) (h : Nat) (q : Nat → Nat) (F : Nat → Int32) (B : Nat → Nat → Int32) (f kp g : Nat → Int32) (M : gm_M) (wf : gm_wf M) (hs : gr_st F B M) (hn : gr_now f M)  : gk_I l yX2_hour wsX2_hour ({ frames := 1, cells := 0, slots := 0, locals := 21 } : Room) D (g_T cI cZ cJ) gk_E0 [.ref h] (gd_W cI h q F B f kp g) 0 0 (fun (r : Int32) (u : gd_U) => r = nI (M 9 0) ∧ gd_R u M 0) (fun u => (gd_X cI h q u)) := by
  refine gk_I_of (ty := .int) (cc := cX2_hour) (nL := 1) (by decide +kernel) rfl (Nat.le_of_ble_eq_true rfl) ?_
  intro p e s m below meth c A Q hnm hE G RET
  obtain ⟨hz1, hz2, hz3, hz4, hz5, hz6, hz7, hz8⟩ := id wf
  have hinX2 : ∀ w ∈ wsX20, w ∈ wsX2_hour := fun w h9 => (List.mem_cons_of_mem _ (List.mem_append_right _ h9))
  have k22 := G.2.2.2.2.1 (.fieldLink RX2 22 "GustMillModel" "now" "[I") (List.mem_cons_of_mem _ (List.mem_append_left _ (List.mem_of_getElem? (i := 0) rfl)))
  refine gk_aload_n G dX2_hour_0 0 rfl ?_
  refine gk_aload_n G dX2_hour_1 0 rfl ?_
  refine gk_get (v' := .ref (q 9)) G hinX2 (q0 := 0) rfl rfl 9 (by decide) k22 rfl rfl dX2_hour_2 ?_
  refine gk_iconst (v := nI 0) G dX2_hour_5 (by decide) ?_
  refine gk_iald (v := nI (M 9 0)) G (q0 := 5) (t0 := 0) rfl rfl 0 rfl (by omega) (by decide) hn.1 dX2_hour_6 ?_
  refine gk_callIV (wr := []) G (c2_told l D cI cZ cJ h q F B f kp g M (nI (M 9 0))) gX2_hour_X2_told rfl 1 (by decide +kernel) rfl rfl ⟨(Nat.le_of_ble_eq_true rfl), (Nat.le_of_ble_eq_true rfl)⟩ rfl (q0 := 0) rfl (T := TX2) (N := 12) rfl gk_ok0 trivial [0, 1, 2, 3, 4, 5, 6, 7] rfl (by decide) [] rfl (by decide) (by decide) rfl (Nat.le_of_ble_eq_true rfl) dX2_hour_7 ⟨(Nat.le_of_ble_eq_true rfl), (Nat.le_of_ble_eq_true rfl)⟩ (fun r7 u7 hp7 => ?_)
  obtain rfl : r7 = (nI (M 9 0)) := hp7.1
  have hF7 : u7 = upd F 0 (nI 0) := hp7.2
  have hs7 : gr_st u7 B M := by rw [hF7]; exact gr_st_0 hs
  have hT7 : u7 0 = nI 0 := by rw [hF7, pk_us]
  show gk_C p l e ({ frames := 1, cells := 0, slots := 0, locals := 21 } : Room) s m ([.ref h] : List Value).toArray below meth c 1 D A Q 0 0 (gd_W cI h q u7 B f kp g) [(0, .ref h)] 10 [.int ((nI (M 9 0)))]
  exact RET _ _ _ _ _ _ (u7, B, f, kp, g) dX2_hour_10 rfl ⟨rfl, hs7, hn, hT7⟩ rfl (Nat.le_of_ble_eq_true rfl) (Nat.le_of_ble_eq_true rfl)
set_option maxRecDepth 100000 in
set_option maxHeartbeats 1000000 in
theorem c2_stones (l : Launch) (D : va_G) (cI cZ cJ : ClassId) (h : Nat) (q : Nat → Nat) (F : Nat → Int32) (B : Nat → Nat → Int32) (f kp g : Nat → Int32) (M : gm_M) (wf : gm_wf M) (hs : gr_st F B M) (hn : gr_now f M)  : gk_I l yX2_stones wsX2_stones ({ frames := 1, cells := 0, slots := 0, locals := 21 } : Room) D (g_T cI cZ cJ) gk_E0 [.ref h] (gd_W cI h q F B f kp g) 0 0 (fun (r : Int32) (u : gd_U) => r = nI (M 10 0) ∧ gd_R u M 0) (fun u => (gd_X cI h q u)) := by
  refine gk_I_of (ty := .int) (cc := cX2_stones) (nL := 1) (by decide +kernel) rfl (Nat.le_of_ble_eq_true rfl) ?_
  intro p e s m below meth c A Q hnm hE G RET
  obtain ⟨hz1, hz2, hz3, hz4, hz5, hz6, hz7, hz8⟩ := id wf
  have hinX2 : ∀ w ∈ wsX20, w ∈ wsX2_stones := fun w h9 => (List.mem_cons_of_mem _ (List.mem_append_right _ h9))
  have k35 := G.2.2.2.2.1 (.fieldLink RX2 35 "GustMillModel" "stones" "I") (List.mem_cons_of_mem _ (List.mem_append_left _ (List.mem_of_getElem? (i := 0) rfl)))
  refine gk_aload_n G dX2_stones_0 0 rfl ?_
  refine gk_aload_n G dX2_stones_1 0 rfl ?_
  refine gk_get (v' := .int (nI (M 10 0))) G hinX2 (q0 := 0) rfl rfl 1 (by decide) k35 rfl (congrArg Value.int (hs.1)) dX2_stones_2 ?_
  refine gk_callIV (wr := []) G (c2_told l D cI cZ cJ h q F B f kp g M (nI (M 10 0))) gX2_stones_X2_told rfl 1 (by decide +kernel) rfl rfl ⟨(Nat.le_of_ble_eq_true rfl), (Nat.le_of_ble_eq_true rfl)⟩ rfl (q0 := 0) rfl (T := TX2) (N := 12) rfl gk_ok0 trivial [0, 1, 2, 3, 4, 5, 6, 7] rfl (by decide) [] rfl (by decide) (by decide) rfl (Nat.le_of_ble_eq_true rfl) dX2_stones_5 ⟨(Nat.le_of_ble_eq_true rfl), (Nat.le_of_ble_eq_true rfl)⟩ (fun r5 u5 hp5 => ?_)
  obtain rfl : r5 = (nI (M 10 0)) := hp5.1
  have hF5 : u5 = upd F 0 (nI 0) := hp5.2
  have hs5 : gr_st u5 B M := by rw [hF5]; exact gr_st_0 hs
  have hT5 : u5 0 = nI 0 := by rw [hF5, pk_us]
  show gk_C p l e ({ frames := 1, cells := 0, slots := 0, locals := 21 } : Room) s m ([.ref h] : List Value).toArray below meth c 1 D A Q 0 0 (gd_W cI h q u5 B f kp g) [(0, .ref h)] 8 [.int ((nI (M 10 0)))]
  exact RET _ _ _ _ _ _ (u5, B, f, kp, g) dX2_stones_8 rfl ⟨rfl, hs5, hn, hT5⟩ rfl (Nat.le_of_ble_eq_true rfl) (Nat.le_of_ble_eq_true rfl)
set_option maxRecDepth 100000 in
set_option maxHeartbeats 1000000 in
theorem c2_sacks (l : Launch) (D : va_G) (cI cZ cJ : ClassId) (h : Nat) (q : Nat → Nat) (F : Nat → Int32) (B : Nat → Nat → Int32) (f kp g : Nat → Int32) (M : gm_M) (wf : gm_wf M) (hs : gr_st F B M) (hn : gr_now f M)  : gk_I l yX2_sacks wsX2_sacks ({ frames := 1, cells := 0, slots := 0, locals := 21 } : Room) D (g_T cI cZ cJ) gk_E0 [.ref h] (gd_W cI h q F B f kp g) 0 0 (fun (r : Int32) (u : gd_U) => r = nI (M 11 0) ∧ gd_R u M 0) (fun u => (gd_X cI h q u)) := by
  refine gk_I_of (ty := .int) (cc := cX2_sacks) (nL := 1) (by decide +kernel) rfl (Nat.le_of_ble_eq_true rfl) ?_
  intro p e s m below meth c A Q hnm hE G RET
  obtain ⟨hz1, hz2, hz3, hz4, hz5, hz6, hz7, hz8⟩ := id wf
  have hinX2 : ∀ w ∈ wsX20, w ∈ wsX2_sacks := fun w h9 => (List.mem_cons_of_mem _ (List.mem_append_right _ h9))
  have k42 := G.2.2.2.2.1 (.fieldLink RX2 42 "GustMillModel" "sacks" "I") (List.mem_cons_of_mem _ (List.mem_append_left _ (List.mem_of_getElem? (i := 0) rfl)))
  refine gk_aload_n G dX2_sacks_0 0 rfl ?_
  refine gk_aload_n G dX2_sacks_1 0 rfl ?_
  refine gk_get (v' := .int (nI (M 11 0))) G hinX2 (q0 := 0) rfl rfl 6 (by decide) k42 rfl (congrArg Value.int (hs.2.2.2.1)) dX2_sacks_2 ?_
  refine gk_callIV (wr := []) G (c2_told l D cI cZ cJ h q F B f kp g M (nI (M 11 0))) gX2_sacks_X2_told rfl 1 (by decide +kernel) rfl rfl ⟨(Nat.le_of_ble_eq_true rfl), (Nat.le_of_ble_eq_true rfl)⟩ rfl (q0 := 0) rfl (T := TX2) (N := 12) rfl gk_ok0 trivial [0, 1, 2, 3, 4, 5, 6, 7] rfl (by decide) [] rfl (by decide) (by decide) rfl (Nat.le_of_ble_eq_true rfl) dX2_sacks_5 ⟨(Nat.le_of_ble_eq_true rfl), (Nat.le_of_ble_eq_true rfl)⟩ (fun r5 u5 hp5 => ?_)
  obtain rfl : r5 = (nI (M 11 0)) := hp5.1
  have hF5 : u5 = upd F 0 (nI 0) := hp5.2
  have hs5 : gr_st u5 B M := by rw [hF5]; exact gr_st_0 hs
  have hT5 : u5 0 = nI 0 := by rw [hF5, pk_us]
  show gk_C p l e ({ frames := 1, cells := 0, slots := 0, locals := 21 } : Room) s m ([.ref h] : List Value).toArray below meth c 1 D A Q 0 0 (gd_W cI h q u5 B f kp g) [(0, .ref h)] 8 [.int ((nI (M 11 0)))]
  exact RET _ _ _ _ _ _ (u5, B, f, kp, g) dX2_sacks_8 rfl ⟨rfl, hs5, hn, hT5⟩ rfl (Nat.le_of_ble_eq_true rfl) (Nat.le_of_ble_eq_true rfl)
set_option maxRecDepth 100000 in
set_option maxHeartbeats 1000000 in
theorem c2_rule (l : Launch) (D : va_G) (cI cZ cJ : ClassId) (h : Nat) (q : Nat → Nat) (F : Nat → Int32) (B : Nat → Nat → Int32) (f kp g : Nat → Int32) (M : gm_M) (wf : gm_wf M) (hs : gr_st F B M) (hn : gr_now f M)  : gk_I l yX2_rule wsX2_rule ({ frames := 1, cells := 0, slots := 0, locals := 21 } : Room) D (g_T cI cZ cJ) gk_E0 [.ref h] (gd_W cI h q F B f kp g) 0 0 (fun (r : Int32) (u : gd_U) => r = nI (M 14 0) ∧ gd_R u M 0) (fun u => (gd_X cI h q u)) := by
  refine gk_I_of (ty := .int) (cc := cX2_rule) (nL := 1) (by decide +kernel) rfl (Nat.le_of_ble_eq_true rfl) ?_
  intro p e s m below meth c A Q hnm hE G RET
  obtain ⟨hz1, hz2, hz3, hz4, hz5, hz6, hz7, hz8⟩ := id wf
  have hinX2 : ∀ w ∈ wsX20, w ∈ wsX2_rule := fun w h9 => (List.mem_cons_of_mem _ (List.mem_append_right _ h9))
  have k51 := G.2.2.2.2.1 (.fieldLink RX2 51 "GustMillModel" "rule" "I") (List.mem_cons_of_mem _ (List.mem_append_left _ (List.mem_of_getElem? (i := 0) rfl)))
  refine gk_aload_n G dX2_rule_0 0 rfl ?_
  refine gk_aload_n G dX2_rule_1 0 rfl ?_
  refine gk_get (v' := .int (nI (M 14 0))) G hinX2 (q0 := 0) rfl rfl 4 (by decide) k51 rfl (congrArg Value.int (hs.2.1)) dX2_rule_2 ?_
  refine gk_callIV (wr := []) G (c2_told l D cI cZ cJ h q F B f kp g M (nI (M 14 0))) gX2_rule_X2_told rfl 1 (by decide +kernel) rfl rfl ⟨(Nat.le_of_ble_eq_true rfl), (Nat.le_of_ble_eq_true rfl)⟩ rfl (q0 := 0) rfl (T := TX2) (N := 12) rfl gk_ok0 trivial [0, 1, 2, 3, 4, 5, 6, 7] rfl (by decide) [] rfl (by decide) (by decide) rfl (Nat.le_of_ble_eq_true rfl) dX2_rule_5 ⟨(Nat.le_of_ble_eq_true rfl), (Nat.le_of_ble_eq_true rfl)⟩ (fun r5 u5 hp5 => ?_)
  obtain rfl : r5 = (nI (M 14 0)) := hp5.1
  have hF5 : u5 = upd F 0 (nI 0) := hp5.2
  have hs5 : gr_st u5 B M := by rw [hF5]; exact gr_st_0 hs
  have hT5 : u5 0 = nI 0 := by rw [hF5, pk_us]
  show gk_C p l e ({ frames := 1, cells := 0, slots := 0, locals := 21 } : Room) s m ([.ref h] : List Value).toArray below meth c 1 D A Q 0 0 (gd_W cI h q u5 B f kp g) [(0, .ref h)] 8 [.int ((nI (M 14 0)))]
  exact RET _ _ _ _ _ _ (u5, B, f, kp, g) dX2_rule_8 rfl ⟨rfl, hs5, hn, hT5⟩ rfl (Nat.le_of_ble_eq_true rfl) (Nat.le_of_ble_eq_true rfl)
set_option maxRecDepth 100000 in
set_option maxHeartbeats 1000000 in
theorem c2_wind (l : Launch) (D : va_G) (cI cZ cJ : ClassId) (h : Nat) (q : Nat → Nat) (F : Nat → Int32) (B : Nat → Nat → Int32) (f kp g : Nat → Int32) (M : gm_M) (wf : gm_wf M) (hs : gr_st F B M) (hn : gr_now f M) (hh : M 9 0 < 2000000) : gk_I l yX2_wind wsX2_wind ({ frames := 1, cells := 0, slots := 0, locals := 21 } : Room) D (g_T cI cZ cJ) gk_E0 [.ref h] (gd_W cI h q F B f kp g) 0 0 (fun (r : Int32) (u : gd_U) => r = nI (gm_wnd M) ∧ gd_R u M 0) (fun u => (gd_X cI h q u)) := by
  refine gk_I_of (ty := .int) (cc := cX2_wind) (nL := 1) (by decide +kernel) rfl (Nat.le_of_ble_eq_true rfl) ?_
  intro p e s m below meth c A Q hnm hE G RET
  obtain ⟨hz1, hz2, hz3, hz4, hz5, hz6, hz7, hz8⟩ := id wf
  have hinX2 : ∀ w ∈ wsX20, w ∈ wsX2_wind := fun w h9 => (List.mem_cons_of_mem _ (List.mem_append_right _ h9))
  have k13 := G.2.2.2.2.1 (.fieldLink RX2 13 "GustMillModel" "wind" "[I") (List.mem_cons_of_mem _ (List.mem_append_left _ (List.mem_of_getElem? (i := 0) rfl)))
  have k22 := G.2.2.2.2.1 (.fieldLink RX2 22 "GustMillModel" "now" "[I") (List.mem_cons_of_mem _ (List.mem_append_left _ (List.mem_of_getElem? (i := 1) rfl)))
  refine gk_aload_n G dX2_wind_0 0 rfl ?_
  refine gk_aload_n G dX2_wind_1 0 rfl ?_
  refine gk_get (v' := .ref (q 3)) G hinX2 (q0 := 0) rfl rfl 3 (by decide) k13 rfl rfl dX2_wind_2 ?_
  refine gk_aload_n G dX2_wind_5 0 rfl ?_
  refine gk_get (v' := .ref (q 9)) G hinX2 (q0 := 0) rfl rfl 9 (by decide) k22 rfl rfl dX2_wind_6 ?_
  refine gk_iconst (v := nI 0) G dX2_wind_9 (by decide) ?_
  refine gk_iald (v := nI (M 9 0)) G (q0 := 5) (t0 := 0) rfl rfl 0 rfl (by omega) (by decide) hn.1 dX2_wind_10 ?_
  refine gk_bipush (v := nI 12) G dX2_wind_11 (by decide) ?_
  refine gk_irem (v := nI (M 9 0 % 12)) G dX2_wind_13 (fun q => by rw [gm_0 (by decide)] at q; omega) (pk_rem (by omega) (by decide) (by decide)) ?_
  refine gk_iald (v := nI (gm_wnd M)) G (q0 := 2) (t0 := 0) rfl rfl (M 9 0 % 12) rfl (Nat.mod_lt _ (by decide)) (by decide) (hs.2.2.2.2.2.1 _ (Nat.mod_lt _ (by decide))) dX2_wind_14 ?_
  refine gk_callIV (wr := []) G (c2_told l D cI cZ cJ h q F B f kp g M (nI (gm_wnd M))) gX2_wind_X2_told rfl 1 (by decide +kernel) rfl rfl ⟨(Nat.le_of_ble_eq_true rfl), (Nat.le_of_ble_eq_true rfl)⟩ rfl (q0 := 0) rfl (T := TX2) (N := 12) rfl gk_ok0 trivial [0, 1, 2, 3, 4, 5, 6, 7] rfl (by decide) [] rfl (by decide) (by decide) rfl (Nat.le_of_ble_eq_true rfl) dX2_wind_15 ⟨(Nat.le_of_ble_eq_true rfl), (Nat.le_of_ble_eq_true rfl)⟩ (fun r15 u15 hp15 => ?_)
  obtain rfl : r15 = (nI (gm_wnd M)) := hp15.1
  have hF15 : u15 = upd F 0 (nI 0) := hp15.2
  have hs15 : gr_st u15 B M := by rw [hF15]; exact gr_st_0 hs
  have hT15 : u15 0 = nI 0 := by rw [hF15, pk_us]
  show gk_C p l e ({ frames := 1, cells := 0, slots := 0, locals := 21 } : Room) s m ([.ref h] : List Value).toArray below meth c 1 D A Q 0 0 (gd_W cI h q u15 B f kp g) [(0, .ref h)] 18 [.int ((nI (gm_wnd M)))]
  exact RET _ _ _ _ _ _ (u15, B, f, kp, g) dX2_wind_18 rfl ⟨rfl, hs15, hn, hT15⟩ rfl (Nat.le_of_ble_eq_true rfl) (Nat.le_of_ble_eq_true rfl)
set_option maxRecDepth 100000 in
set_option maxHeartbeats 1000000 in
theorem c2_sackOn_no (l : Launch) (D : va_G) (cI cZ cJ : ClassId) (h : Nat) (q : Nat → Nat) (F : Nat → Int32) (B : Nat → Nat → Int32) (f kp g : Nat → Int32) (M : gm_M) (p0 : Int32) (wf : gm_wf M) (hs : gr_st F B M) (hn : gr_now f M) (hb : ¬ gm_rg p0 0 (M 10 0)) : gk_I l yX2_sackOn wsX2_sackOn ({ frames := 2, cells := 0, slots := 0, locals := 43 } : Room) D (g_T cI cZ cJ) gk_E0 [.ref h, .int p0] (gd_W cI h q F B f kp g) 0 0 (fun (r : Int32) (u : gd_U) => r = nI 0 ∧ gd_R u M 1) (fun u => (gd_X cI h q u)) := by
  refine gk_I_of (ty := .int) (cc := cX2_sackOn) (nL := 2) (by decide +kernel) rfl (Nat.le_of_ble_eq_true rfl) ?_
  intro p e s m below meth c A Q hnm hE G RET
  obtain ⟨hz1, hz2, hz3, hz4, hz5, hz6, hz7, hz8⟩ := id wf
  have hinX2 : ∀ w ∈ wsX20, w ∈ wsX2_sackOn := fun w h9 => (List.mem_cons_of_mem _ (List.mem_append_right _ h9))
  have k31 := G.2.2.2.2.1 (.fieldLink RX2 31 "GustMillModel" "thrown" "I") (List.mem_cons_of_mem _ (List.mem_append_left _ (List.mem_of_getElem? (i := 0) rfl)))
  refine gk_aload_n G dX2_sackOn_0 0 rfl ?_
  refine gk_iconst (v := nI 0) G dX2_sackOn_1 (by decide) ?_
  refine gk_topi (fun v2 ev2 => ?_)
  refine gk_put (w' := (gd_W cI h q (upd F 0 v2) B f kp g)) G hinX2 tyX2_ok nmX2 (q0 := 0) rfl rfl 0 (by decide) k31 rfl rfl rfl (Nat.le_of_ble_eq_true rfl) rfl dX2_sackOn_2 ?_
  generalize eF2 : upd F 0 v2 = F2
  have hsT : gr_st F2 B M := by rw [← eF2]; exact gr_st_0 hs
  have hT : F2 0 = nI 0 := by rw [← eF2, pk_us]; exact ev2
  refine gk_aload_n G dX2_sackOn_5 0 rfl ?_
  refine gk_iload_n G dX2_sackOn_6 1 rfl ?_
  refine gk_callIV (wr := []) G (c2_isStone_no l D cI cZ cJ h q F2 B f kp g M p0 wf hsT hb) gX2_sackOn_X2_isStone rfl 1 (by decide +kernel) rfl rfl ⟨(Nat.le_of_ble_eq_true rfl), (Nat.le_of_ble_eq_true rfl)⟩ rfl (q0 := 0) rfl (T := TX2) (N := 12) rfl gk_ok0 trivial [0, 1, 2, 3, 4, 5, 6, 7] rfl (by decide) [] rfl (by decide) (by decide) rfl (Nat.le_of_ble_eq_true rfl) dX2_sackOn_7 ⟨(Nat.le_of_ble_eq_true rfl), (Nat.le_of_ble_eq_true rfl)⟩ (fun r7 u7 hp7 => ?_)
  obtain rfl : r7 = nI 0 := hp7
  show gk_C p l e ({ frames := 2, cells := 0, slots := 0, locals := 43 } : Room) s m ([.ref h, .int p0] : List Value).toArray below meth c 2 D A Q 0 0 (gd_W cI h q F2 B f kp g) [(0, .ref h), (1, .int p0)] 10 [.int (nI 0)]
  refine gk_if_eq (tgt := 21) G dX2_sackOn_10 (by decide) (fun c_10 => ?_) (fun c_10 => ?_)
  · replace c_10 := (nI_eq (a := 0) (b := 0) (by omega) (by omega)).mp c_10
    refine gk_aload_n G dX2_sackOn_21 0 rfl ?_
    refine gk_iconst (v := nI 1) G dX2_sackOn_22 (by decide) ?_
    refine gk_callIV (wr := []) G (c2_fail l D cI cZ cJ h q F2 B f kp g M (nI 1)) gX2_sackOn_X2_fail rfl 1 (by decide +kernel) rfl rfl ⟨(Nat.le_of_ble_eq_true rfl), (Nat.le_of_ble_eq_true rfl)⟩ rfl (q0 := 0) rfl (T := TX2) (N := 12) rfl gk_ok0 trivial [0, 1, 2, 3, 4, 5, 6, 7] rfl (by decide) [] rfl (by decide) (by decide) rfl (Nat.le_of_ble_eq_true rfl) dX2_sackOn_23 ⟨(Nat.le_of_ble_eq_true rfl), (Nat.le_of_ble_eq_true rfl)⟩ (fun r23 u23 hp23 => ?_)
    obtain rfl : r23 = nI 0 := hp23.1
    have hF23 : u23 = upd F2 0 (nI 1) := hp23.2
    have hs23 : gr_st u23 B M := by rw [hF23]; exact gr_st_0 hsT
    have hT23 : u23 0 = nI 1 := by rw [hF23, pk_us]
    show gk_C p l e ({ frames := 2, cells := 0, slots := 0, locals := 43 } : Room) s m ([.ref h, .int p0] : List Value).toArray below meth c 2 D A Q 0 0 (gd_W cI h q u23 B f kp g) [(0, .ref h), (1, .int p0)] 26 [.int (nI 0)]
    exact RET _ _ _ _ _ _ (u23, B, f, kp, g) dX2_sackOn_26 rfl ⟨rfl, hs23, hn, hT23⟩ rfl (Nat.le_of_ble_eq_true rfl) (Nat.le_of_ble_eq_true rfl)
  · replace c_10 := (not_congr (nI_eq (a := 0) (b := 0) (by omega) (by omega))).mp c_10
    exact absurd c_10 (by decide)
set_option maxRecDepth 100000 in
set_option maxHeartbeats 1000000 in
theorem c2_sackOn_ok (l : Launch) (D : va_G) (cI cZ cJ : ClassId) (h : Nat) (q : Nat → Nat) (F : Nat → Int32) (B : Nat → Nat → Int32) (f kp g : Nat → Int32) (M : gm_M) (v : Nat) (wf : gm_wf M) (hs : gr_st F B M) (hn : gr_now f M) (hv : v < M 10 0) : gk_I l yX2_sackOn wsX2_sackOn ({ frames := 2, cells := 0, slots := 0, locals := 43 } : Room) D (g_T cI cZ cJ) gk_E0 [.ref h, .int (nI v)] (gd_W cI h q F B f kp g) 0 0 (fun (r : Int32) (u : gd_U) => r = gm_e (gm_who M v (M 11 0)) ∧ gd_R u M 0) (fun u => (gd_X cI h q u)) := by
  refine gk_I_of (ty := .int) (cc := cX2_sackOn) (nL := 2) (by decide +kernel) rfl (Nat.le_of_ble_eq_true rfl) ?_
  intro p e s m below meth c A Q hnm hE G RET
  obtain ⟨hz1, hz2, hz3, hz4, hz5, hz6, hz7, hz8⟩ := id wf
  have hinX2 : ∀ w ∈ wsX20, w ∈ wsX2_sackOn := fun w h9 => (List.mem_cons_of_mem _ (List.mem_append_right _ h9))
  have k31 := G.2.2.2.2.1 (.fieldLink RX2 31 "GustMillModel" "thrown" "I") (List.mem_cons_of_mem _ (List.mem_append_left _ (List.mem_of_getElem? (i := 0) rfl)))
  refine gk_aload_n G dX2_sackOn_0 0 rfl ?_
  refine gk_iconst (v := nI 0) G dX2_sackOn_1 (by decide) ?_
  refine gk_topi (fun v2 ev2 => ?_)
  refine gk_put (w' := (gd_W cI h q (upd F 0 v2) B f kp g)) G hinX2 tyX2_ok nmX2 (q0 := 0) rfl rfl 0 (by decide) k31 rfl rfl rfl (Nat.le_of_ble_eq_true rfl) rfl dX2_sackOn_2 ?_
  generalize eF2 : upd F 0 v2 = F2
  have hsT : gr_st F2 B M := by rw [← eF2]; exact gr_st_0 hs
  have hT : F2 0 = nI 0 := by rw [← eF2, pk_us]; exact ev2
  refine gk_aload_n G dX2_sackOn_5 0 rfl ?_
  refine gk_iload_n G dX2_sackOn_6 1 rfl ?_
  refine gk_callIV (wr := []) G (c2_isStone_ok l D cI cZ cJ h q F2 B f kp g M v wf hsT (by omega)) gX2_sackOn_X2_isStone rfl 1 (by decide +kernel) rfl rfl ⟨(Nat.le_of_ble_eq_true rfl), (Nat.le_of_ble_eq_true rfl)⟩ rfl (q0 := 0) rfl (T := TX2) (N := 12) rfl gk_ok0 trivial [0, 1, 2, 3, 4, 5, 6, 7] rfl (by decide) [] rfl (by decide) (by decide) rfl (Nat.le_of_ble_eq_true rfl) dX2_sackOn_7 ⟨(Nat.le_of_ble_eq_true rfl), (Nat.le_of_ble_eq_true rfl)⟩ (fun r7 u7 hp7 => ?_)
  obtain rfl : r7 = nI 1 := hp7
  show gk_C p l e ({ frames := 2, cells := 0, slots := 0, locals := 43 } : Room) s m ([.ref h, .int (nI v)] : List Value).toArray below meth c 2 D A Q 0 0 (gd_W cI h q F2 B f kp g) [(0, .ref h), (1, .int (nI v))] 10 [.int (nI 1)]
  refine gk_if_eq (tgt := 21) G dX2_sackOn_10 (by decide) (fun c_10 => ?_) (fun c_10 => ?_)
  · replace c_10 := (nI_eq (a := 1) (b := 0) (by omega) (by omega)).mp c_10
    exact absurd c_10 (by decide)
  · replace c_10 := (not_congr (nI_eq (a := 1) (b := 0) (by omega) (by omega))).mp c_10
    refine gk_aload_n G dX2_sackOn_13 0 rfl ?_
    refine gk_iload_n G dX2_sackOn_14 1 rfl ?_
    refine gk_callIV (wr := []) G (c2_on l D cI cZ cJ h q F2 B f kp g M v wf hsT hn (by omega)) gX2_sackOn_X2_on rfl 1 (by decide +kernel) rfl rfl ⟨(Nat.le_of_ble_eq_true rfl), (Nat.le_of_ble_eq_true rfl)⟩ rfl (q0 := 0) rfl (T := TX2) (N := 12) rfl gk_ok0 trivial [0, 1, 2, 3, 4, 5, 6, 7] rfl (by decide) [] rfl (by decide) (by decide) rfl (Nat.le_of_ble_eq_true rfl) dX2_sackOn_15 ⟨(Nat.le_of_ble_eq_true rfl), (Nat.le_of_ble_eq_true rfl)⟩ (fun r15 u15 hp15 => ?_)
    obtain rfl : r15 = gm_e (gm_who M v (M 11 0)) := hp15
    show gk_C p l e ({ frames := 2, cells := 0, slots := 0, locals := 43 } : Room) s m ([.ref h, .int (nI v)] : List Value).toArray below meth c 2 D A Q 0 0 (gd_W cI h q F2 B f kp g) [(0, .ref h), (1, .int (nI v))] 18 [.int (gm_e (gm_who M v (M 11 0)))]
    refine gk_goto (tgt := 26) G dX2_sackOn_18 (by decide) ?_
    exact RET _ _ _ _ _ _ (F2, B, f, kp, g) dX2_sackOn_26 rfl ⟨rfl, hsT, hn, hT⟩ rfl (Nat.le_of_ble_eq_true rfl) (Nat.le_of_ble_eq_true rfl)
set_option maxRecDepth 100000 in
set_option maxHeartbeats 1000000 in
theorem c2_of_on (l : Launch) (D : va_G) (cI cZ cJ : ClassId) (h : Nat) (q : Nat → Nat) (F : Nat → Int32) (B : Nat → Nat → Int32) (f kp g : Nat → Int32) (M : gm_M) (v : Nat) (wf : gm_wf M) (hs : gr_st F B M) (hn : gr_now f M) (hv : v < M 11 0) : gk_I l yX2_of wsX2_of ({ frames := 2, cells := 0, slots := 0, locals := 43 } : Room) D (g_T cI cZ cJ) gk_E0 [.ref h, .int (nI v), .int (nI 35)] (gd_W cI h q F B f kp g) 0 0 (fun (r : Int32) (u : gd_U) => r = gm_e (M 7 v) ∧ gd_R u M 0) (fun u => (gd_X cI h q u)) := by
  refine gk_I_of (ty := .int) (cc := cX2_of) (nL := 3) (by decide +kernel) rfl (Nat.le_of_ble_eq_true rfl) ?_
  intro p e s m below meth c A Q hnm hE G RET
  obtain ⟨hz1, hz2, hz3, hz4, hz5, hz6, hz7, hz8⟩ := id wf
  have hinX2 : ∀ w ∈ wsX20, w ∈ wsX2_of := fun w h9 => (List.mem_cons_of_mem _ (List.mem_append_right _ h9))
  have k22 := G.2.2.2.2.1 (.fieldLink RX2 22 "GustMillModel" "now" "[I") (List.mem_cons_of_mem _ (List.mem_append_left _ (List.mem_of_getElem? (i := 1) rfl)))
  have k31 := G.2.2.2.2.1 (.fieldLink RX2 31 "GustMillModel" "thrown" "I") (List.mem_cons_of_mem _ (List.mem_append_left _ (List.mem_of_getElem? (i := 0) rfl)))
  refine gk_aload_n G dX2_of_0 0 rfl ?_
  refine gk_iconst (v := nI 0) G dX2_of_1 (by decide) ?_
  refine gk_topi (fun v2 ev2 => ?_)
  refine gk_put (w' := (gd_W cI h q (upd F 0 v2) B f kp g)) G hinX2 tyX2_ok nmX2 (q0 := 0) rfl rfl 0 (by decide) k31 rfl rfl rfl (Nat.le_of_ble_eq_true rfl) rfl dX2_of_2 ?_
  generalize eF2 : upd F 0 v2 = F2
  have hsT : gr_st F2 B M := by rw [← eF2]; exact gr_st_0 hs
  have hT : F2 0 = nI 0 := by rw [← eF2, pk_us]; exact ev2
  refine gk_aload_n G dX2_of_5 0 rfl ?_
  refine gk_iload_n G dX2_of_6 1 rfl ?_
  refine gk_callIV (wr := []) G (c2_isSack_ok l D cI cZ cJ h q F2 B f kp g M v wf hsT (by omega)) gX2_of_X2_isSack rfl 1 (by decide +kernel) rfl rfl ⟨(Nat.le_of_ble_eq_true rfl), (Nat.le_of_ble_eq_true rfl)⟩ rfl (q0 := 0) rfl (T := TX2) (N := 12) rfl gk_ok0 trivial [0, 1, 2, 3, 4, 5, 6, 7] rfl (by decide) [] rfl (by decide) (by decide) rfl (Nat.le_of_ble_eq_true rfl) dX2_of_7 ⟨(Nat.le_of_ble_eq_true rfl), (Nat.le_of_ble_eq_true rfl)⟩ (fun r7 u7 hp7 => ?_)
  obtain rfl : r7 = nI 1 := hp7
  show gk_C p l e ({ frames := 2, cells := 0, slots := 0, locals := 43 } : Room) s m ([.ref h, .int (nI v), .int (nI 35)] : List Value).toArray below meth c 3 D A Q 0 0 (gd_W cI h q F2 B f kp g) [(0, .ref h), (1, .int (nI v)), (2, .int (nI 35))] 10 [.int (nI 1)]
  refine gk_if_eq (tgt := 24) G dX2_of_10 (by decide) (fun c_10 => ?_) (fun c_10 => ?_)
  · replace c_10 := (nI_eq (a := 1) (b := 0) (by omega) (by omega)).mp c_10
    exact absurd c_10 (by decide)
  · replace c_10 := (not_congr (nI_eq (a := 1) (b := 0) (by omega) (by omega))).mp c_10
    refine gk_aload_n G dX2_of_13 0 rfl ?_
    refine gk_get (v' := .ref (q 9)) G hinX2 (q0 := 0) rfl rfl 9 (by decide) k22 rfl rfl dX2_of_14 ?_
    refine gk_iload_n G dX2_of_17 2 rfl ?_
    refine gk_iload_n G dX2_of_18 1 rfl ?_
    refine gk_iadd (v := nI (35 + v)) G dX2_of_19 (nI_add 35 v) ?_
    refine gk_iald (v := gm_e (M 7 v)) G (q0 := 5) (t0 := 0) rfl rfl (35 + v) rfl (by omega) (by decide) (hn.2.2.2.2.2 v (by omega)) dX2_of_20 ?_
    refine gk_goto (tgt := 29) G dX2_of_21 (by decide) ?_
    exact RET _ _ _ _ _ _ (F2, B, f, kp, g) dX2_of_29 rfl ⟨rfl, hsT, hn, hT⟩ rfl (Nat.le_of_ble_eq_true rfl) (Nat.le_of_ble_eq_true rfl)
set_option maxRecDepth 100000 in
set_option maxHeartbeats 1000000 in
theorem c2_of_left (l : Launch) (D : va_G) (cI cZ cJ : ClassId) (h : Nat) (q : Nat → Nat) (F : Nat → Int32) (B : Nat → Nat → Int32) (f kp g : Nat → Int32) (M : gm_M) (v : Nat) (wf : gm_wf M) (hs : gr_st F B M) (hn : gr_now f M) (hv : v < M 11 0) : gk_I l yX2_of wsX2_of ({ frames := 2, cells := 0, slots := 0, locals := 43 } : Room) D (g_T cI cZ cJ) gk_E0 [.ref h, .int (nI v), .int (nI 3)] (gd_W cI h q F B f kp g) 0 0 (fun (r : Int32) (u : gd_U) => r = nI (M 5 v) ∧ gd_R u M 0) (fun u => (gd_X cI h q u)) := by
  refine gk_I_of (ty := .int) (cc := cX2_of) (nL := 3) (by decide +kernel) rfl (Nat.le_of_ble_eq_true rfl) ?_
  intro p e s m below meth c A Q hnm hE G RET
  obtain ⟨hz1, hz2, hz3, hz4, hz5, hz6, hz7, hz8⟩ := id wf
  have hinX2 : ∀ w ∈ wsX20, w ∈ wsX2_of := fun w h9 => (List.mem_cons_of_mem _ (List.mem_append_right _ h9))
  have k22 := G.2.2.2.2.1 (.fieldLink RX2 22 "GustMillModel" "now" "[I") (List.mem_cons_of_mem _ (List.mem_append_left _ (List.mem_of_getElem? (i := 1) rfl)))
  have k31 := G.2.2.2.2.1 (.fieldLink RX2 31 "GustMillModel" "thrown" "I") (List.mem_cons_of_mem _ (List.mem_append_left _ (List.mem_of_getElem? (i := 0) rfl)))
  refine gk_aload_n G dX2_of_0 0 rfl ?_
  refine gk_iconst (v := nI 0) G dX2_of_1 (by decide) ?_
  refine gk_topi (fun v2 ev2 => ?_)
  refine gk_put (w' := (gd_W cI h q (upd F 0 v2) B f kp g)) G hinX2 tyX2_ok nmX2 (q0 := 0) rfl rfl 0 (by decide) k31 rfl rfl rfl (Nat.le_of_ble_eq_true rfl) rfl dX2_of_2 ?_
  generalize eF2 : upd F 0 v2 = F2
  have hsT : gr_st F2 B M := by rw [← eF2]; exact gr_st_0 hs
  have hT : F2 0 = nI 0 := by rw [← eF2, pk_us]; exact ev2
  refine gk_aload_n G dX2_of_5 0 rfl ?_
  refine gk_iload_n G dX2_of_6 1 rfl ?_
  refine gk_callIV (wr := []) G (c2_isSack_ok l D cI cZ cJ h q F2 B f kp g M v wf hsT (by omega)) gX2_of_X2_isSack rfl 1 (by decide +kernel) rfl rfl ⟨(Nat.le_of_ble_eq_true rfl), (Nat.le_of_ble_eq_true rfl)⟩ rfl (q0 := 0) rfl (T := TX2) (N := 12) rfl gk_ok0 trivial [0, 1, 2, 3, 4, 5, 6, 7] rfl (by decide) [] rfl (by decide) (by decide) rfl (Nat.le_of_ble_eq_true rfl) dX2_of_7 ⟨(Nat.le_of_ble_eq_true rfl), (Nat.le_of_ble_eq_true rfl)⟩ (fun r7 u7 hp7 => ?_)
  obtain rfl : r7 = nI 1 := hp7
  show gk_C p l e ({ frames := 2, cells := 0, slots := 0, locals := 43 } : Room) s m ([.ref h, .int (nI v), .int (nI 3)] : List Value).toArray below meth c 3 D A Q 0 0 (gd_W cI h q F2 B f kp g) [(0, .ref h), (1, .int (nI v)), (2, .int (nI 3))] 10 [.int (nI 1)]
  refine gk_if_eq (tgt := 24) G dX2_of_10 (by decide) (fun c_10 => ?_) (fun c_10 => ?_)
  · replace c_10 := (nI_eq (a := 1) (b := 0) (by omega) (by omega)).mp c_10
    exact absurd c_10 (by decide)
  · replace c_10 := (not_congr (nI_eq (a := 1) (b := 0) (by omega) (by omega))).mp c_10
    refine gk_aload_n G dX2_of_13 0 rfl ?_
    refine gk_get (v' := .ref (q 9)) G hinX2 (q0 := 0) rfl rfl 9 (by decide) k22 rfl rfl dX2_of_14 ?_
    refine gk_iload_n G dX2_of_17 2 rfl ?_
    refine gk_iload_n G dX2_of_18 1 rfl ?_
    refine gk_iadd (v := nI (3 + v)) G dX2_of_19 (nI_add 3 v) ?_
    refine gk_iald (v := nI (M 5 v)) G (q0 := 5) (t0 := 0) rfl rfl (3 + v) rfl (by omega) (by decide) (hn.2.2.2.1 v (by omega)) dX2_of_20 ?_
    refine gk_goto (tgt := 29) G dX2_of_21 (by decide) ?_
    exact RET _ _ _ _ _ _ (F2, B, f, kp, g) dX2_of_29 rfl ⟨rfl, hsT, hn, hT⟩ rfl (Nat.le_of_ble_eq_true rfl) (Nat.le_of_ble_eq_true rfl)
set_option maxRecDepth 100000 in
set_option maxHeartbeats 1000000 in
theorem c2_of_done (l : Launch) (D : va_G) (cI cZ cJ : ClassId) (h : Nat) (q : Nat → Nat) (F : Nat → Int32) (B : Nat → Nat → Int32) (f kp g : Nat → Int32) (M : gm_M) (v : Nat) (wf : gm_wf M) (hs : gr_st F B M) (hn : gr_now f M) (hv : v < M 11 0) : gk_I l yX2_of wsX2_of ({ frames := 2, cells := 0, slots := 0, locals := 43 } : Room) D (g_T cI cZ cJ) gk_E0 [.ref h, .int (nI v), .int (nI 19)] (gd_W cI h q F B f kp g) 0 0 (fun (r : Int32) (u : gd_U) => r = gm_e (M 8 v) ∧ gd_R u M 0) (fun u => (gd_X cI h q u)) := by
  refine gk_I_of (ty := .int) (cc := cX2_of) (nL := 3) (by decide +kernel) rfl (Nat.le_of_ble_eq_true rfl) ?_
  intro p e s m below meth c A Q hnm hE G RET
  obtain ⟨hz1, hz2, hz3, hz4, hz5, hz6, hz7, hz8⟩ := id wf
  have hinX2 : ∀ w ∈ wsX20, w ∈ wsX2_of := fun w h9 => (List.mem_cons_of_mem _ (List.mem_append_right _ h9))
  have k22 := G.2.2.2.2.1 (.fieldLink RX2 22 "GustMillModel" "now" "[I") (List.mem_cons_of_mem _ (List.mem_append_left _ (List.mem_of_getElem? (i := 1) rfl)))
  have k31 := G.2.2.2.2.1 (.fieldLink RX2 31 "GustMillModel" "thrown" "I") (List.mem_cons_of_mem _ (List.mem_append_left _ (List.mem_of_getElem? (i := 0) rfl)))
  refine gk_aload_n G dX2_of_0 0 rfl ?_
  refine gk_iconst (v := nI 0) G dX2_of_1 (by decide) ?_
  refine gk_topi (fun v2 ev2 => ?_)
  refine gk_put (w' := (gd_W cI h q (upd F 0 v2) B f kp g)) G hinX2 tyX2_ok nmX2 (q0 := 0) rfl rfl 0 (by decide) k31 rfl rfl rfl (Nat.le_of_ble_eq_true rfl) rfl dX2_of_2 ?_
  generalize eF2 : upd F 0 v2 = F2
  have hsT : gr_st F2 B M := by rw [← eF2]; exact gr_st_0 hs
  have hT : F2 0 = nI 0 := by rw [← eF2, pk_us]; exact ev2
  refine gk_aload_n G dX2_of_5 0 rfl ?_
  refine gk_iload_n G dX2_of_6 1 rfl ?_
  refine gk_callIV (wr := []) G (c2_isSack_ok l D cI cZ cJ h q F2 B f kp g M v wf hsT (by omega)) gX2_of_X2_isSack rfl 1 (by decide +kernel) rfl rfl ⟨(Nat.le_of_ble_eq_true rfl), (Nat.le_of_ble_eq_true rfl)⟩ rfl (q0 := 0) rfl (T := TX2) (N := 12) rfl gk_ok0 trivial [0, 1, 2, 3, 4, 5, 6, 7] rfl (by decide) [] rfl (by decide) (by decide) rfl (Nat.le_of_ble_eq_true rfl) dX2_of_7 ⟨(Nat.le_of_ble_eq_true rfl), (Nat.le_of_ble_eq_true rfl)⟩ (fun r7 u7 hp7 => ?_)
  obtain rfl : r7 = nI 1 := hp7
  show gk_C p l e ({ frames := 2, cells := 0, slots := 0, locals := 43 } : Room) s m ([.ref h, .int (nI v), .int (nI 19)] : List Value).toArray below meth c 3 D A Q 0 0 (gd_W cI h q F2 B f kp g) [(0, .ref h), (1, .int (nI v)), (2, .int (nI 19))] 10 [.int (nI 1)]
  refine gk_if_eq (tgt := 24) G dX2_of_10 (by decide) (fun c_10 => ?_) (fun c_10 => ?_)
  · replace c_10 := (nI_eq (a := 1) (b := 0) (by omega) (by omega)).mp c_10
    exact absurd c_10 (by decide)
  · replace c_10 := (not_congr (nI_eq (a := 1) (b := 0) (by omega) (by omega))).mp c_10
    refine gk_aload_n G dX2_of_13 0 rfl ?_
    refine gk_get (v' := .ref (q 9)) G hinX2 (q0 := 0) rfl rfl 9 (by decide) k22 rfl rfl dX2_of_14 ?_
    refine gk_iload_n G dX2_of_17 2 rfl ?_
    refine gk_iload_n G dX2_of_18 1 rfl ?_
    refine gk_iadd (v := nI (19 + v)) G dX2_of_19 (nI_add 19 v) ?_
    refine gk_iald (v := gm_e (M 8 v)) G (q0 := 5) (t0 := 0) rfl rfl (19 + v) rfl (by omega) (by decide) (hn.2.2.2.2.1 v (by omega)) dX2_of_20 ?_
    refine gk_goto (tgt := 29) G dX2_of_21 (by decide) ?_
    exact RET _ _ _ _ _ _ (F2, B, f, kp, g) dX2_of_29 rfl ⟨rfl, hsT, hn, hT⟩ rfl (Nat.le_of_ble_eq_true rfl) (Nat.le_of_ble_eq_true rfl)
set_option maxRecDepth 100000 in
set_option maxHeartbeats 1000000 in
theorem c2_of_no (l : Launch) (D : va_G) (cI cZ cJ : ClassId) (h : Nat) (q : Nat → Nat) (F : Nat → Int32) (B : Nat → Nat → Int32) (f kp g : Nat → Int32) (M : gm_M) (p0 p1 : Int32) (wf : gm_wf M) (hs : gr_st F B M) (hn : gr_now f M) (hb : ¬ gm_rg p0 0 (M 11 0)) : gk_I l yX2_of wsX2_of ({ frames := 2, cells := 0, slots := 0, locals := 43 } : Room) D (g_T cI cZ cJ) gk_E0 [.ref h, .int p0, .int p1] (gd_W cI h q F B f kp g) 0 0 (fun (r : Int32) (u : gd_U) => r = nI 0 ∧ gd_R u M 1) (fun u => (gd_X cI h q u)) := by
  refine gk_I_of (ty := .int) (cc := cX2_of) (nL := 3) (by decide +kernel) rfl (Nat.le_of_ble_eq_true rfl) ?_
  intro p e s m below meth c A Q hnm hE G RET
  obtain ⟨hz1, hz2, hz3, hz4, hz5, hz6, hz7, hz8⟩ := id wf
  have hinX2 : ∀ w ∈ wsX20, w ∈ wsX2_of := fun w h9 => (List.mem_cons_of_mem _ (List.mem_append_right _ h9))
  have k31 := G.2.2.2.2.1 (.fieldLink RX2 31 "GustMillModel" "thrown" "I") (List.mem_cons_of_mem _ (List.mem_append_left _ (List.mem_of_getElem? (i := 0) rfl)))
  refine gk_aload_n G dX2_of_0 0 rfl ?_
  refine gk_iconst (v := nI 0) G dX2_of_1 (by decide) ?_
  refine gk_topi (fun v2 ev2 => ?_)
  refine gk_put (w' := (gd_W cI h q (upd F 0 v2) B f kp g)) G hinX2 tyX2_ok nmX2 (q0 := 0) rfl rfl 0 (by decide) k31 rfl rfl rfl (Nat.le_of_ble_eq_true rfl) rfl dX2_of_2 ?_
  generalize eF2 : upd F 0 v2 = F2
  have hsT : gr_st F2 B M := by rw [← eF2]; exact gr_st_0 hs
  have hT : F2 0 = nI 0 := by rw [← eF2, pk_us]; exact ev2
  refine gk_aload_n G dX2_of_5 0 rfl ?_
  refine gk_iload_n G dX2_of_6 1 rfl ?_
  refine gk_callIV (wr := []) G (c2_isSack_no l D cI cZ cJ h q F2 B f kp g M p0 wf hsT hb) gX2_of_X2_isSack rfl 1 (by decide +kernel) rfl rfl ⟨(Nat.le_of_ble_eq_true rfl), (Nat.le_of_ble_eq_true rfl)⟩ rfl (q0 := 0) rfl (T := TX2) (N := 12) rfl gk_ok0 trivial [0, 1, 2, 3, 4, 5, 6, 7] rfl (by decide) [] rfl (by decide) (by decide) rfl (Nat.le_of_ble_eq_true rfl) dX2_of_7 ⟨(Nat.le_of_ble_eq_true rfl), (Nat.le_of_ble_eq_true rfl)⟩ (fun r7 u7 hp7 => ?_)
  obtain rfl : r7 = nI 0 := hp7
  show gk_C p l e ({ frames := 2, cells := 0, slots := 0, locals := 43 } : Room) s m ([.ref h, .int p0, .int p1] : List Value).toArray below meth c 3 D A Q 0 0 (gd_W cI h q F2 B f kp g) [(0, .ref h), (1, .int p0), (2, .int p1)] 10 [.int (nI 0)]
  refine gk_if_eq (tgt := 24) G dX2_of_10 (by decide) (fun c_10 => ?_) (fun c_10 => ?_)
  · replace c_10 := (nI_eq (a := 0) (b := 0) (by omega) (by omega)).mp c_10
    refine gk_aload_n G dX2_of_24 0 rfl ?_
    refine gk_iconst (v := nI 1) G dX2_of_25 (by decide) ?_
    refine gk_callIV (wr := []) G (c2_fail l D cI cZ cJ h q F2 B f kp g M (nI 1)) gX2_of_X2_fail rfl 1 (by decide +kernel) rfl rfl ⟨(Nat.le_of_ble_eq_true rfl), (Nat.le_of_ble_eq_true rfl)⟩ rfl (q0 := 0) rfl (T := TX2) (N := 12) rfl gk_ok0 trivial [0, 1, 2, 3, 4, 5, 6, 7] rfl (by decide) [] rfl (by decide) (by decide) rfl (Nat.le_of_ble_eq_true rfl) dX2_of_26 ⟨(Nat.le_of_ble_eq_true rfl), (Nat.le_of_ble_eq_true rfl)⟩ (fun r26 u26 hp26 => ?_)
    obtain rfl : r26 = nI 0 := hp26.1
    have hF26 : u26 = upd F2 0 (nI 1) := hp26.2
    have hs26 : gr_st u26 B M := by rw [hF26]; exact gr_st_0 hsT
    have hT26 : u26 0 = nI 1 := by rw [hF26, pk_us]
    show gk_C p l e ({ frames := 2, cells := 0, slots := 0, locals := 43 } : Room) s m ([.ref h, .int p0, .int p1] : List Value).toArray below meth c 3 D A Q 0 0 (gd_W cI h q u26 B f kp g) [(0, .ref h), (1, .int p0), (2, .int p1)] 29 [.int (nI 0)]
    exact RET _ _ _ _ _ _ (u26, B, f, kp, g) dX2_of_29 rfl ⟨rfl, hs26, hn, hT26⟩ rfl (Nat.le_of_ble_eq_true rfl) (Nat.le_of_ble_eq_true rfl)
  · replace c_10 := (not_congr (nI_eq (a := 0) (b := 0) (by omega) (by omega))).mp c_10
    exact absurd c_10 (by decide)
set_option maxRecDepth 100000 in
set_option maxHeartbeats 1000000 in
theorem c2_stoneOf_ok (l : Launch) (D : va_G) (cI cZ cJ : ClassId) (h : Nat) (q : Nat → Nat) (F : Nat → Int32) (B : Nat → Nat → Int32) (f kp g : Nat → Int32) (M : gm_M) (v : Nat) (wf : gm_wf M) (hs : gr_st F B M) (hn : gr_now f M) (hv : v < M 11 0) : gk_I l yX2_stoneOf wsX2_stoneOf ({ frames := 3, cells := 0, slots := 0, locals := 65 } : Room) D (g_T cI cZ cJ) gk_E0 [.ref h, .int (nI v)] (gd_W cI h q F B f kp g) 0 0 (fun (r : Int32) (u : gd_U) => r = gm_e (M 7 v) ∧ gd_R u M 0) (fun u => (gd_X cI h q u)) := by
  refine gk_I_of (ty := .int) (cc := cX2_stoneOf) (nL := 2) (by decide +kernel) rfl (Nat.le_of_ble_eq_true rfl) ?_
  intro p e s m below meth c A Q hnm hE G RET
  obtain ⟨hz1, hz2, hz3, hz4, hz5, hz6, hz7, hz8⟩ := id wf
  refine gk_aload_n G dX2_stoneOf_0 0 rfl ?_
  refine gk_iload_n G dX2_stoneOf_1 1 rfl ?_
  refine gk_bipush (v := nI 35) G dX2_stoneOf_2 (by decide) ?_
  refine gk_callIV (wr := []) G (c2_of_on l D cI cZ cJ h q F B f kp g M v wf hs hn hv) gX2_stoneOf_X2_of rfl 2 (by decide +kernel) rfl rfl ⟨(Nat.le_of_ble_eq_true rfl), (Nat.le_of_ble_eq_true rfl)⟩ rfl (q0 := 0) rfl (T := TX2) (N := 12) rfl gk_ok0 trivial [0, 1, 2, 3, 4, 5, 6, 7] rfl (by decide) [] rfl (by decide) (by decide) rfl (Nat.le_of_ble_eq_true rfl) dX2_stoneOf_4 ⟨(Nat.le_of_ble_eq_true rfl), (Nat.le_of_ble_eq_true rfl)⟩ (fun r4 u4 hp4 => ?_)
  obtain ⟨F4, B4, f4, kp4, g4⟩ := u4
  obtain rfl : r4 = gm_e (M 7 v) := hp4.1
  have hs4 : gr_st F4 B4 M := hp4.2.1
  have hn4 : gr_now f4 M := hp4.2.2.1
  have hT4 : F4 0 = nI 0 := hp4.2.2.2
  show gk_C p l e ({ frames := 3, cells := 0, slots := 0, locals := 65 } : Room) s m ([.ref h, .int (nI v)] : List Value).toArray below meth c 2 D A Q 0 0 (gd_W cI h q F4 B4 f4 kp4 g4) [(0, .ref h), (1, .int (nI v))] 7 [.int (gm_e (M 7 v))]
  exact RET _ _ _ _ _ _ (F4, B4, f4, kp4, g4) dX2_stoneOf_7 rfl ⟨rfl, hs4, hn4, hT4⟩ rfl (Nat.le_of_ble_eq_true rfl) (Nat.le_of_ble_eq_true rfl)
set_option maxRecDepth 100000 in
set_option maxHeartbeats 1000000 in
theorem c2_stoneOf_no (l : Launch) (D : va_G) (cI cZ cJ : ClassId) (h : Nat) (q : Nat → Nat) (F : Nat → Int32) (B : Nat → Nat → Int32) (f kp g : Nat → Int32) (M : gm_M) (p0 : Int32) (wf : gm_wf M) (hs : gr_st F B M) (hn : gr_now f M) (hb : ¬ gm_rg p0 0 (M 11 0)) : gk_I l yX2_stoneOf wsX2_stoneOf ({ frames := 3, cells := 0, slots := 0, locals := 65 } : Room) D (g_T cI cZ cJ) gk_E0 [.ref h, .int p0] (gd_W cI h q F B f kp g) 0 0 (fun (r : Int32) (u : gd_U) => r = nI 0 ∧ gd_R u M 1) (fun u => (gd_X cI h q u)) := by
  refine gk_I_of (ty := .int) (cc := cX2_stoneOf) (nL := 2) (by decide +kernel) rfl (Nat.le_of_ble_eq_true rfl) ?_
  intro p e s m below meth c A Q hnm hE G RET
  obtain ⟨hz1, hz2, hz3, hz4, hz5, hz6, hz7, hz8⟩ := id wf
  refine gk_aload_n G dX2_stoneOf_0 0 rfl ?_
  refine gk_iload_n G dX2_stoneOf_1 1 rfl ?_
  refine gk_bipush (v := nI 35) G dX2_stoneOf_2 (by decide) ?_
  refine gk_callIV (wr := []) G (c2_of_no l D cI cZ cJ h q F B f kp g M p0 (nI 35) wf hs hn hb) gX2_stoneOf_X2_of rfl 2 (by decide +kernel) rfl rfl ⟨(Nat.le_of_ble_eq_true rfl), (Nat.le_of_ble_eq_true rfl)⟩ rfl (q0 := 0) rfl (T := TX2) (N := 12) rfl gk_ok0 trivial [0, 1, 2, 3, 4, 5, 6, 7] rfl (by decide) [] rfl (by decide) (by decide) rfl (Nat.le_of_ble_eq_true rfl) dX2_stoneOf_4 ⟨(Nat.le_of_ble_eq_true rfl), (Nat.le_of_ble_eq_true rfl)⟩ (fun r4 u4 hp4 => ?_)
  obtain ⟨F4, B4, f4, kp4, g4⟩ := u4
  obtain rfl : r4 = nI 0 := hp4.1
  have hs4 : gr_st F4 B4 M := hp4.2.1
  have hn4 : gr_now f4 M := hp4.2.2.1
  have hT4 : F4 0 = nI 1 := hp4.2.2.2
  show gk_C p l e ({ frames := 3, cells := 0, slots := 0, locals := 65 } : Room) s m ([.ref h, .int p0] : List Value).toArray below meth c 2 D A Q 0 0 (gd_W cI h q F4 B4 f4 kp4 g4) [(0, .ref h), (1, .int p0)] 7 [.int (nI 0)]
  exact RET _ _ _ _ _ _ (F4, B4, f4, kp4, g4) dX2_stoneOf_7 rfl ⟨rfl, hs4, hn4, hT4⟩ rfl (Nat.le_of_ble_eq_true rfl) (Nat.le_of_ble_eq_true rfl)
set_option maxRecDepth 100000 in
set_option maxHeartbeats 1000000 in
theorem c2_leftOf_ok (l : Launch) (D : va_G) (cI cZ cJ : ClassId) (h : Nat) (q : Nat → Nat) (F : Nat → Int32) (B : Nat → Nat → Int32) (f kp g : Nat → Int32) (M : gm_M) (v : Nat) (wf : gm_wf M) (hs : gr_st F B M) (hn : gr_now f M) (hv : v < M 11 0) : gk_I l yX2_leftOf wsX2_leftOf ({ frames := 3, cells := 0, slots := 0, locals := 65 } : Room) D (g_T cI cZ cJ) gk_E0 [.ref h, .int (nI v)] (gd_W cI h q F B f kp g) 0 0 (fun (r : Int32) (u : gd_U) => r = nI (M 5 v) ∧ gd_R u M 0) (fun u => (gd_X cI h q u)) := by
  refine gk_I_of (ty := .int) (cc := cX2_leftOf) (nL := 2) (by decide +kernel) rfl (Nat.le_of_ble_eq_true rfl) ?_
  intro p e s m below meth c A Q hnm hE G RET
  obtain ⟨hz1, hz2, hz3, hz4, hz5, hz6, hz7, hz8⟩ := id wf
  refine gk_aload_n G dX2_leftOf_0 0 rfl ?_
  refine gk_iload_n G dX2_leftOf_1 1 rfl ?_
  refine gk_iconst (v := nI 3) G dX2_leftOf_2 (by decide) ?_
  refine gk_callIV (wr := []) G (c2_of_left l D cI cZ cJ h q F B f kp g M v wf hs hn hv) gX2_leftOf_X2_of rfl 2 (by decide +kernel) rfl rfl ⟨(Nat.le_of_ble_eq_true rfl), (Nat.le_of_ble_eq_true rfl)⟩ rfl (q0 := 0) rfl (T := TX2) (N := 12) rfl gk_ok0 trivial [0, 1, 2, 3, 4, 5, 6, 7] rfl (by decide) [] rfl (by decide) (by decide) rfl (Nat.le_of_ble_eq_true rfl) dX2_leftOf_3 ⟨(Nat.le_of_ble_eq_true rfl), (Nat.le_of_ble_eq_true rfl)⟩ (fun r3 u3 hp3 => ?_)
  obtain ⟨F3, B3, f3, kp3, g3⟩ := u3
  obtain rfl : r3 = nI (M 5 v) := hp3.1
  have hs3 : gr_st F3 B3 M := hp3.2.1
  have hn3 : gr_now f3 M := hp3.2.2.1
  have hT3 : F3 0 = nI 0 := hp3.2.2.2
  show gk_C p l e ({ frames := 3, cells := 0, slots := 0, locals := 65 } : Room) s m ([.ref h, .int (nI v)] : List Value).toArray below meth c 2 D A Q 0 0 (gd_W cI h q F3 B3 f3 kp3 g3) [(0, .ref h), (1, .int (nI v))] 6 [.int (nI (M 5 v))]
  exact RET _ _ _ _ _ _ (F3, B3, f3, kp3, g3) dX2_leftOf_6 rfl ⟨rfl, hs3, hn3, hT3⟩ rfl (Nat.le_of_ble_eq_true rfl) (Nat.le_of_ble_eq_true rfl)
set_option maxRecDepth 100000 in
set_option maxHeartbeats 1000000 in
theorem c2_leftOf_no (l : Launch) (D : va_G) (cI cZ cJ : ClassId) (h : Nat) (q : Nat → Nat) (F : Nat → Int32) (B : Nat → Nat → Int32) (f kp g : Nat → Int32) (M : gm_M) (p0 : Int32) (wf : gm_wf M) (hs : gr_st F B M) (hn : gr_now f M) (hb : ¬ gm_rg p0 0 (M 11 0)) : gk_I l yX2_leftOf wsX2_leftOf ({ frames := 3, cells := 0, slots := 0, locals := 65 } : Room) D (g_T cI cZ cJ) gk_E0 [.ref h, .int p0] (gd_W cI h q F B f kp g) 0 0 (fun (r : Int32) (u : gd_U) => r = nI 0 ∧ gd_R u M 1) (fun u => (gd_X cI h q u)) := by
  refine gk_I_of (ty := .int) (cc := cX2_leftOf) (nL := 2) (by decide +kernel) rfl (Nat.le_of_ble_eq_true rfl) ?_
  intro p e s m below meth c A Q hnm hE G RET
  obtain ⟨hz1, hz2, hz3, hz4, hz5, hz6, hz7, hz8⟩ := id wf
  refine gk_aload_n G dX2_leftOf_0 0 rfl ?_
  refine gk_iload_n G dX2_leftOf_1 1 rfl ?_
  refine gk_iconst (v := nI 3) G dX2_leftOf_2 (by decide) ?_
  refine gk_callIV (wr := []) G (c2_of_no l D cI cZ cJ h q F B f kp g M p0 (nI 3) wf hs hn hb) gX2_leftOf_X2_of rfl 2 (by decide +kernel) rfl rfl ⟨(Nat.le_of_ble_eq_true rfl), (Nat.le_of_ble_eq_true rfl)⟩ rfl (q0 := 0) rfl (T := TX2) (N := 12) rfl gk_ok0 trivial [0, 1, 2, 3, 4, 5, 6, 7] rfl (by decide) [] rfl (by decide) (by decide) rfl (Nat.le_of_ble_eq_true rfl) dX2_leftOf_3 ⟨(Nat.le_of_ble_eq_true rfl), (Nat.le_of_ble_eq_true rfl)⟩ (fun r3 u3 hp3 => ?_)
  obtain ⟨F3, B3, f3, kp3, g3⟩ := u3
  obtain rfl : r3 = nI 0 := hp3.1
  have hs3 : gr_st F3 B3 M := hp3.2.1
  have hn3 : gr_now f3 M := hp3.2.2.1
  have hT3 : F3 0 = nI 1 := hp3.2.2.2
  show gk_C p l e ({ frames := 3, cells := 0, slots := 0, locals := 65 } : Room) s m ([.ref h, .int p0] : List Value).toArray below meth c 2 D A Q 0 0 (gd_W cI h q F3 B3 f3 kp3 g3) [(0, .ref h), (1, .int p0)] 6 [.int (nI 0)]
  exact RET _ _ _ _ _ _ (F3, B3, f3, kp3, g3) dX2_leftOf_6 rfl ⟨rfl, hs3, hn3, hT3⟩ rfl (Nat.le_of_ble_eq_true rfl) (Nat.le_of_ble_eq_true rfl)
set_option maxRecDepth 100000 in
set_option maxHeartbeats 1000000 in
theorem c2_groundAt_ok (l : Launch) (D : va_G) (cI cZ cJ : ClassId) (h : Nat) (q : Nat → Nat) (F : Nat → Int32) (B : Nat → Nat → Int32) (f kp g : Nat → Int32) (M : gm_M) (v : Nat) (wf : gm_wf M) (hs : gr_st F B M) (hn : gr_now f M) (hv : v < M 11 0) : gk_I l yX2_groundAt wsX2_groundAt ({ frames := 3, cells := 0, slots := 0, locals := 65 } : Room) D (g_T cI cZ cJ) gk_E0 [.ref h, .int (nI v)] (gd_W cI h q F B f kp g) 0 0 (fun (r : Int32) (u : gd_U) => r = gm_e (M 8 v) ∧ gd_R u M 0) (fun u => (gd_X cI h q u)) := by
  refine gk_I_of (ty := .int) (cc := cX2_groundAt) (nL := 2) (by decide +kernel) rfl (Nat.le_of_ble_eq_true rfl) ?_
  intro p e s m below meth c A Q hnm hE G RET
  obtain ⟨hz1, hz2, hz3, hz4, hz5, hz6, hz7, hz8⟩ := id wf
  refine gk_aload_n G dX2_groundAt_0 0 rfl ?_
  refine gk_iload_n G dX2_groundAt_1 1 rfl ?_
  refine gk_bipush (v := nI 19) G dX2_groundAt_2 (by decide) ?_
  refine gk_callIV (wr := []) G (c2_of_done l D cI cZ cJ h q F B f kp g M v wf hs hn hv) gX2_groundAt_X2_of rfl 2 (by decide +kernel) rfl rfl ⟨(Nat.le_of_ble_eq_true rfl), (Nat.le_of_ble_eq_true rfl)⟩ rfl (q0 := 0) rfl (T := TX2) (N := 12) rfl gk_ok0 trivial [0, 1, 2, 3, 4, 5, 6, 7] rfl (by decide) [] rfl (by decide) (by decide) rfl (Nat.le_of_ble_eq_true rfl) dX2_groundAt_4 ⟨(Nat.le_of_ble_eq_true rfl), (Nat.le_of_ble_eq_true rfl)⟩ (fun r4 u4 hp4 => ?_)
  obtain ⟨F4, B4, f4, kp4, g4⟩ := u4
  obtain rfl : r4 = gm_e (M 8 v) := hp4.1
  have hs4 : gr_st F4 B4 M := hp4.2.1
  have hn4 : gr_now f4 M := hp4.2.2.1
  have hT4 : F4 0 = nI 0 := hp4.2.2.2
  show gk_C p l e ({ frames := 3, cells := 0, slots := 0, locals := 65 } : Room) s m ([.ref h, .int (nI v)] : List Value).toArray below meth c 2 D A Q 0 0 (gd_W cI h q F4 B4 f4 kp4 g4) [(0, .ref h), (1, .int (nI v))] 7 [.int (gm_e (M 8 v))]
  exact RET _ _ _ _ _ _ (F4, B4, f4, kp4, g4) dX2_groundAt_7 rfl ⟨rfl, hs4, hn4, hT4⟩ rfl (Nat.le_of_ble_eq_true rfl) (Nat.le_of_ble_eq_true rfl)
set_option maxRecDepth 100000 in
set_option maxHeartbeats 1000000 in
theorem c2_groundAt_no (l : Launch) (D : va_G) (cI cZ cJ : ClassId) (h : Nat) (q : Nat → Nat) (F : Nat → Int32) (B : Nat → Nat → Int32) (f kp g : Nat → Int32) (M : gm_M) (p0 : Int32) (wf : gm_wf M) (hs : gr_st F B M) (hn : gr_now f M) (hb : ¬ gm_rg p0 0 (M 11 0)) : gk_I l yX2_groundAt wsX2_groundAt ({ frames := 3, cells := 0, slots := 0, locals := 65 } : Room) D (g_T cI cZ cJ) gk_E0 [.ref h, .int p0] (gd_W cI h q F B f kp g) 0 0 (fun (r : Int32) (u : gd_U) => r = nI 0 ∧ gd_R u M 1) (fun u => (gd_X cI h q u)) := by
  refine gk_I_of (ty := .int) (cc := cX2_groundAt) (nL := 2) (by decide +kernel) rfl (Nat.le_of_ble_eq_true rfl) ?_
  intro p e s m below meth c A Q hnm hE G RET
  obtain ⟨hz1, hz2, hz3, hz4, hz5, hz6, hz7, hz8⟩ := id wf
  refine gk_aload_n G dX2_groundAt_0 0 rfl ?_
  refine gk_iload_n G dX2_groundAt_1 1 rfl ?_
  refine gk_bipush (v := nI 19) G dX2_groundAt_2 (by decide) ?_
  refine gk_callIV (wr := []) G (c2_of_no l D cI cZ cJ h q F B f kp g M p0 (nI 19) wf hs hn hb) gX2_groundAt_X2_of rfl 2 (by decide +kernel) rfl rfl ⟨(Nat.le_of_ble_eq_true rfl), (Nat.le_of_ble_eq_true rfl)⟩ rfl (q0 := 0) rfl (T := TX2) (N := 12) rfl gk_ok0 trivial [0, 1, 2, 3, 4, 5, 6, 7] rfl (by decide) [] rfl (by decide) (by decide) rfl (Nat.le_of_ble_eq_true rfl) dX2_groundAt_4 ⟨(Nat.le_of_ble_eq_true rfl), (Nat.le_of_ble_eq_true rfl)⟩ (fun r4 u4 hp4 => ?_)
  obtain ⟨F4, B4, f4, kp4, g4⟩ := u4
  obtain rfl : r4 = nI 0 := hp4.1
  have hs4 : gr_st F4 B4 M := hp4.2.1
  have hn4 : gr_now f4 M := hp4.2.2.1
  have hT4 : F4 0 = nI 1 := hp4.2.2.2
  show gk_C p l e ({ frames := 3, cells := 0, slots := 0, locals := 65 } : Room) s m ([.ref h, .int p0] : List Value).toArray below meth c 2 D A Q 0 0 (gd_W cI h q F4 B4 f4 kp4 g4) [(0, .ref h), (1, .int p0)] 7 [.int (nI 0)]
  exact RET _ _ _ _ _ _ (F4, B4, f4, kp4, g4) dX2_groundAt_7 rfl ⟨rfl, hs4, hn4, hT4⟩ rfl (Nat.le_of_ble_eq_true rfl) (Nat.le_of_ble_eq_true rfl)
set_option maxRecDepth 100000 in
set_option maxHeartbeats 1000000 in
theorem c2_untilOf_ok (l : Launch) (D : va_G) (cI cZ cJ : ClassId) (h : Nat) (q : Nat → Nat) (F : Nat → Int32) (B : Nat → Nat → Int32) (f kp g : Nat → Int32) (M : gm_M) (v : Nat) (wf : gm_wf M) (hs : gr_st F B M) (hn : gr_now f M) (hv : v < M 11 0) : gk_I l yX2_untilOf wsX2_untilOf ({ frames := 2, cells := 0, slots := 0, locals := 43 } : Room) D (g_T cI cZ cJ) gk_E0 [.ref h, .int (nI v)] (gd_W cI h q F B f kp g) 0 0 (fun (r : Int32) (u : gd_U) => r = nI (M 6 v) ∧ gd_R u M 0) (fun u => (gd_X cI h q u)) := by
  refine gk_I_of (ty := .int) (cc := cX2_untilOf) (nL := 2) (by decide +kernel) rfl (Nat.le_of_ble_eq_true rfl) ?_
  intro p e s m below meth c A Q hnm hE G RET
  obtain ⟨hz1, hz2, hz3, hz4, hz5, hz6, hz7, hz8⟩ := id wf
  have hinX2 : ∀ w ∈ wsX20, w ∈ wsX2_untilOf := fun w h9 => (List.mem_cons_of_mem _ (List.mem_append_right _ h9))
  have k19 := G.2.2.2.2.1 (.fieldLink RX2 19 "GustMillModel" "until" "[I") (List.mem_cons_of_mem _ (List.mem_append_left _ (List.mem_of_getElem? (i := 1) rfl)))
  have k31 := G.2.2.2.2.1 (.fieldLink RX2 31 "GustMillModel" "thrown" "I") (List.mem_cons_of_mem _ (List.mem_append_left _ (List.mem_of_getElem? (i := 0) rfl)))
  refine gk_aload_n G dX2_untilOf_0 0 rfl ?_
  refine gk_iconst (v := nI 0) G dX2_untilOf_1 (by decide) ?_
  refine gk_topi (fun v2 ev2 => ?_)
  refine gk_put (w' := (gd_W cI h q (upd F 0 v2) B f kp g)) G hinX2 tyX2_ok nmX2 (q0 := 0) rfl rfl 0 (by decide) k31 rfl rfl rfl (Nat.le_of_ble_eq_true rfl) rfl dX2_untilOf_2 ?_
  generalize eF2 : upd F 0 v2 = F2
  have hsT : gr_st F2 B M := by rw [← eF2]; exact gr_st_0 hs
  have hT : F2 0 = nI 0 := by rw [← eF2, pk_us]; exact ev2
  refine gk_aload_n G dX2_untilOf_5 0 rfl ?_
  refine gk_iload_n G dX2_untilOf_6 1 rfl ?_
  refine gk_callIV (wr := []) G (c2_isSack_ok l D cI cZ cJ h q F2 B f kp g M v wf hsT (by omega)) gX2_untilOf_X2_isSack rfl 1 (by decide +kernel) rfl rfl ⟨(Nat.le_of_ble_eq_true rfl), (Nat.le_of_ble_eq_true rfl)⟩ rfl (q0 := 0) rfl (T := TX2) (N := 12) rfl gk_ok0 trivial [0, 1, 2, 3, 4, 5, 6, 7] rfl (by decide) [] rfl (by decide) (by decide) rfl (Nat.le_of_ble_eq_true rfl) dX2_untilOf_7 ⟨(Nat.le_of_ble_eq_true rfl), (Nat.le_of_ble_eq_true rfl)⟩ (fun r7 u7 hp7 => ?_)
  obtain rfl : r7 = nI 1 := hp7
  show gk_C p l e ({ frames := 2, cells := 0, slots := 0, locals := 43 } : Room) s m ([.ref h, .int (nI v)] : List Value).toArray below meth c 2 D A Q 0 0 (gd_W cI h q F2 B f kp g) [(0, .ref h), (1, .int (nI v))] 10 [.int (nI 1)]
  refine gk_if_eq (tgt := 22) G dX2_untilOf_10 (by decide) (fun c_10 => ?_) (fun c_10 => ?_)
  · replace c_10 := (nI_eq (a := 1) (b := 0) (by omega) (by omega)).mp c_10
    exact absurd c_10 (by decide)
  · replace c_10 := (not_congr (nI_eq (a := 1) (b := 0) (by omega) (by omega))).mp c_10
    refine gk_aload_n G dX2_untilOf_13 0 rfl ?_
    refine gk_get (v' := .ref (q 8)) G hinX2 (q0 := 0) rfl rfl 8 (by decide) k19 rfl rfl dX2_untilOf_14 ?_
    refine gk_iload_n G dX2_untilOf_17 1 rfl ?_
    refine gk_iald (v := nI (M 6 v)) G (q0 := 4) (t0 := 0) rfl rfl v rfl (by omega) (by decide) (hsT.2.2.2.2.2.2.2 v (by omega)) dX2_untilOf_18 ?_
    refine gk_goto (tgt := 27) G dX2_untilOf_19 (by decide) ?_
    exact RET _ _ _ _ _ _ (F2, B, f, kp, g) dX2_untilOf_27 rfl ⟨rfl, hsT, hn, hT⟩ rfl (Nat.le_of_ble_eq_true rfl) (Nat.le_of_ble_eq_true rfl)
set_option maxRecDepth 100000 in
set_option maxHeartbeats 1000000 in
theorem c2_untilOf_no (l : Launch) (D : va_G) (cI cZ cJ : ClassId) (h : Nat) (q : Nat → Nat) (F : Nat → Int32) (B : Nat → Nat → Int32) (f kp g : Nat → Int32) (M : gm_M) (p0 : Int32) (wf : gm_wf M) (hs : gr_st F B M) (hn : gr_now f M) (hb : ¬ gm_rg p0 0 (M 11 0)) : gk_I l yX2_untilOf wsX2_untilOf ({ frames := 2, cells := 0, slots := 0, locals := 43 } : Room) D (g_T cI cZ cJ) gk_E0 [.ref h, .int p0] (gd_W cI h q F B f kp g) 0 0 (fun (r : Int32) (u : gd_U) => r = nI 0 ∧ gd_R u M 1) (fun u => (gd_X cI h q u)) := by
  refine gk_I_of (ty := .int) (cc := cX2_untilOf) (nL := 2) (by decide +kernel) rfl (Nat.le_of_ble_eq_true rfl) ?_
  intro p e s m below meth c A Q hnm hE G RET
  obtain ⟨hz1, hz2, hz3, hz4, hz5, hz6, hz7, hz8⟩ := id wf
  have hinX2 : ∀ w ∈ wsX20, w ∈ wsX2_untilOf := fun w h9 => (List.mem_cons_of_mem _ (List.mem_append_right _ h9))
  have k31 := G.2.2.2.2.1 (.fieldLink RX2 31 "GustMillModel" "thrown" "I") (List.mem_cons_of_mem _ (List.mem_append_left _ (List.mem_of_getElem? (i := 0) rfl)))
  refine gk_aload_n G dX2_untilOf_0 0 rfl ?_
  refine gk_iconst (v := nI 0) G dX2_untilOf_1 (by decide) ?_
  refine gk_topi (fun v2 ev2 => ?_)
  refine gk_put (w' := (gd_W cI h q (upd F 0 v2) B f kp g)) G hinX2 tyX2_ok nmX2 (q0 := 0) rfl rfl 0 (by decide) k31 rfl rfl rfl (Nat.le_of_ble_eq_true rfl) rfl dX2_untilOf_2 ?_
  generalize eF2 : upd F 0 v2 = F2
  have hsT : gr_st F2 B M := by rw [← eF2]; exact gr_st_0 hs
  have hT : F2 0 = nI 0 := by rw [← eF2, pk_us]; exact ev2
  refine gk_aload_n G dX2_untilOf_5 0 rfl ?_
  refine gk_iload_n G dX2_untilOf_6 1 rfl ?_
  refine gk_callIV (wr := []) G (c2_isSack_no l D cI cZ cJ h q F2 B f kp g M p0 wf hsT hb) gX2_untilOf_X2_isSack rfl 1 (by decide +kernel) rfl rfl ⟨(Nat.le_of_ble_eq_true rfl), (Nat.le_of_ble_eq_true rfl)⟩ rfl (q0 := 0) rfl (T := TX2) (N := 12) rfl gk_ok0 trivial [0, 1, 2, 3, 4, 5, 6, 7] rfl (by decide) [] rfl (by decide) (by decide) rfl (Nat.le_of_ble_eq_true rfl) dX2_untilOf_7 ⟨(Nat.le_of_ble_eq_true rfl), (Nat.le_of_ble_eq_true rfl)⟩ (fun r7 u7 hp7 => ?_)
  obtain rfl : r7 = nI 0 := hp7
  show gk_C p l e ({ frames := 2, cells := 0, slots := 0, locals := 43 } : Room) s m ([.ref h, .int p0] : List Value).toArray below meth c 2 D A Q 0 0 (gd_W cI h q F2 B f kp g) [(0, .ref h), (1, .int p0)] 10 [.int (nI 0)]
  refine gk_if_eq (tgt := 22) G dX2_untilOf_10 (by decide) (fun c_10 => ?_) (fun c_10 => ?_)
  · replace c_10 := (nI_eq (a := 0) (b := 0) (by omega) (by omega)).mp c_10
    refine gk_aload_n G dX2_untilOf_22 0 rfl ?_
    refine gk_iconst (v := nI 1) G dX2_untilOf_23 (by decide) ?_
    refine gk_callIV (wr := []) G (c2_fail l D cI cZ cJ h q F2 B f kp g M (nI 1)) gX2_untilOf_X2_fail rfl 1 (by decide +kernel) rfl rfl ⟨(Nat.le_of_ble_eq_true rfl), (Nat.le_of_ble_eq_true rfl)⟩ rfl (q0 := 0) rfl (T := TX2) (N := 12) rfl gk_ok0 trivial [0, 1, 2, 3, 4, 5, 6, 7] rfl (by decide) [] rfl (by decide) (by decide) rfl (Nat.le_of_ble_eq_true rfl) dX2_untilOf_24 ⟨(Nat.le_of_ble_eq_true rfl), (Nat.le_of_ble_eq_true rfl)⟩ (fun r24 u24 hp24 => ?_)
    obtain rfl : r24 = nI 0 := hp24.1
    have hF24 : u24 = upd F2 0 (nI 1) := hp24.2
    have hs24 : gr_st u24 B M := by rw [hF24]; exact gr_st_0 hsT
    have hT24 : u24 0 = nI 1 := by rw [hF24, pk_us]
    show gk_C p l e ({ frames := 2, cells := 0, slots := 0, locals := 43 } : Room) s m ([.ref h, .int p0] : List Value).toArray below meth c 2 D A Q 0 0 (gd_W cI h q u24 B f kp g) [(0, .ref h), (1, .int p0)] 27 [.int (nI 0)]
    exact RET _ _ _ _ _ _ (u24, B, f, kp, g) dX2_untilOf_27 rfl ⟨rfl, hs24, hn, hT24⟩ rfl (Nat.le_of_ble_eq_true rfl) (Nat.le_of_ble_eq_true rfl)
  · replace c_10 := (not_congr (nI_eq (a := 0) (b := 0) (by omega) (by omega))).mp c_10
    exact absurd c_10 (by decide)
set_option maxRecDepth 100000 in
set_option maxHeartbeats 1000000 in
theorem c2_ground (l : Launch) (D : va_G) (cI cZ cJ : ClassId) (h : Nat) (q : Nat → Nat) (F : Nat → Int32) (B : Nat → Nat → Int32) (f kp g : Nat → Int32) (M : gm_M) (wf : gm_wf M) (hs : gr_st F B M) (hn : gr_now f M) (hh : M 9 0 < 2000000) : gk_I l yX2_ground wsX2_ground ({ frames := 2, cells := 0, slots := 0, locals := 43 } : Room) D (g_T cI cZ cJ) gk_E0 [.ref h] (gd_W cI h q F B f kp g) 0 0 (fun (r : Int32) (u : gd_U) => r = nI (gm_gct M (M 11 0)) ∧ gd_R u M 0) (fun u => (gd_X cI h q u)) := by
  refine gk_I_of (ty := .int) (cc := cX2_ground) (nL := 1) (by decide +kernel) rfl (Nat.le_of_ble_eq_true rfl) ?_
  intro p e s m below meth c A Q hnm hE G RET
  obtain ⟨hz1, hz2, hz3, hz4, hz5, hz6, hz7, hz8⟩ := id wf
  refine gk_aload_n G dX2_ground_0 0 rfl ?_
  refine gk_aload_n G dX2_ground_1 0 rfl ?_
  refine gk_callIV (wr := []) G (c2_done l D cI cZ cJ h q F B f kp g M wf hs hn hh) gX2_ground_X2_done rfl 0 (by decide +kernel) rfl rfl ⟨(Nat.le_of_ble_eq_true rfl), (Nat.le_of_ble_eq_true rfl)⟩ rfl (q0 := 0) rfl (T := TX2) (N := 12) rfl gk_ok0 trivial [0, 1, 2, 3, 4, 5, 6, 7] rfl (by decide) [] rfl (by decide) (by decide) rfl (Nat.le_of_ble_eq_true rfl) dX2_ground_2 ⟨(Nat.le_of_ble_eq_true rfl), (Nat.le_of_ble_eq_true rfl)⟩ (fun r2 u2 hp2 => ?_)
  obtain rfl : r2 = nI (gm_gct M (M 11 0)) := hp2
  show gk_C p l e ({ frames := 2, cells := 0, slots := 0, locals := 43 } : Room) s m ([.ref h] : List Value).toArray below meth c 1 D A Q 0 0 (gd_W cI h q F B f kp g) [(0, .ref h)] 5 [.int (nI (gm_gct M (M 11 0))), .ref h]
  refine gk_callIV (wr := []) G (c2_told l D cI cZ cJ h q F B f kp g M (nI (gm_gct M (M 11 0)))) gX2_ground_X2_told rfl 1 (by decide +kernel) rfl rfl ⟨(Nat.le_of_ble_eq_true rfl), (Nat.le_of_ble_eq_true rfl)⟩ rfl (q0 := 0) rfl (T := TX2) (N := 12) rfl gk_ok0 trivial [0, 1, 2, 3, 4, 5, 6, 7] rfl (by decide) [] rfl (by decide) (by decide) rfl (Nat.le_of_ble_eq_true rfl) dX2_ground_5 ⟨(Nat.le_of_ble_eq_true rfl), (Nat.le_of_ble_eq_true rfl)⟩ (fun r5 u5 hp5 => ?_)
  obtain rfl : r5 = (nI (gm_gct M (M 11 0))) := hp5.1
  have hF5 : u5 = upd F 0 (nI 0) := hp5.2
  have hs5 : gr_st u5 B M := by rw [hF5]; exact gr_st_0 hs
  have hT5 : u5 0 = nI 0 := by rw [hF5, pk_us]
  show gk_C p l e ({ frames := 2, cells := 0, slots := 0, locals := 43 } : Room) s m ([.ref h] : List Value).toArray below meth c 1 D A Q 0 0 (gd_W cI h q u5 B f kp g) [(0, .ref h)] 8 [.int ((nI (gm_gct M (M 11 0))))]
  exact RET _ _ _ _ _ _ (u5, B, f, kp, g) dX2_ground_8 rfl ⟨rfl, hs5, hn, hT5⟩ rfl (Nat.le_of_ble_eq_true rfl) (Nat.le_of_ble_eq_true rfl)
set_option maxRecDepth 100000 in
set_option maxHeartbeats 1000000 in
theorem c2_changes (l : Launch) (D : va_G) (cI cZ cJ : ClassId) (h : Nat) (q : Nat → Nat) (F : Nat → Int32) (B : Nat → Nat → Int32) (f kp g : Nat → Int32) (M : gm_M) (wf : gm_wf M) (hs : gr_st F B M) (hn : gr_now f M)  : gk_I l yX2_changes wsX2_changes ({ frames := 1, cells := 0, slots := 0, locals := 21 } : Room) D (g_T cI cZ cJ) gk_E0 [.ref h] (gd_W cI h q F B f kp g) 0 0 (fun (r : Int32) (u : gd_U) => r = nI (M 13 0) ∧ gd_R u M 0) (fun u => (gd_X cI h q u)) := by
  refine gk_I_of (ty := .int) (cc := cX2_changes) (nL := 1) (by decide +kernel) rfl (Nat.le_of_ble_eq_true rfl) ?_
  intro p e s m below meth c A Q hnm hE G RET
  obtain ⟨hz1, hz2, hz3, hz4, hz5, hz6, hz7, hz8⟩ := id wf
  have hinX2 : ∀ w ∈ wsX20, w ∈ wsX2_changes := fun w h9 => (List.mem_cons_of_mem _ (List.mem_append_right _ h9))
  have k22 := G.2.2.2.2.1 (.fieldLink RX2 22 "GustMillModel" "now" "[I") (List.mem_cons_of_mem _ (List.mem_append_left _ (List.mem_of_getElem? (i := 0) rfl)))
  refine gk_aload_n G dX2_changes_0 0 rfl ?_
  refine gk_aload_n G dX2_changes_1 0 rfl ?_
  refine gk_get (v' := .ref (q 9)) G hinX2 (q0 := 0) rfl rfl 9 (by decide) k22 rfl rfl dX2_changes_2 ?_
  refine gk_iconst (v := nI 1) G dX2_changes_5 (by decide) ?_
  refine gk_iald (v := nI (M 13 0)) G (q0 := 5) (t0 := 0) rfl rfl 1 rfl (by omega) (by decide) hn.2.1 dX2_changes_6 ?_
  refine gk_callIV (wr := []) G (c2_told l D cI cZ cJ h q F B f kp g M (nI (M 13 0))) gX2_changes_X2_told rfl 1 (by decide +kernel) rfl rfl ⟨(Nat.le_of_ble_eq_true rfl), (Nat.le_of_ble_eq_true rfl)⟩ rfl (q0 := 0) rfl (T := TX2) (N := 12) rfl gk_ok0 trivial [0, 1, 2, 3, 4, 5, 6, 7] rfl (by decide) [] rfl (by decide) (by decide) rfl (Nat.le_of_ble_eq_true rfl) dX2_changes_7 ⟨(Nat.le_of_ble_eq_true rfl), (Nat.le_of_ble_eq_true rfl)⟩ (fun r7 u7 hp7 => ?_)
  obtain rfl : r7 = (nI (M 13 0)) := hp7.1
  have hF7 : u7 = upd F 0 (nI 0) := hp7.2
  have hs7 : gr_st u7 B M := by rw [hF7]; exact gr_st_0 hs
  have hT7 : u7 0 = nI 0 := by rw [hF7, pk_us]
  show gk_C p l e ({ frames := 1, cells := 0, slots := 0, locals := 21 } : Room) s m ([.ref h] : List Value).toArray below meth c 1 D A Q 0 0 (gd_W cI h q u7 B f kp g) [(0, .ref h)] 10 [.int ((nI (M 13 0)))]
  exact RET _ _ _ _ _ _ (u7, B, f, kp, g) dX2_changes_10 rfl ⟨rfl, hs7, hn, hT7⟩ rfl (Nat.le_of_ble_eq_true rfl) (Nat.le_of_ble_eq_true rfl)
set_option maxRecDepth 100000 in
set_option maxHeartbeats 1000000 in
theorem c2_first (l : Launch) (D : va_G) (cI cZ cJ : ClassId) (h : Nat) (q : Nat → Nat) (F : Nat → Int32) (B : Nat → Nat → Int32) (f kp g : Nat → Int32) (M : gm_M) (wf : gm_wf M) (hs : gr_st F B M) (hn : gr_now f M) (hh : M 9 0 < 2000000) : gk_I l yX2_first wsX2_first ({ frames := 2, cells := 0, slots := 0, locals := 44 } : Room) D (g_T cI cZ cJ) gk_E0 [.ref h] (gd_W cI h q F B f kp g) 0 0 (fun (r : Int32) (u : gd_U) => r = gm_e (gm_nxt M 0 (M 11 0)) ∧ gd_R u M 0) (fun u => (gd_X cI h q u)) := by
  refine gk_I_of (ty := .int) (cc := cX2_first) (nL := 1) (by decide +kernel) rfl (Nat.le_of_ble_eq_true rfl) ?_
  intro p e s m below meth c A Q hnm hE G RET
  obtain ⟨hz1, hz2, hz3, hz4, hz5, hz6, hz7, hz8⟩ := id wf
  refine gk_aload_n G dX2_first_0 0 rfl ?_
  refine gk_aload_n G dX2_first_1 0 rfl ?_
  refine gk_iconst (v := nI 0) G dX2_first_2 (by decide) ?_
  refine gk_callIV (wr := []) G (c2_next l D cI cZ cJ h q F B f kp g M 0 wf hs hn hh (by omega)) gX2_first_X2_next rfl 1 (by decide +kernel) rfl rfl ⟨(Nat.le_of_ble_eq_true rfl), (Nat.le_of_ble_eq_true rfl)⟩ rfl (q0 := 0) rfl (T := TX2) (N := 12) rfl gk_ok0 trivial [0, 1, 2, 3, 4, 5, 6, 7] rfl (by decide) [] rfl (by decide) (by decide) rfl (Nat.le_of_ble_eq_true rfl) dX2_first_3 ⟨(Nat.le_of_ble_eq_true rfl), (Nat.le_of_ble_eq_true rfl)⟩ (fun r3 u3 hp3 => ?_)
  obtain rfl : r3 = gm_e (gm_nxt M 0 (M 11 0)) := hp3
  show gk_C p l e ({ frames := 2, cells := 0, slots := 0, locals := 44 } : Room) s m ([.ref h] : List Value).toArray below meth c 1 D A Q 0 0 (gd_W cI h q F B f kp g) [(0, .ref h)] 6 [.int (gm_e (gm_nxt M 0 (M 11 0))), .ref h]
  refine gk_callIV (wr := []) G (c2_told l D cI cZ cJ h q F B f kp g M (gm_e (gm_nxt M 0 (M 11 0)))) gX2_first_X2_told rfl 1 (by decide +kernel) rfl rfl ⟨(Nat.le_of_ble_eq_true rfl), (Nat.le_of_ble_eq_true rfl)⟩ rfl (q0 := 0) rfl (T := TX2) (N := 12) rfl gk_ok0 trivial [0, 1, 2, 3, 4, 5, 6, 7] rfl (by decide) [] rfl (by decide) (by decide) rfl (Nat.le_of_ble_eq_true rfl) dX2_first_6 ⟨(Nat.le_of_ble_eq_true rfl), (Nat.le_of_ble_eq_true rfl)⟩ (fun r6 u6 hp6 => ?_)
  obtain rfl : r6 = (gm_e (gm_nxt M 0 (M 11 0))) := hp6.1
  have hF6 : u6 = upd F 0 (nI 0) := hp6.2
  have hs6 : gr_st u6 B M := by rw [hF6]; exact gr_st_0 hs
  have hT6 : u6 0 = nI 0 := by rw [hF6, pk_us]
  show gk_C p l e ({ frames := 2, cells := 0, slots := 0, locals := 44 } : Room) s m ([.ref h] : List Value).toArray below meth c 1 D A Q 0 0 (gd_W cI h q u6 B f kp g) [(0, .ref h)] 9 [.int ((gm_e (gm_nxt M 0 (M 11 0))))]
  exact RET _ _ _ _ _ _ (u6, B, f, kp, g) dX2_first_9 rfl ⟨rfl, hs6, hn, hT6⟩ rfl (Nat.le_of_ble_eq_true rfl) (Nat.le_of_ble_eq_true rfl)
set_option maxRecDepth 100000 in
set_option maxHeartbeats 1000000 in
theorem c2_late (l : Launch) (D : va_G) (cI cZ cJ : ClassId) (h : Nat) (q : Nat → Nat) (F : Nat → Int32) (B : Nat → Nat → Int32) (f kp g : Nat → Int32) (M : gm_M) (wf : gm_wf M) (hs : gr_st F B M) (hn : gr_now f M) (hh : M 9 0 < 2000000) : gk_I l yX2_late wsX2_late ({ frames := 2, cells := 0, slots := 0, locals := 44 } : Room) D (g_T cI cZ cJ) gk_E0 [.ref h] (gd_W cI h q F B f kp g) 0 0 (fun (r : Int32) (u : gd_U) => r = nI (gm_late M 0 (M 11 0)) ∧ gd_R u M 0) (fun u => (gd_X cI h q u)) := by
  refine gk_I_of (ty := .int) (cc := cX2_late) (nL := 1) (by decide +kernel) rfl (Nat.le_of_ble_eq_true rfl) ?_
  intro p e s m below meth c A Q hnm hE G RET
  obtain ⟨hz1, hz2, hz3, hz4, hz5, hz6, hz7, hz8⟩ := id wf
  refine gk_aload_n G dX2_late_0 0 rfl ?_
  refine gk_aload_n G dX2_late_1 0 rfl ?_
  refine gk_iconst (v := nI 0) G dX2_late_2 (by decide) ?_
  refine gk_callIV (wr := []) G (c2_lost l D cI cZ cJ h q F B f kp g M 0 wf hs hn hh) gX2_late_X2_lost rfl 1 (by decide +kernel) rfl rfl ⟨(Nat.le_of_ble_eq_true rfl), (Nat.le_of_ble_eq_true rfl)⟩ rfl (q0 := 0) rfl (T := TX2) (N := 12) rfl gk_ok0 trivial [0, 1, 2, 3, 4, 5, 6, 7] rfl (by decide) [] rfl (by decide) (by decide) rfl (Nat.le_of_ble_eq_true rfl) dX2_late_3 ⟨(Nat.le_of_ble_eq_true rfl), (Nat.le_of_ble_eq_true rfl)⟩ (fun r3 u3 hp3 => ?_)
  obtain rfl : r3 = nI (gm_late M 0 (M 11 0)) := hp3
  show gk_C p l e ({ frames := 2, cells := 0, slots := 0, locals := 44 } : Room) s m ([.ref h] : List Value).toArray below meth c 1 D A Q 0 0 (gd_W cI h q F B f kp g) [(0, .ref h)] 6 [.int (nI (gm_late M 0 (M 11 0))), .ref h]
  refine gk_callIV (wr := []) G (c2_told l D cI cZ cJ h q F B f kp g M (nI (gm_late M 0 (M 11 0)))) gX2_late_X2_told rfl 1 (by decide +kernel) rfl rfl ⟨(Nat.le_of_ble_eq_true rfl), (Nat.le_of_ble_eq_true rfl)⟩ rfl (q0 := 0) rfl (T := TX2) (N := 12) rfl gk_ok0 trivial [0, 1, 2, 3, 4, 5, 6, 7] rfl (by decide) [] rfl (by decide) (by decide) rfl (Nat.le_of_ble_eq_true rfl) dX2_late_6 ⟨(Nat.le_of_ble_eq_true rfl), (Nat.le_of_ble_eq_true rfl)⟩ (fun r6 u6 hp6 => ?_)
  obtain rfl : r6 = (nI (gm_late M 0 (M 11 0))) := hp6.1
  have hF6 : u6 = upd F 0 (nI 0) := hp6.2
  have hs6 : gr_st u6 B M := by rw [hF6]; exact gr_st_0 hs
  have hT6 : u6 0 = nI 0 := by rw [hF6, pk_us]
  show gk_C p l e ({ frames := 2, cells := 0, slots := 0, locals := 44 } : Room) s m ([.ref h] : List Value).toArray below meth c 1 D A Q 0 0 (gd_W cI h q u6 B f kp g) [(0, .ref h)] 9 [.int ((nI (gm_late M 0 (M 11 0))))]
  exact RET _ _ _ _ _ _ (u6, B, f, kp, g) dX2_late_9 rfl ⟨rfl, hs6, hn, hT6⟩ rfl (Nat.le_of_ble_eq_true rfl) (Nat.le_of_ble_eq_true rfl)
set_option maxRecDepth 100000 in
set_option maxHeartbeats 1000000 in
theorem c2_placeOf_ok (l : Launch) (D : va_G) (cI cZ cJ : ClassId) (h : Nat) (q : Nat → Nat) (F : Nat → Int32) (B : Nat → Nat → Int32) (f kp g : Nat → Int32) (M : gm_M) (v : Nat) (wf : gm_wf M) (hs : gr_st F B M) (hn : gr_now f M) (hh : M 9 0 < 2000000) (hv : v < M 11 0) : gk_I l yX2_placeOf wsX2_placeOf ({ frames := 3, cells := 0, slots := 0, locals := 65 } : Room) D (g_T cI cZ cJ) gk_E0 [.ref h, .int (nI v)] (gd_W cI h q F B f kp g) 0 0 (fun (r : Int32) (u : gd_U) => r = gm_plc M v ∧ gd_R u M 0) (fun u => (gd_X cI h q u)) := by
  refine gk_I_of (ty := .int) (cc := cX2_placeOf) (nL := 2) (by decide +kernel) rfl (Nat.le_of_ble_eq_true rfl) ?_
  intro p e s m below meth c A Q hnm hE G RET
  obtain ⟨hz1, hz2, hz3, hz4, hz5, hz6, hz7, hz8⟩ := id wf
  have hinX2 : ∀ w ∈ wsX20, w ∈ wsX2_placeOf := fun w h9 => (List.mem_cons_of_mem _ (List.mem_append_right _ h9))
  have k31 := G.2.2.2.2.1 (.fieldLink RX2 31 "GustMillModel" "thrown" "I") (List.mem_cons_of_mem _ (List.mem_append_left _ (List.mem_append_left _ (List.mem_of_getElem? (i := 0) rfl))))
  refine gk_aload_n G dX2_placeOf_0 0 rfl ?_
  refine gk_iconst (v := nI 0) G dX2_placeOf_1 (by decide) ?_
  refine gk_topi (fun v2 ev2 => ?_)
  refine gk_put (w' := (gd_W cI h q (upd F 0 v2) B f kp g)) G hinX2 tyX2_ok nmX2 (q0 := 0) rfl rfl 0 (by decide) k31 rfl rfl rfl (Nat.le_of_ble_eq_true rfl) rfl dX2_placeOf_2 ?_
  generalize eF2 : upd F 0 v2 = F2
  have hsT : gr_st F2 B M := by rw [← eF2]; exact gr_st_0 hs
  have hT : F2 0 = nI 0 := by rw [← eF2, pk_us]; exact ev2
  refine gk_aload_n G dX2_placeOf_5 0 rfl ?_
  refine gk_iload_n G dX2_placeOf_6 1 rfl ?_
  refine gk_callIV (wr := []) G (c2_isSack_ok l D cI cZ cJ h q F2 B f kp g M v wf hsT (by omega)) gX2_placeOf_X2_isSack rfl 1 (by decide +kernel) rfl rfl ⟨(Nat.le_of_ble_eq_true rfl), (Nat.le_of_ble_eq_true rfl)⟩ rfl (q0 := 0) rfl (T := TX2) (N := 12) rfl gk_ok0 trivial [0, 1, 2, 3, 4, 5, 6, 7] rfl (by decide) [] rfl (by decide) (by decide) rfl (Nat.le_of_ble_eq_true rfl) dX2_placeOf_7 ⟨(Nat.le_of_ble_eq_true rfl), (Nat.le_of_ble_eq_true rfl)⟩ (fun r7 u7 hp7 => ?_)
  obtain rfl : r7 = nI 1 := hp7
  show gk_C p l e ({ frames := 3, cells := 0, slots := 0, locals := 65 } : Room) s m ([.ref h, .int (nI v)] : List Value).toArray below meth c 2 D A Q 0 0 (gd_W cI h q F2 B f kp g) [(0, .ref h), (1, .int (nI v))] 10 [.int (nI 1)]
  refine gk_if_eq (tgt := 21) G dX2_placeOf_10 (by decide) (fun c_10 => ?_) (fun c_10 => ?_)
  · replace c_10 := (nI_eq (a := 1) (b := 0) (by omega) (by omega)).mp c_10
    exact absurd c_10 (by decide)
  · replace c_10 := (not_congr (nI_eq (a := 1) (b := 0) (by omega) (by omega))).mp c_10
    refine gk_aload_n G dX2_placeOf_13 0 rfl ?_
    refine gk_iload_n G dX2_placeOf_14 1 rfl ?_
    refine gk_callIV (wr := []) G (c2_place l D cI cZ cJ h q F2 B f kp g M v wf hsT hn hh hv) gX2_placeOf_X2_place rfl 1 (by decide +kernel) rfl rfl ⟨(Nat.le_of_ble_eq_true rfl), (Nat.le_of_ble_eq_true rfl)⟩ rfl (q0 := 0) rfl (T := TX2) (N := 12) rfl gk_ok0 trivial [0, 1, 2, 3, 4, 5, 6, 7] rfl (by decide) [] rfl (by decide) (by decide) rfl (Nat.le_of_ble_eq_true rfl) dX2_placeOf_15 ⟨(Nat.le_of_ble_eq_true rfl), (Nat.le_of_ble_eq_true rfl)⟩ (fun r15 u15 hp15 => ?_)
    obtain rfl : r15 = gm_plc M v := hp15
    show gk_C p l e ({ frames := 3, cells := 0, slots := 0, locals := 65 } : Room) s m ([.ref h, .int (nI v)] : List Value).toArray below meth c 2 D A Q 0 0 (gd_W cI h q F2 B f kp g) [(0, .ref h), (1, .int (nI v))] 18 [.int (gm_plc M v)]
    refine gk_goto (tgt := 26) G dX2_placeOf_18 (by decide) ?_
    exact RET _ _ _ _ _ _ (F2, B, f, kp, g) dX2_placeOf_26 rfl ⟨rfl, hsT, hn, hT⟩ rfl (Nat.le_of_ble_eq_true rfl) (Nat.le_of_ble_eq_true rfl)
set_option maxRecDepth 100000 in
set_option maxHeartbeats 1000000 in
theorem c2_placeOf_no (l : Launch) (D : va_G) (cI cZ cJ : ClassId) (h : Nat) (q : Nat → Nat) (F : Nat → Int32) (B : Nat → Nat → Int32) (f kp g : Nat → Int32) (M : gm_M) (p0 : Int32) (wf : gm_wf M) (hs : gr_st F B M) (hn : gr_now f M) (hb : ¬ gm_rg p0 0 (M 11 0)) : gk_I l yX2_placeOf wsX2_placeOf ({ frames := 3, cells := 0, slots := 0, locals := 65 } : Room) D (g_T cI cZ cJ) gk_E0 [.ref h, .int p0] (gd_W cI h q F B f kp g) 0 0 (fun (r : Int32) (u : gd_U) => r = nI 0 ∧ gd_R u M 1) (fun u => (gd_X cI h q u)) := by
  refine gk_I_of (ty := .int) (cc := cX2_placeOf) (nL := 2) (by decide +kernel) rfl (Nat.le_of_ble_eq_true rfl) ?_
  intro p e s m below meth c A Q hnm hE G RET
  obtain ⟨hz1, hz2, hz3, hz4, hz5, hz6, hz7, hz8⟩ := id wf
  have hinX2 : ∀ w ∈ wsX20, w ∈ wsX2_placeOf := fun w h9 => (List.mem_cons_of_mem _ (List.mem_append_right _ h9))
  have k31 := G.2.2.2.2.1 (.fieldLink RX2 31 "GustMillModel" "thrown" "I") (List.mem_cons_of_mem _ (List.mem_append_left _ (List.mem_append_left _ (List.mem_of_getElem? (i := 0) rfl))))
  refine gk_aload_n G dX2_placeOf_0 0 rfl ?_
  refine gk_iconst (v := nI 0) G dX2_placeOf_1 (by decide) ?_
  refine gk_topi (fun v2 ev2 => ?_)
  refine gk_put (w' := (gd_W cI h q (upd F 0 v2) B f kp g)) G hinX2 tyX2_ok nmX2 (q0 := 0) rfl rfl 0 (by decide) k31 rfl rfl rfl (Nat.le_of_ble_eq_true rfl) rfl dX2_placeOf_2 ?_
  generalize eF2 : upd F 0 v2 = F2
  have hsT : gr_st F2 B M := by rw [← eF2]; exact gr_st_0 hs
  have hT : F2 0 = nI 0 := by rw [← eF2, pk_us]; exact ev2
  refine gk_aload_n G dX2_placeOf_5 0 rfl ?_
  refine gk_iload_n G dX2_placeOf_6 1 rfl ?_
  refine gk_callIV (wr := []) G (c2_isSack_no l D cI cZ cJ h q F2 B f kp g M p0 wf hsT hb) gX2_placeOf_X2_isSack rfl 1 (by decide +kernel) rfl rfl ⟨(Nat.le_of_ble_eq_true rfl), (Nat.le_of_ble_eq_true rfl)⟩ rfl (q0 := 0) rfl (T := TX2) (N := 12) rfl gk_ok0 trivial [0, 1, 2, 3, 4, 5, 6, 7] rfl (by decide) [] rfl (by decide) (by decide) rfl (Nat.le_of_ble_eq_true rfl) dX2_placeOf_7 ⟨(Nat.le_of_ble_eq_true rfl), (Nat.le_of_ble_eq_true rfl)⟩ (fun r7 u7 hp7 => ?_)
  obtain rfl : r7 = nI 0 := hp7
  show gk_C p l e ({ frames := 3, cells := 0, slots := 0, locals := 65 } : Room) s m ([.ref h, .int p0] : List Value).toArray below meth c 2 D A Q 0 0 (gd_W cI h q F2 B f kp g) [(0, .ref h), (1, .int p0)] 10 [.int (nI 0)]
  refine gk_if_eq (tgt := 21) G dX2_placeOf_10 (by decide) (fun c_10 => ?_) (fun c_10 => ?_)
  · replace c_10 := (nI_eq (a := 0) (b := 0) (by omega) (by omega)).mp c_10
    refine gk_aload_n G dX2_placeOf_21 0 rfl ?_
    refine gk_iconst (v := nI 1) G dX2_placeOf_22 (by decide) ?_
    refine gk_callIV (wr := []) G (c2_fail l D cI cZ cJ h q F2 B f kp g M (nI 1)) gX2_placeOf_X2_fail rfl 1 (by decide +kernel) rfl rfl ⟨(Nat.le_of_ble_eq_true rfl), (Nat.le_of_ble_eq_true rfl)⟩ rfl (q0 := 0) rfl (T := TX2) (N := 12) rfl gk_ok0 trivial [0, 1, 2, 3, 4, 5, 6, 7] rfl (by decide) [] rfl (by decide) (by decide) rfl (Nat.le_of_ble_eq_true rfl) dX2_placeOf_23 ⟨(Nat.le_of_ble_eq_true rfl), (Nat.le_of_ble_eq_true rfl)⟩ (fun r23 u23 hp23 => ?_)
    obtain rfl : r23 = nI 0 := hp23.1
    have hF23 : u23 = upd F2 0 (nI 1) := hp23.2
    have hs23 : gr_st u23 B M := by rw [hF23]; exact gr_st_0 hsT
    have hT23 : u23 0 = nI 1 := by rw [hF23, pk_us]
    show gk_C p l e ({ frames := 3, cells := 0, slots := 0, locals := 65 } : Room) s m ([.ref h, .int p0] : List Value).toArray below meth c 2 D A Q 0 0 (gd_W cI h q u23 B f kp g) [(0, .ref h), (1, .int p0)] 26 [.int (nI 0)]
    exact RET _ _ _ _ _ _ (u23, B, f, kp, g) dX2_placeOf_26 rfl ⟨rfl, hs23, hn, hT23⟩ rfl (Nat.le_of_ble_eq_true rfl) (Nat.le_of_ble_eq_true rfl)
  · replace c_10 := (not_congr (nI_eq (a := 0) (b := 0) (by omega) (by omega))).mp c_10
    exact absurd c_10 (by decide)
set_option maxRecDepth 100000 in
set_option maxHeartbeats 1000000 in
theorem c2_leftFor_ok (l : Launch) (D : va_G) (cI cZ cJ : ClassId) (h : Nat) (q : Nat → Nat) (F : Nat → Int32) (B : Nat → Nat → Int32) (f kp g : Nat → Int32) (M : gm_M) (v : Nat) (wf : gm_wf M) (hs : gr_st F B M) (hn : gr_now f M) (hv : v < 8) : gk_I l yX2_leftFor wsX2_leftFor ({ frames := 1, cells := 0, slots := 0, locals := 23 } : Room) D (g_T cI cZ cJ) gk_E0 [.ref h, .int (nI v)] (gd_W cI h q F B f kp g) 0 0 (fun (r : Int32) (u : gd_U) => r = nI (gm_rst M v (M 11 0)) ∧ gd_R u M 0) (fun u => (gd_X cI h q u)) := by
  refine gk_I_of (ty := .int) (cc := cX2_leftFor) (nL := 2) (by decide +kernel) rfl (Nat.le_of_ble_eq_true rfl) ?_
  intro p e s m below meth c A Q hnm hE G RET
  obtain ⟨hz1, hz2, hz3, hz4, hz5, hz6, hz7, hz8⟩ := id wf
  have hinX2 : ∀ w ∈ wsX20, w ∈ wsX2_leftFor := fun w h9 => (List.mem_cons_of_mem _ (List.mem_append_right _ h9))
  have k31 := G.2.2.2.2.1 (.fieldLink RX2 31 "GustMillModel" "thrown" "I") (List.mem_cons_of_mem _ (List.mem_append_left _ (List.mem_of_getElem? (i := 0) rfl)))
  refine gk_aload_n G dX2_leftFor_0 0 rfl ?_
  refine gk_iconst (v := nI 0) G dX2_leftFor_1 (by decide) ?_
  refine gk_topi (fun v2 ev2 => ?_)
  refine gk_put (w' := (gd_W cI h q (upd F 0 v2) B f kp g)) G hinX2 tyX2_ok nmX2 (q0 := 0) rfl rfl 0 (by decide) k31 rfl rfl rfl (Nat.le_of_ble_eq_true rfl) rfl dX2_leftFor_2 ?_
  generalize eF2 : upd F 0 v2 = F2
  have hsT : gr_st F2 B M := by rw [← eF2]; exact gr_st_0 hs
  have hT : F2 0 = nI 0 := by rw [← eF2, pk_us]; exact ev2
  refine gk_iload_n G dX2_leftFor_5 1 rfl ?_
  refine gk_iconst (v := nI 0) G dX2_leftFor_6 (by decide) ?_
  refine gk_bipush (v := nI 7) G dX2_leftFor_7 (by decide) ?_
  refine gk_callIS (wc := []) (wr := (gd_W cI h q F2 B f kp g)) (isC := []) (isR := [0, 1, 2, 3, 4, 5, 6, 7]) G (c2_isIn l D cI cZ cJ (nI v) (nI 0) (nI 7)) gX2_leftFor_X2_isIn rfl 3 (by decide +kernel) rfl rfl ⟨(Nat.le_of_ble_eq_true rfl), (Nat.le_of_ble_eq_true rfl)⟩ rfl gk_ok0 trivial rfl (by decide) rfl (by decide) (by decide) rfl (Nat.le_of_ble_eq_true rfl) dX2_leftFor_9 ⟨(Nat.le_of_ble_eq_true rfl), (Nat.le_of_ble_eq_true rfl)⟩ (fun r9 u9 hp9 => ?_)
  obtain rfl : r9 = nI 1 := (hp9.trans (gm_b1 (gm_in1 (by omega) (by omega) (by decide))))
  show gk_C p l e ({ frames := 1, cells := 0, slots := 0, locals := 23 } : Room) s m ([.ref h, .int (nI v)] : List Value).toArray below meth c 2 D A Q 0 0 (gd_W cI h q F2 B f kp g) [(0, .ref h), (1, .int (nI v))] 12 [.int (nI 1)]
  refine gk_if_eq (tgt := 23) G dX2_leftFor_12 (by decide) (fun c_12 => ?_) (fun c_12 => ?_)
  · replace c_12 := (nI_eq (a := 1) (b := 0) (by omega) (by omega)).mp c_12
    exact absurd c_12 (by decide)
  · replace c_12 := (not_congr (nI_eq (a := 1) (b := 0) (by omega) (by omega))).mp c_12
    refine gk_aload_n G dX2_leftFor_15 0 rfl ?_
    refine gk_iload_n G dX2_leftFor_16 1 rfl ?_
    refine gk_callIV (wr := []) G (c2_rest l D cI cZ cJ h q F2 B f kp g M v wf hsT hn hv) gX2_leftFor_X2_rest rfl 1 (by decide +kernel) rfl rfl ⟨(Nat.le_of_ble_eq_true rfl), (Nat.le_of_ble_eq_true rfl)⟩ rfl (q0 := 0) rfl (T := TX2) (N := 12) rfl gk_ok0 trivial [0, 1, 2, 3, 4, 5, 6, 7] rfl (by decide) [] rfl (by decide) (by decide) rfl (Nat.le_of_ble_eq_true rfl) dX2_leftFor_17 ⟨(Nat.le_of_ble_eq_true rfl), (Nat.le_of_ble_eq_true rfl)⟩ (fun r17 u17 hp17 => ?_)
    obtain rfl : r17 = nI (gm_rst M v (M 11 0)) := hp17
    show gk_C p l e ({ frames := 1, cells := 0, slots := 0, locals := 23 } : Room) s m ([.ref h, .int (nI v)] : List Value).toArray below meth c 2 D A Q 0 0 (gd_W cI h q F2 B f kp g) [(0, .ref h), (1, .int (nI v))] 20 [.int (nI (gm_rst M v (M 11 0)))]
    refine gk_goto (tgt := 28) G dX2_leftFor_20 (by decide) ?_
    exact RET _ _ _ _ _ _ (F2, B, f, kp, g) dX2_leftFor_28 rfl ⟨rfl, hsT, hn, hT⟩ rfl (Nat.le_of_ble_eq_true rfl) (Nat.le_of_ble_eq_true rfl)
set_option maxRecDepth 100000 in
set_option maxHeartbeats 1000000 in
theorem c2_leftFor_no (l : Launch) (D : va_G) (cI cZ cJ : ClassId) (h : Nat) (q : Nat → Nat) (F : Nat → Int32) (B : Nat → Nat → Int32) (f kp g : Nat → Int32) (M : gm_M) (p0 : Int32) (wf : gm_wf M) (hs : gr_st F B M) (hn : gr_now f M) (hb : ¬ gm_rg p0 0 8) : gk_I l yX2_leftFor wsX2_leftFor ({ frames := 1, cells := 0, slots := 0, locals := 23 } : Room) D (g_T cI cZ cJ) gk_E0 [.ref h, .int p0] (gd_W cI h q F B f kp g) 0 0 (fun (r : Int32) (u : gd_U) => r = nI 0 ∧ gd_R u M 1) (fun u => (gd_X cI h q u)) := by
  refine gk_I_of (ty := .int) (cc := cX2_leftFor) (nL := 2) (by decide +kernel) rfl (Nat.le_of_ble_eq_true rfl) ?_
  intro p e s m below meth c A Q hnm hE G RET
  obtain ⟨hz1, hz2, hz3, hz4, hz5, hz6, hz7, hz8⟩ := id wf
  have hinX2 : ∀ w ∈ wsX20, w ∈ wsX2_leftFor := fun w h9 => (List.mem_cons_of_mem _ (List.mem_append_right _ h9))
  have k31 := G.2.2.2.2.1 (.fieldLink RX2 31 "GustMillModel" "thrown" "I") (List.mem_cons_of_mem _ (List.mem_append_left _ (List.mem_of_getElem? (i := 0) rfl)))
  refine gk_aload_n G dX2_leftFor_0 0 rfl ?_
  refine gk_iconst (v := nI 0) G dX2_leftFor_1 (by decide) ?_
  refine gk_topi (fun v2 ev2 => ?_)
  refine gk_put (w' := (gd_W cI h q (upd F 0 v2) B f kp g)) G hinX2 tyX2_ok nmX2 (q0 := 0) rfl rfl 0 (by decide) k31 rfl rfl rfl (Nat.le_of_ble_eq_true rfl) rfl dX2_leftFor_2 ?_
  generalize eF2 : upd F 0 v2 = F2
  have hsT : gr_st F2 B M := by rw [← eF2]; exact gr_st_0 hs
  have hT : F2 0 = nI 0 := by rw [← eF2, pk_us]; exact ev2
  refine gk_iload_n G dX2_leftFor_5 1 rfl ?_
  refine gk_iconst (v := nI 0) G dX2_leftFor_6 (by decide) ?_
  refine gk_bipush (v := nI 7) G dX2_leftFor_7 (by decide) ?_
  refine gk_callIS (wc := []) (wr := (gd_W cI h q F2 B f kp g)) (isC := []) (isR := [0, 1, 2, 3, 4, 5, 6, 7]) G (c2_isIn l D cI cZ cJ p0 (nI 0) (nI 7)) gX2_leftFor_X2_isIn rfl 3 (by decide +kernel) rfl rfl ⟨(Nat.le_of_ble_eq_true rfl), (Nat.le_of_ble_eq_true rfl)⟩ rfl gk_ok0 trivial rfl (by decide) rfl (by decide) (by decide) rfl (Nat.le_of_ble_eq_true rfl) dX2_leftFor_9 ⟨(Nat.le_of_ble_eq_true rfl), (Nat.le_of_ble_eq_true rfl)⟩ (fun r9 u9 hp9 => ?_)
  obtain rfl : r9 = nI 0 := (hp9.trans (gm_b0 (gm_in0 hb (by decide) (by decide))))
  show gk_C p l e ({ frames := 1, cells := 0, slots := 0, locals := 23 } : Room) s m ([.ref h, .int p0] : List Value).toArray below meth c 2 D A Q 0 0 (gd_W cI h q F2 B f kp g) [(0, .ref h), (1, .int p0)] 12 [.int (nI 0)]
  refine gk_if_eq (tgt := 23) G dX2_leftFor_12 (by decide) (fun c_12 => ?_) (fun c_12 => ?_)
  · replace c_12 := (nI_eq (a := 0) (b := 0) (by omega) (by omega)).mp c_12
    refine gk_aload_n G dX2_leftFor_23 0 rfl ?_
    refine gk_iconst (v := nI 1) G dX2_leftFor_24 (by decide) ?_
    refine gk_callIV (wr := []) G (c2_fail l D cI cZ cJ h q F2 B f kp g M (nI 1)) gX2_leftFor_X2_fail rfl 1 (by decide +kernel) rfl rfl ⟨(Nat.le_of_ble_eq_true rfl), (Nat.le_of_ble_eq_true rfl)⟩ rfl (q0 := 0) rfl (T := TX2) (N := 12) rfl gk_ok0 trivial [0, 1, 2, 3, 4, 5, 6, 7] rfl (by decide) [] rfl (by decide) (by decide) rfl (Nat.le_of_ble_eq_true rfl) dX2_leftFor_25 ⟨(Nat.le_of_ble_eq_true rfl), (Nat.le_of_ble_eq_true rfl)⟩ (fun r25 u25 hp25 => ?_)
    obtain rfl : r25 = nI 0 := hp25.1
    have hF25 : u25 = upd F2 0 (nI 1) := hp25.2
    have hs25 : gr_st u25 B M := by rw [hF25]; exact gr_st_0 hsT
    have hT25 : u25 0 = nI 1 := by rw [hF25, pk_us]
    show gk_C p l e ({ frames := 1, cells := 0, slots := 0, locals := 23 } : Room) s m ([.ref h, .int p0] : List Value).toArray below meth c 2 D A Q 0 0 (gd_W cI h q u25 B f kp g) [(0, .ref h), (1, .int p0)] 28 [.int (nI 0)]
    exact RET _ _ _ _ _ _ (u25, B, f, kp, g) dX2_leftFor_28 rfl ⟨rfl, hs25, hn, hT25⟩ rfl (Nat.le_of_ble_eq_true rfl) (Nat.le_of_ble_eq_true rfl)
  · replace c_12 := (not_congr (nI_eq (a := 0) (b := 0) (by omega) (by omega))).mp c_12
    exact absurd c_12 (by decide)
set_option maxRecDepth 100000 in
set_option maxHeartbeats 1000000 in
theorem c2_willBeGroundAt_ok (l : Launch) (D : va_G) (cI cZ cJ : ClassId) (h : Nat) (q : Nat → Nat) (F : Nat → Int32) (B : Nat → Nat → Int32) (f kp g : Nat → Int32) (M : gm_M) (v : Nat) (wf : gm_wf M) (hs : gr_st F B M) (hn : gr_now f M) (hrest : gm_rest M) (hh : M 9 0 < 1999000) (hv : v < M 11 0) : gk_I l yX2_willBeGroundAt wsX2_willBeGroundAt ({ frames := 5, cells := 0, slots := 0, locals := 112 } : Room) D (g_T cI cZ cJ) gk_E0 [.ref h, .int (nI v)] (gd_W cI h q F B f kp g) 0 0 (fun (r : Int32) (u : gd_U) => r = gm_e (gm_hrs M 200 8 v) ∧ gd_R u M 0) (fun u => (gd_X cI h q u)) := by
  refine gk_I_of (ty := .int) (cc := cX2_willBeGroundAt) (nL := 2) (by decide +kernel) rfl (Nat.le_of_ble_eq_true rfl) ?_
  intro p e s m below meth c A Q hnm hE G RET
  obtain ⟨hz1, hz2, hz3, hz4, hz5, hz6, hz7, hz8⟩ := id wf
  have hinX2 : ∀ w ∈ wsX20, w ∈ wsX2_willBeGroundAt := fun w h9 => (List.mem_cons_of_mem _ (List.mem_append_right _ h9))
  have k31 := G.2.2.2.2.1 (.fieldLink RX2 31 "GustMillModel" "thrown" "I") (List.mem_cons_of_mem _ (List.mem_append_left _ (List.mem_append_left _ (List.mem_of_getElem? (i := 0) rfl))))
  refine gk_aload_n G dX2_willBeGroundAt_0 0 rfl ?_
  refine gk_iconst (v := nI 0) G dX2_willBeGroundAt_1 (by decide) ?_
  refine gk_topi (fun v2 ev2 => ?_)
  refine gk_put (w' := (gd_W cI h q (upd F 0 v2) B f kp g)) G hinX2 tyX2_ok nmX2 (q0 := 0) rfl rfl 0 (by decide) k31 rfl rfl rfl (Nat.le_of_ble_eq_true rfl) rfl dX2_willBeGroundAt_2 ?_
  generalize eF2 : upd F 0 v2 = F2
  have hsT : gr_st F2 B M := by rw [← eF2]; exact gr_st_0 hs
  have hT : F2 0 = nI 0 := by rw [← eF2, pk_us]; exact ev2
  refine gk_aload_n G dX2_willBeGroundAt_5 0 rfl ?_
  refine gk_iload_n G dX2_willBeGroundAt_6 1 rfl ?_
  refine gk_callIV (wr := []) G (c2_isSack_ok l D cI cZ cJ h q F2 B f kp g M v wf hsT (by omega)) gX2_willBeGroundAt_X2_isSack rfl 1 (by decide +kernel) rfl rfl ⟨(Nat.le_of_ble_eq_true rfl), (Nat.le_of_ble_eq_true rfl)⟩ rfl (q0 := 0) rfl (T := TX2) (N := 12) rfl gk_ok0 trivial [0, 1, 2, 3, 4, 5, 6, 7] rfl (by decide) [] rfl (by decide) (by decide) rfl (Nat.le_of_ble_eq_true rfl) dX2_willBeGroundAt_7 ⟨(Nat.le_of_ble_eq_true rfl), (Nat.le_of_ble_eq_true rfl)⟩ (fun r7 u7 hp7 => ?_)
  obtain rfl : r7 = nI 1 := hp7
  show gk_C p l e ({ frames := 5, cells := 0, slots := 0, locals := 112 } : Room) s m ([.ref h, .int (nI v)] : List Value).toArray below meth c 2 D A Q 0 0 (gd_W cI h q F2 B f kp g) [(0, .ref h), (1, .int (nI v))] 10 [.int (nI 1)]
  refine gk_if_eq (tgt := 21) G dX2_willBeGroundAt_10 (by decide) (fun c_10 => ?_) (fun c_10 => ?_)
  · replace c_10 := (nI_eq (a := 1) (b := 0) (by omega) (by omega)).mp c_10
    exact absurd c_10 (by decide)
  · replace c_10 := (not_congr (nI_eq (a := 1) (b := 0) (by omega) (by omega))).mp c_10
    refine gk_aload_n G dX2_willBeGroundAt_13 0 rfl ?_
    refine gk_iload_n G dX2_willBeGroundAt_14 1 rfl ?_
    refine gk_callIV (wr := []) G (c2_groundThen l D cI cZ cJ h q F2 B f kp g M v wf hsT hn hrest hh hv) gX2_willBeGroundAt_X2_groundThen rfl 1 (by decide +kernel) rfl rfl ⟨(Nat.le_of_ble_eq_true rfl), (Nat.le_of_ble_eq_true rfl)⟩ rfl (q0 := 0) rfl (T := TX2) (N := 12) rfl gk_ok0 trivial [0, 1, 2, 3, 4, 5, 6, 7] rfl (by decide) [] rfl (by decide) (by decide) rfl (Nat.le_of_ble_eq_true rfl) dX2_willBeGroundAt_15 ⟨(Nat.le_of_ble_eq_true rfl), (Nat.le_of_ble_eq_true rfl)⟩ (fun r15 u15 hp15 => ?_)
    obtain ⟨f15, kp15, g15⟩ := u15
    obtain rfl : r15 = gm_e (gm_hrs M 200 8 v) := hp15.1
    have hn15 : gr_now f15 M := hp15.2
    show gk_C p l e ({ frames := 5, cells := 0, slots := 0, locals := 112 } : Room) s m ([.ref h, .int (nI v)] : List Value).toArray below meth c 2 D A Q 0 0 (gd_W cI h q F2 B f15 kp15 g15) [(0, .ref h), (1, .int (nI v))] 18 [.int (gm_e (gm_hrs M 200 8 v))]
    refine gk_goto (tgt := 26) G dX2_willBeGroundAt_18 (by decide) ?_
    exact RET _ _ _ _ _ _ (F2, B, f15, kp15, g15) dX2_willBeGroundAt_26 rfl ⟨rfl, hsT, hn15, hT⟩ rfl (Nat.le_of_ble_eq_true rfl) (Nat.le_of_ble_eq_true rfl)
set_option maxRecDepth 100000 in
set_option maxHeartbeats 1000000 in
theorem c2_willBeGroundAt_no (l : Launch) (D : va_G) (cI cZ cJ : ClassId) (h : Nat) (q : Nat → Nat) (F : Nat → Int32) (B : Nat → Nat → Int32) (f kp g : Nat → Int32) (M : gm_M) (p0 : Int32) (wf : gm_wf M) (hs : gr_st F B M) (hn : gr_now f M) (hb : ¬ gm_rg p0 0 (M 11 0)) : gk_I l yX2_willBeGroundAt wsX2_willBeGroundAt ({ frames := 5, cells := 0, slots := 0, locals := 112 } : Room) D (g_T cI cZ cJ) gk_E0 [.ref h, .int p0] (gd_W cI h q F B f kp g) 0 0 (fun (r : Int32) (u : gd_U) => r = nI 0 ∧ gd_R u M 1) (fun u => (gd_X cI h q u)) := by
  refine gk_I_of (ty := .int) (cc := cX2_willBeGroundAt) (nL := 2) (by decide +kernel) rfl (Nat.le_of_ble_eq_true rfl) ?_
  intro p e s m below meth c A Q hnm hE G RET
  obtain ⟨hz1, hz2, hz3, hz4, hz5, hz6, hz7, hz8⟩ := id wf
  have hinX2 : ∀ w ∈ wsX20, w ∈ wsX2_willBeGroundAt := fun w h9 => (List.mem_cons_of_mem _ (List.mem_append_right _ h9))
  have k31 := G.2.2.2.2.1 (.fieldLink RX2 31 "GustMillModel" "thrown" "I") (List.mem_cons_of_mem _ (List.mem_append_left _ (List.mem_append_left _ (List.mem_of_getElem? (i := 0) rfl))))
  refine gk_aload_n G dX2_willBeGroundAt_0 0 rfl ?_
  refine gk_iconst (v := nI 0) G dX2_willBeGroundAt_1 (by decide) ?_
  refine gk_topi (fun v2 ev2 => ?_)
  refine gk_put (w' := (gd_W cI h q (upd F 0 v2) B f kp g)) G hinX2 tyX2_ok nmX2 (q0 := 0) rfl rfl 0 (by decide) k31 rfl rfl rfl (Nat.le_of_ble_eq_true rfl) rfl dX2_willBeGroundAt_2 ?_
  generalize eF2 : upd F 0 v2 = F2
  have hsT : gr_st F2 B M := by rw [← eF2]; exact gr_st_0 hs
  have hT : F2 0 = nI 0 := by rw [← eF2, pk_us]; exact ev2
  refine gk_aload_n G dX2_willBeGroundAt_5 0 rfl ?_
  refine gk_iload_n G dX2_willBeGroundAt_6 1 rfl ?_
  refine gk_callIV (wr := []) G (c2_isSack_no l D cI cZ cJ h q F2 B f kp g M p0 wf hsT hb) gX2_willBeGroundAt_X2_isSack rfl 1 (by decide +kernel) rfl rfl ⟨(Nat.le_of_ble_eq_true rfl), (Nat.le_of_ble_eq_true rfl)⟩ rfl (q0 := 0) rfl (T := TX2) (N := 12) rfl gk_ok0 trivial [0, 1, 2, 3, 4, 5, 6, 7] rfl (by decide) [] rfl (by decide) (by decide) rfl (Nat.le_of_ble_eq_true rfl) dX2_willBeGroundAt_7 ⟨(Nat.le_of_ble_eq_true rfl), (Nat.le_of_ble_eq_true rfl)⟩ (fun r7 u7 hp7 => ?_)
  obtain rfl : r7 = nI 0 := hp7
  show gk_C p l e ({ frames := 5, cells := 0, slots := 0, locals := 112 } : Room) s m ([.ref h, .int p0] : List Value).toArray below meth c 2 D A Q 0 0 (gd_W cI h q F2 B f kp g) [(0, .ref h), (1, .int p0)] 10 [.int (nI 0)]
  refine gk_if_eq (tgt := 21) G dX2_willBeGroundAt_10 (by decide) (fun c_10 => ?_) (fun c_10 => ?_)
  · replace c_10 := (nI_eq (a := 0) (b := 0) (by omega) (by omega)).mp c_10
    refine gk_aload_n G dX2_willBeGroundAt_21 0 rfl ?_
    refine gk_iconst (v := nI 1) G dX2_willBeGroundAt_22 (by decide) ?_
    refine gk_callIV (wr := []) G (c2_fail l D cI cZ cJ h q F2 B f kp g M (nI 1)) gX2_willBeGroundAt_X2_fail rfl 1 (by decide +kernel) rfl rfl ⟨(Nat.le_of_ble_eq_true rfl), (Nat.le_of_ble_eq_true rfl)⟩ rfl (q0 := 0) rfl (T := TX2) (N := 12) rfl gk_ok0 trivial [0, 1, 2, 3, 4, 5, 6, 7] rfl (by decide) [] rfl (by decide) (by decide) rfl (Nat.le_of_ble_eq_true rfl) dX2_willBeGroundAt_23 ⟨(Nat.le_of_ble_eq_true rfl), (Nat.le_of_ble_eq_true rfl)⟩ (fun r23 u23 hp23 => ?_)
    obtain rfl : r23 = nI 0 := hp23.1
    have hF23 : u23 = upd F2 0 (nI 1) := hp23.2
    have hs23 : gr_st u23 B M := by rw [hF23]; exact gr_st_0 hsT
    have hT23 : u23 0 = nI 1 := by rw [hF23, pk_us]
    show gk_C p l e ({ frames := 5, cells := 0, slots := 0, locals := 112 } : Room) s m ([.ref h, .int p0] : List Value).toArray below meth c 2 D A Q 0 0 (gd_W cI h q u23 B f kp g) [(0, .ref h), (1, .int p0)] 26 [.int (nI 0)]
    exact RET _ _ _ _ _ _ (u23, B, f, kp, g) dX2_willBeGroundAt_26 rfl ⟨rfl, hs23, hn, hT23⟩ rfl (Nat.le_of_ble_eq_true rfl) (Nat.le_of_ble_eq_true rfl)
  · replace c_10 := (not_congr (nI_eq (a := 0) (b := 0) (by omega) (by omega))).mp c_10
    exact absurd c_10 (by decide)
def gm_spr (M : gm_M) (v : Nat) : Int32 := if gm_hrs M 200 8 v = 0 then -999 else nI (M 6 v) - gm_e (gm_hrs M 200 8 v)
set_option maxRecDepth 100000 in
set_option maxHeartbeats 1000000 in
theorem c2_spareOf_ok (l : Launch) (D : va_G) (cI cZ cJ : ClassId) (h : Nat) (q : Nat → Nat) (F : Nat → Int32) (B : Nat → Nat → Int32) (f kp g : Nat → Int32) (M : gm_M) (v : Nat) (wf : gm_wf M) (hs : gr_st F B M) (hn : gr_now f M) (hrest : gm_rest M) (hh : M 9 0 < 1999000) (hv : v < M 11 0) (hgl : gm_hrs M 200 8 v < 2000000) : gk_I l yX2_spareOf wsX2_spareOf ({ frames := 5, cells := 0, slots := 0, locals := 112 } : Room) D (g_T cI cZ cJ) gk_E0 [.ref h, .int (nI v)] (gd_W cI h q F B f kp g) 0 0 (fun (r : Int32) (u : gd_U) => r = gm_spr M v ∧ gd_R u M 0) (fun u => (gd_X cI h q u)) := by
  refine gk_I_of (ty := .int) (cc := cX2_spareOf) (nL := 3) (by decide +kernel) rfl (Nat.le_of_ble_eq_true rfl) ?_
  intro p e s m below meth c A Q hnm hE G RET
  obtain ⟨hz1, hz2, hz3, hz4, hz5, hz6, hz7, hz8⟩ := id wf
  have hinX2 : ∀ w ∈ wsX20, w ∈ wsX2_spareOf := fun w h9 => (List.mem_cons_of_mem _ (List.mem_append_right _ h9))
  have k19 := G.2.2.2.2.1 (.fieldLink RX2 19 "GustMillModel" "until" "[I") (List.mem_cons_of_mem _ (List.mem_append_left _ (List.mem_append_left _ (List.mem_of_getElem? (i := 1) rfl))))
  have k31 := G.2.2.2.2.1 (.fieldLink RX2 31 "GustMillModel" "thrown" "I") (List.mem_cons_of_mem _ (List.mem_append_left _ (List.mem_append_left _ (List.mem_of_getElem? (i := 0) rfl))))
  refine gk_aload_n G dX2_spareOf_0 0 rfl ?_
  refine gk_iconst (v := nI 0) G dX2_spareOf_1 (by decide) ?_
  refine gk_topi (fun v2 ev2 => ?_)
  refine gk_put (w' := (gd_W cI h q (upd F 0 v2) B f kp g)) G hinX2 tyX2_ok nmX2 (q0 := 0) rfl rfl 0 (by decide) k31 rfl rfl rfl (Nat.le_of_ble_eq_true rfl) rfl dX2_spareOf_2 ?_
  generalize eF2 : upd F 0 v2 = F2
  have hsT : gr_st F2 B M := by rw [← eF2]; exact gr_st_0 hs
  have hT : F2 0 = nI 0 := by rw [← eF2, pk_us]; exact ev2
  refine gk_aload_n G dX2_spareOf_5 0 rfl ?_
  refine gk_iload_n G dX2_spareOf_6 1 rfl ?_
  refine gk_callIV (wr := []) G (c2_isSack_ok l D cI cZ cJ h q F2 B f kp g M v wf hsT (by omega)) gX2_spareOf_X2_isSack rfl 1 (by decide +kernel) rfl rfl ⟨(Nat.le_of_ble_eq_true rfl), (Nat.le_of_ble_eq_true rfl)⟩ rfl (q0 := 0) rfl (T := TX2) (N := 12) rfl gk_ok0 trivial [0, 1, 2, 3, 4, 5, 6, 7] rfl (by decide) [] rfl (by decide) (by decide) rfl (Nat.le_of_ble_eq_true rfl) dX2_spareOf_7 ⟨(Nat.le_of_ble_eq_true rfl), (Nat.le_of_ble_eq_true rfl)⟩ (fun r7 u7 hp7 => ?_)
  obtain rfl : r7 = nI 1 := hp7
  show gk_C p l e ({ frames := 5, cells := 0, slots := 0, locals := 112 } : Room) s m ([.ref h, .int (nI v)] : List Value).toArray below meth c 3 D A Q 0 0 (gd_W cI h q F2 B f kp g) [(0, .ref h), (1, .int (nI v))] 10 [.int (nI 1)]
  refine gk_if_ne (tgt := 19) G dX2_spareOf_10 (by decide) (fun c_10 => ?_) (fun c_10 => ?_)
  · replace c_10 := (not_congr (nI_eq (a := 1) (b := 0) (by omega) (by omega))).mp c_10
    refine gk_aload_n G dX2_spareOf_19 0 rfl ?_
    refine gk_iload_n G dX2_spareOf_20 1 rfl ?_
    refine gk_callIV (wr := []) G (c2_groundThen l D cI cZ cJ h q F2 B f kp g M v wf hsT hn hrest hh hv) gX2_spareOf_X2_groundThen rfl 1 (by decide +kernel) rfl rfl ⟨(Nat.le_of_ble_eq_true rfl), (Nat.le_of_ble_eq_true rfl)⟩ rfl (q0 := 0) rfl (T := TX2) (N := 12) rfl gk_ok0 trivial [0, 1, 2, 3, 4, 5, 6, 7] rfl (by decide) [] rfl (by decide) (by decide) rfl (Nat.le_of_ble_eq_true rfl) dX2_spareOf_21 ⟨(Nat.le_of_ble_eq_true rfl), (Nat.le_of_ble_eq_true rfl)⟩ (fun r21 u21 hp21 => ?_)
    obtain ⟨f21, kp21, g21⟩ := u21
    obtain rfl : r21 = gm_e (gm_hrs M 200 8 v) := hp21.1
    have hn21 : gr_now f21 M := hp21.2
    show gk_C p l e ({ frames := 5, cells := 0, slots := 0, locals := 112 } : Room) s m ([.ref h, .int (nI v)] : List Value).toArray below meth c 3 D A Q 0 0 (gd_W cI h q F2 B f21 kp21 g21) [(0, .ref h), (1, .int (nI v))] 24 [.int (gm_e (gm_hrs M 200 8 v))]
    refine gk_istore_n (lv' := [(2, .int (gm_e (gm_hrs M 200 8 v))), (0, .ref h), (1, .int (nI v))]) G dX2_spareOf_24 rfl (by decide) rfl ?_
    refine gk_iload_n G dX2_spareOf_25 0 rfl ?_
    refine gk_iconst (v := -1) G dX2_spareOf_26 (by decide) ?_
    refine gk_icmp_ne (tgt := 36) G dX2_spareOf_27 (by decide) (fun c_27 => ?_) (fun c_27 => ?_)
    · replace c_27 := (not_congr (gm_e_none (a := gm_hrs M 200 8 v) (by omega))).mp c_27
      refine gk_aload_n G dX2_spareOf_36 1 rfl ?_
      refine gk_get (v' := .ref (q 8)) G hinX2 (q0 := 0) rfl rfl 8 (by decide) k19 rfl rfl dX2_spareOf_37 ?_
      refine gk_iload_n G dX2_spareOf_40 2 rfl ?_
      refine gk_iald (v := nI (M 6 v)) G (q0 := 4) (t0 := 0) rfl rfl v rfl (by omega) (by decide) (hsT.2.2.2.2.2.2.2 v (by omega)) dX2_spareOf_41 ?_
      refine gk_iload_n G dX2_spareOf_42 0 rfl ?_
      refine gk_isub (v := (nI (M 6 v)) - (gm_e (gm_hrs M 200 8 v))) G dX2_spareOf_43 rfl ?_
      exact RET _ _ _ _ _ _ (F2, B, f21, kp21, g21) dX2_spareOf_44 rfl ⟨(by unfold gm_spr; first | rw [if_neg c_27] | rw [if_pos c_27] | rw [if_pos (Decidable.not_not.mp c_27)]), hsT, hn21, hT⟩ rfl (Nat.le_of_ble_eq_true rfl) (Nat.le_of_ble_eq_true rfl)
    · replace c_27 := (gm_e_none (a := gm_hrs M 200 8 v) (by omega)).mp c_27
      refine gk_sipush (v := -999) G dX2_spareOf_30 (by decide) ?_
      refine gk_goto (tgt := 44) G dX2_spareOf_33 (by decide) ?_
      exact RET _ _ _ _ _ _ (F2, B, f21, kp21, g21) dX2_spareOf_44 rfl ⟨(by unfold gm_spr; first | rw [if_neg c_27] | rw [if_pos c_27] | rw [if_pos (Decidable.not_not.mp c_27)]), hsT, hn21, hT⟩ rfl (Nat.le_of_ble_eq_true rfl) (Nat.le_of_ble_eq_true rfl)
  · replace c_10 := (nI_eq (a := 1) (b := 0) (by omega) (by omega)).mp c_10
    exact absurd c_10 (by decide)
set_option maxRecDepth 100000 in
set_option maxHeartbeats 1000000 in
theorem c2_spareOf_no (l : Launch) (D : va_G) (cI cZ cJ : ClassId) (h : Nat) (q : Nat → Nat) (F : Nat → Int32) (B : Nat → Nat → Int32) (f kp g : Nat → Int32) (M : gm_M) (p0 : Int32) (wf : gm_wf M) (hs : gr_st F B M) (hn : gr_now f M) (hb : ¬ gm_rg p0 0 (M 11 0)) : gk_I l yX2_spareOf wsX2_spareOf ({ frames := 5, cells := 0, slots := 0, locals := 112 } : Room) D (g_T cI cZ cJ) gk_E0 [.ref h, .int p0] (gd_W cI h q F B f kp g) 0 0 (fun (r : Int32) (u : gd_U) => r = nI 0 ∧ gd_R u M 1) (fun u => (gd_X cI h q u)) := by
  refine gk_I_of (ty := .int) (cc := cX2_spareOf) (nL := 3) (by decide +kernel) rfl (Nat.le_of_ble_eq_true rfl) ?_
  intro p e s m below meth c A Q hnm hE G RET
  obtain ⟨hz1, hz2, hz3, hz4, hz5, hz6, hz7, hz8⟩ := id wf
  have hinX2 : ∀ w ∈ wsX20, w ∈ wsX2_spareOf := fun w h9 => (List.mem_cons_of_mem _ (List.mem_append_right _ h9))
  have k31 := G.2.2.2.2.1 (.fieldLink RX2 31 "GustMillModel" "thrown" "I") (List.mem_cons_of_mem _ (List.mem_append_left _ (List.mem_append_left _ (List.mem_of_getElem? (i := 0) rfl))))
  refine gk_aload_n G dX2_spareOf_0 0 rfl ?_
  refine gk_iconst (v := nI 0) G dX2_spareOf_1 (by decide) ?_
  refine gk_topi (fun v2 ev2 => ?_)
  refine gk_put (w' := (gd_W cI h q (upd F 0 v2) B f kp g)) G hinX2 tyX2_ok nmX2 (q0 := 0) rfl rfl 0 (by decide) k31 rfl rfl rfl (Nat.le_of_ble_eq_true rfl) rfl dX2_spareOf_2 ?_
  generalize eF2 : upd F 0 v2 = F2
  have hsT : gr_st F2 B M := by rw [← eF2]; exact gr_st_0 hs
  have hT : F2 0 = nI 0 := by rw [← eF2, pk_us]; exact ev2
  refine gk_aload_n G dX2_spareOf_5 0 rfl ?_
  refine gk_iload_n G dX2_spareOf_6 1 rfl ?_
  refine gk_callIV (wr := []) G (c2_isSack_no l D cI cZ cJ h q F2 B f kp g M p0 wf hsT hb) gX2_spareOf_X2_isSack rfl 1 (by decide +kernel) rfl rfl ⟨(Nat.le_of_ble_eq_true rfl), (Nat.le_of_ble_eq_true rfl)⟩ rfl (q0 := 0) rfl (T := TX2) (N := 12) rfl gk_ok0 trivial [0, 1, 2, 3, 4, 5, 6, 7] rfl (by decide) [] rfl (by decide) (by decide) rfl (Nat.le_of_ble_eq_true rfl) dX2_spareOf_7 ⟨(Nat.le_of_ble_eq_true rfl), (Nat.le_of_ble_eq_true rfl)⟩ (fun r7 u7 hp7 => ?_)
  obtain rfl : r7 = nI 0 := hp7
  show gk_C p l e ({ frames := 5, cells := 0, slots := 0, locals := 112 } : Room) s m ([.ref h, .int p0] : List Value).toArray below meth c 3 D A Q 0 0 (gd_W cI h q F2 B f kp g) [(0, .ref h), (1, .int p0)] 10 [.int (nI 0)]
  refine gk_if_ne (tgt := 19) G dX2_spareOf_10 (by decide) (fun c_10 => ?_) (fun c_10 => ?_)
  · replace c_10 := (not_congr (nI_eq (a := 0) (b := 0) (by omega) (by omega))).mp c_10
    exact absurd c_10 (by decide)
  · replace c_10 := (nI_eq (a := 0) (b := 0) (by omega) (by omega)).mp c_10
    refine gk_aload_n G dX2_spareOf_13 0 rfl ?_
    refine gk_iconst (v := nI 1) G dX2_spareOf_14 (by decide) ?_
    refine gk_callIV (wr := []) G (c2_fail l D cI cZ cJ h q F2 B f kp g M (nI 1)) gX2_spareOf_X2_fail rfl 1 (by decide +kernel) rfl rfl ⟨(Nat.le_of_ble_eq_true rfl), (Nat.le_of_ble_eq_true rfl)⟩ rfl (q0 := 0) rfl (T := TX2) (N := 12) rfl gk_ok0 trivial [0, 1, 2, 3, 4, 5, 6, 7] rfl (by decide) [] rfl (by decide) (by decide) rfl (Nat.le_of_ble_eq_true rfl) dX2_spareOf_15 ⟨(Nat.le_of_ble_eq_true rfl), (Nat.le_of_ble_eq_true rfl)⟩ (fun r15 u15 hp15 => ?_)
    obtain rfl : r15 = nI 0 := hp15.1
    have hF15 : u15 = upd F2 0 (nI 1) := hp15.2
    have hs15 : gr_st u15 B M := by rw [hF15]; exact gr_st_0 hsT
    have hT15 : u15 0 = nI 1 := by rw [hF15, pk_us]
    show gk_C p l e ({ frames := 5, cells := 0, slots := 0, locals := 112 } : Room) s m ([.ref h, .int p0] : List Value).toArray below meth c 3 D A Q 0 0 (gd_W cI h q u15 B f kp g) [(0, .ref h), (1, .int p0)] 18 [.int (nI 0)]
    exact RET _ _ _ _ _ _ (u15, B, f, kp, g) dX2_spareOf_18 rfl ⟨rfl, hs15, hn, hT15⟩ rfl (Nat.le_of_ble_eq_true rfl) (Nat.le_of_ble_eq_true rfl)
set_option maxRecDepth 100000 in
set_option maxHeartbeats 1000000 in
theorem c2_lateWith_ok (l : Launch) (D : va_G) (cI cZ cJ : ClassId) (h : Nat) (q : Nat → Nat) (F : Nat → Int32) (B : Nat → Nat → Int32) (f kp g : Nat → Int32) (M : gm_M) (v vo : Nat) (wf : gm_wf M) (hs : gr_st F B M) (hn : gr_now f M) (hrest : gm_rest M) (hh : M 9 0 < 1999000) (hv : v < 3) (hvo : vo ≤ 1) : gk_I l yX2_lateWith wsX2_lateWith ({ frames := 5, cells := 0, slots := 0, locals := 115 } : Room) D (g_T cI cZ cJ) gk_E0 [.ref h, .int (nI v), .int (nI vo)] (gd_W cI h q F B f kp g) 0 0 (fun (r : Int32) (u : gd_U) => r = nI (gm_lw M v vo) ∧ gd_R u M 0) (fun u => (gd_X cI h q u)) := by
  refine gk_I_of (ty := .int) (cc := cX2_lateWith) (nL := 3) (by decide +kernel) rfl (Nat.le_of_ble_eq_true rfl) ?_
  intro p e s m below meth c A Q hnm hE G RET
  obtain ⟨hz1, hz2, hz3, hz4, hz5, hz6, hz7, hz8⟩ := id wf
  have hinX2 : ∀ w ∈ wsX20, w ∈ wsX2_lateWith := fun w h9 => (List.mem_cons_of_mem _ (List.mem_append_right _ h9))
  have k31 := G.2.2.2.2.1 (.fieldLink RX2 31 "GustMillModel" "thrown" "I") (List.mem_cons_of_mem _ (List.mem_append_left _ (List.mem_append_left _ (List.mem_of_getElem? (i := 0) rfl))))
  refine gk_aload_n G dX2_lateWith_0 0 rfl ?_
  refine gk_iconst (v := nI 0) G dX2_lateWith_1 (by decide) ?_
  refine gk_topi (fun v2 ev2 => ?_)
  refine gk_put (w' := (gd_W cI h q (upd F 0 v2) B f kp g)) G hinX2 tyX2_ok nmX2 (q0 := 0) rfl rfl 0 (by decide) k31 rfl rfl rfl (Nat.le_of_ble_eq_true rfl) rfl dX2_lateWith_2 ?_
  generalize eF2 : upd F 0 v2 = F2
  have hsT : gr_st F2 B M := by rw [← eF2]; exact gr_st_0 hs
  have hT : F2 0 = nI 0 := by rw [← eF2, pk_us]; exact ev2
  refine gk_iload_n G dX2_lateWith_5 1 rfl ?_
  refine gk_iconst (v := nI 0) G dX2_lateWith_6 (by decide) ?_
  refine gk_iconst (v := nI 2) G dX2_lateWith_7 (by decide) ?_
  refine gk_callIS (wc := []) (wr := (gd_W cI h q F2 B f kp g)) (isC := []) (isR := [0, 1, 2, 3, 4, 5, 6, 7]) G (c2_isIn l D cI cZ cJ (nI v) (nI 0) (nI 2)) gX2_lateWith_X2_isIn rfl 3 (by decide +kernel) rfl rfl ⟨(Nat.le_of_ble_eq_true rfl), (Nat.le_of_ble_eq_true rfl)⟩ rfl gk_ok0 trivial rfl (by decide) rfl (by decide) (by decide) rfl (Nat.le_of_ble_eq_true rfl) dX2_lateWith_8 ⟨(Nat.le_of_ble_eq_true rfl), (Nat.le_of_ble_eq_true rfl)⟩ (fun r8 u8 hp8 => ?_)
  obtain rfl : r8 = nI 1 := (hp8.trans (gm_b1 (gm_in1 (by omega) (by omega) (by decide))))
  show gk_C p l e ({ frames := 5, cells := 0, slots := 0, locals := 115 } : Room) s m ([.ref h, .int (nI v), .int (nI vo)] : List Value).toArray below meth c 3 D A Q 0 0 (gd_W cI h q F2 B f kp g) [(0, .ref h), (1, .int (nI v)), (2, .int (nI vo))] 11 [.int (nI 1)]
  refine gk_if_eq (tgt := 23) G dX2_lateWith_11 (by decide) (fun c_11 => ?_) (fun c_11 => ?_)
  · replace c_11 := (nI_eq (a := 1) (b := 0) (by omega) (by omega)).mp c_11
    exact absurd c_11 (by decide)
  · replace c_11 := (not_congr (nI_eq (a := 1) (b := 0) (by omega) (by omega))).mp c_11
    refine gk_aload_n G dX2_lateWith_14 0 rfl ?_
    refine gk_iload_n G dX2_lateWith_15 1 rfl ?_
    refine gk_iload_n G dX2_lateWith_16 2 rfl ?_
    refine gk_callIV (wr := []) G (c2_lostBy l D cI cZ cJ h q F2 B f kp g M v vo wf hsT hn hrest hh (by omega) hvo) gX2_lateWith_X2_lostBy rfl 2 (by decide +kernel) rfl rfl ⟨(Nat.le_of_ble_eq_true rfl), (Nat.le_of_ble_eq_true rfl)⟩ rfl (q0 := 0) rfl (T := TX2) (N := 12) rfl gk_ok0 trivial [0, 1, 2, 3, 4, 5, 6, 7] rfl (by decide) [] rfl (by decide) (by decide) rfl (Nat.le_of_ble_eq_true rfl) dX2_lateWith_17 ⟨(Nat.le_of_ble_eq_true rfl), (Nat.le_of_ble_eq_true rfl)⟩ (fun r17 u17 hp17 => ?_)
    obtain ⟨F17, f17, kp17, g17⟩ := u17
    obtain rfl : r17 = nI (gm_lw M v vo) := hp17.1
    have hs17 : gr_st F17 B M := hp17.2.1
    have hn17 : gr_now f17 M := hp17.2.2.1
    have h017 : F17 0 = F2 0 := hp17.2.2.2
    have hT17 : F17 0 = nI 0 := h017.trans hT
    show gk_C p l e ({ frames := 5, cells := 0, slots := 0, locals := 115 } : Room) s m ([.ref h, .int (nI v), .int (nI vo)] : List Value).toArray below meth c 3 D A Q 0 0 (gd_W cI h q F17 B f17 kp17 g17) [(0, .ref h), (1, .int (nI v)), (2, .int (nI vo))] 20 [.int (nI (gm_lw M v vo))]
    refine gk_goto (tgt := 28) G dX2_lateWith_20 (by decide) ?_
    exact RET _ _ _ _ _ _ (F17, B, f17, kp17, g17) dX2_lateWith_28 rfl ⟨rfl, hs17, hn17, hT17⟩ rfl (Nat.le_of_ble_eq_true rfl) (Nat.le_of_ble_eq_true rfl)
set_option maxRecDepth 100000 in
set_option maxHeartbeats 1000000 in
theorem c2_lateWith_no (l : Launch) (D : va_G) (cI cZ cJ : ClassId) (h : Nat) (q : Nat → Nat) (F : Nat → Int32) (B : Nat → Nat → Int32) (f kp g : Nat → Int32) (M : gm_M) (p0 p1 : Int32) (wf : gm_wf M) (hs : gr_st F B M) (hn : gr_now f M) (hb : ¬ gm_rg p0 0 3) : gk_I l yX2_lateWith wsX2_lateWith ({ frames := 5, cells := 0, slots := 0, locals := 115 } : Room) D (g_T cI cZ cJ) gk_E0 [.ref h, .int p0, .int p1] (gd_W cI h q F B f kp g) 0 0 (fun (r : Int32) (u : gd_U) => r = nI 0 ∧ gd_R u M 1) (fun u => (gd_X cI h q u)) := by
  refine gk_I_of (ty := .int) (cc := cX2_lateWith) (nL := 3) (by decide +kernel) rfl (Nat.le_of_ble_eq_true rfl) ?_
  intro p e s m below meth c A Q hnm hE G RET
  obtain ⟨hz1, hz2, hz3, hz4, hz5, hz6, hz7, hz8⟩ := id wf
  have hinX2 : ∀ w ∈ wsX20, w ∈ wsX2_lateWith := fun w h9 => (List.mem_cons_of_mem _ (List.mem_append_right _ h9))
  have k31 := G.2.2.2.2.1 (.fieldLink RX2 31 "GustMillModel" "thrown" "I") (List.mem_cons_of_mem _ (List.mem_append_left _ (List.mem_append_left _ (List.mem_of_getElem? (i := 0) rfl))))
  refine gk_aload_n G dX2_lateWith_0 0 rfl ?_
  refine gk_iconst (v := nI 0) G dX2_lateWith_1 (by decide) ?_
  refine gk_topi (fun v2 ev2 => ?_)
  refine gk_put (w' := (gd_W cI h q (upd F 0 v2) B f kp g)) G hinX2 tyX2_ok nmX2 (q0 := 0) rfl rfl 0 (by decide) k31 rfl rfl rfl (Nat.le_of_ble_eq_true rfl) rfl dX2_lateWith_2 ?_
  generalize eF2 : upd F 0 v2 = F2
  have hsT : gr_st F2 B M := by rw [← eF2]; exact gr_st_0 hs
  have hT : F2 0 = nI 0 := by rw [← eF2, pk_us]; exact ev2
  refine gk_iload_n G dX2_lateWith_5 1 rfl ?_
  refine gk_iconst (v := nI 0) G dX2_lateWith_6 (by decide) ?_
  refine gk_iconst (v := nI 2) G dX2_lateWith_7 (by decide) ?_
  refine gk_callIS (wc := []) (wr := (gd_W cI h q F2 B f kp g)) (isC := []) (isR := [0, 1, 2, 3, 4, 5, 6, 7]) G (c2_isIn l D cI cZ cJ p0 (nI 0) (nI 2)) gX2_lateWith_X2_isIn rfl 3 (by decide +kernel) rfl rfl ⟨(Nat.le_of_ble_eq_true rfl), (Nat.le_of_ble_eq_true rfl)⟩ rfl gk_ok0 trivial rfl (by decide) rfl (by decide) (by decide) rfl (Nat.le_of_ble_eq_true rfl) dX2_lateWith_8 ⟨(Nat.le_of_ble_eq_true rfl), (Nat.le_of_ble_eq_true rfl)⟩ (fun r8 u8 hp8 => ?_)
  obtain rfl : r8 = nI 0 := (hp8.trans (gm_b0 (gm_in0 hb (by decide) (by decide))))
  show gk_C p l e ({ frames := 5, cells := 0, slots := 0, locals := 115 } : Room) s m ([.ref h, .int p0, .int p1] : List Value).toArray below meth c 3 D A Q 0 0 (gd_W cI h q F2 B f kp g) [(0, .ref h), (1, .int p0), (2, .int p1)] 11 [.int (nI 0)]
  refine gk_if_eq (tgt := 23) G dX2_lateWith_11 (by decide) (fun c_11 => ?_) (fun c_11 => ?_)
  · replace c_11 := (nI_eq (a := 0) (b := 0) (by omega) (by omega)).mp c_11
    refine gk_aload_n G dX2_lateWith_23 0 rfl ?_
    refine gk_iconst (v := nI 1) G dX2_lateWith_24 (by decide) ?_
    refine gk_callIV (wr := []) G (c2_fail l D cI cZ cJ h q F2 B f kp g M (nI 1)) gX2_lateWith_X2_fail rfl 1 (by decide +kernel) rfl rfl ⟨(Nat.le_of_ble_eq_true rfl), (Nat.le_of_ble_eq_true rfl)⟩ rfl (q0 := 0) rfl (T := TX2) (N := 12) rfl gk_ok0 trivial [0, 1, 2, 3, 4, 5, 6, 7] rfl (by decide) [] rfl (by decide) (by decide) rfl (Nat.le_of_ble_eq_true rfl) dX2_lateWith_25 ⟨(Nat.le_of_ble_eq_true rfl), (Nat.le_of_ble_eq_true rfl)⟩ (fun r25 u25 hp25 => ?_)
    obtain rfl : r25 = nI 0 := hp25.1
    have hF25 : u25 = upd F2 0 (nI 1) := hp25.2
    have hs25 : gr_st u25 B M := by rw [hF25]; exact gr_st_0 hsT
    have hT25 : u25 0 = nI 1 := by rw [hF25, pk_us]
    show gk_C p l e ({ frames := 5, cells := 0, slots := 0, locals := 115 } : Room) s m ([.ref h, .int p0, .int p1] : List Value).toArray below meth c 3 D A Q 0 0 (gd_W cI h q u25 B f kp g) [(0, .ref h), (1, .int p0), (2, .int p1)] 28 [.int (nI 0)]
    exact RET _ _ _ _ _ _ (u25, B, f, kp, g) dX2_lateWith_28 rfl ⟨rfl, hs25, hn, hT25⟩ rfl (Nat.le_of_ble_eq_true rfl) (Nat.le_of_ble_eq_true rfl)
  · replace c_11 := (not_congr (nI_eq (a := 0) (b := 0) (by omega) (by omega))).mp c_11
    exact absurd c_11 (by decide)
set_option maxRecDepth 100000 in
set_option maxHeartbeats 1000000 in
theorem c2_bestRule (l : Launch) (D : va_G) (cI cZ cJ : ClassId) (h : Nat) (q : Nat → Nat) (F : Nat → Int32) (B : Nat → Nat → Int32) (f kp g : Nat → Int32) (M : gm_M) (wf : gm_wf M) (hs : gr_st F B M) (hn : gr_now f M) (hrest : gm_rest M) (hh : M 9 0 < 1999000) : gk_I l yX2_bestRule wsX2_bestRule ({ frames := 6, cells := 0, slots := 0, locals := 139 } : Room) D (g_T cI cZ cJ) gk_E0 [.ref h] (gd_W cI h q F B f kp g) 0 0 (fun (r : Int32) (u : gd_U) => r = nI ((gm_bst M 2).1) ∧ gd_R u M 0) (fun u => (gd_X cI h q u)) := by
  refine gk_I_of (ty := .int) (cc := cX2_bestRule) (nL := 1) (by decide +kernel) rfl (Nat.le_of_ble_eq_true rfl) ?_
  intro p e s m below meth c A Q hnm hE G RET
  obtain ⟨hz1, hz2, hz3, hz4, hz5, hz6, hz7, hz8⟩ := id wf
  refine gk_aload_n G dX2_bestRule_0 0 rfl ?_
  refine gk_aload_n G dX2_bestRule_1 0 rfl ?_
  refine gk_callIV (wr := []) G (c2_best l D cI cZ cJ h q F B f kp g M wf hs hn hrest hh) gX2_bestRule_X2_best rfl 0 (by decide +kernel) rfl rfl ⟨(Nat.le_of_ble_eq_true rfl), (Nat.le_of_ble_eq_true rfl)⟩ rfl (q0 := 0) rfl (T := TX2) (N := 12) rfl gk_ok0 trivial [0, 1, 2, 3, 4, 5, 6, 7] rfl (by decide) [] rfl (by decide) (by decide) rfl (Nat.le_of_ble_eq_true rfl) dX2_bestRule_2 ⟨(Nat.le_of_ble_eq_true rfl), (Nat.le_of_ble_eq_true rfl)⟩ (fun r2 u2 hp2 => ?_)
  obtain ⟨F2, f2, kp2, g2⟩ := u2
  obtain rfl : r2 = nI ((gm_bst M 2).1) := hp2.1
  have hs2 : gr_st F2 B M := hp2.2.1
  have hn2 : gr_now f2 M := hp2.2.2.1
  have h02 : F2 0 = F 0 := hp2.2.2.2
  show gk_C p l e ({ frames := 6, cells := 0, slots := 0, locals := 139 } : Room) s m ([.ref h] : List Value).toArray below meth c 1 D A Q 0 0 (gd_W cI h q F2 B f2 kp2 g2) [(0, .ref h)] 5 [.int (nI ((gm_bst M 2).1)), .ref h]
  refine gk_callIV (wr := []) G (c2_told l D cI cZ cJ h q F2 B f2 kp2 g2 M (nI ((gm_bst M 2).1))) gX2_bestRule_X2_told rfl 1 (by decide +kernel) rfl rfl ⟨(Nat.le_of_ble_eq_true rfl), (Nat.le_of_ble_eq_true rfl)⟩ rfl (q0 := 0) rfl (T := TX2) (N := 12) rfl gk_ok0 trivial [0, 1, 2, 3, 4, 5, 6, 7] rfl (by decide) [] rfl (by decide) (by decide) rfl (Nat.le_of_ble_eq_true rfl) dX2_bestRule_5 ⟨(Nat.le_of_ble_eq_true rfl), (Nat.le_of_ble_eq_true rfl)⟩ (fun r5 u5 hp5 => ?_)
  obtain rfl : r5 = (nI ((gm_bst M 2).1)) := hp5.1
  have hF5 : u5 = upd F2 0 (nI 0) := hp5.2
  have hs5 : gr_st u5 B M := by rw [hF5]; exact gr_st_0 hs2
  have hT5 : u5 0 = nI 0 := by rw [hF5, pk_us]
  show gk_C p l e ({ frames := 6, cells := 0, slots := 0, locals := 139 } : Room) s m ([.ref h] : List Value).toArray below meth c 1 D A Q 0 0 (gd_W cI h q u5 B f2 kp2 g2) [(0, .ref h)] 8 [.int ((nI ((gm_bst M 2).1)))]
  exact RET _ _ _ _ _ _ (u5, B, f2, kp2, g2) dX2_bestRule_8 rfl ⟨rfl, hs5, hn2, hT5⟩ rfl (Nat.le_of_ble_eq_true rfl) (Nat.le_of_ble_eq_true rfl)
set_option maxRecDepth 100000 in
set_option maxHeartbeats 1000000 in
theorem c2_groundIn_ok (l : Launch) (D : va_G) (cI cZ cJ : ClassId) (h : Nat) (q : Nat → Nat) (F : Nat → Int32) (B : Nat → Nat → Int32) (f kp g : Nat → Int32) (M : gm_M) (v : Nat) (wf : gm_wf M) (hs : gr_st F B M) (hn : gr_now f M) (hrest : gm_rest M) (hh : M 9 0 < 1999000) (h1 : 1 ≤ v) (hv : v < 61) : gk_I l yX2_groundIn wsX2_groundIn ({ frames := 5, cells := 0, slots := 0, locals := 113 } : Room) D (g_T cI cZ cJ) gk_E0 [.ref h, .int (nI v)] (gd_W cI h q F B f kp g) 0 0 (fun (r : Int32) (u : gd_U) => r = nI (gm_hrs M v 16 0 - M 16 0) ∧ gd_R u M 0) (fun u => (gd_X cI h q u)) := by
  refine gk_I_of (ty := .int) (cc := cX2_groundIn) (nL := 2) (by decide +kernel) rfl (Nat.le_of_ble_eq_true rfl) ?_
  intro p e s m below meth c A Q hnm hE G RET
  obtain ⟨hz1, hz2, hz3, hz4, hz5, hz6, hz7, hz8⟩ := id wf
  have hinX2 : ∀ w ∈ wsX20, w ∈ wsX2_groundIn := fun w h9 => (List.mem_cons_of_mem _ (List.mem_append_right _ h9))
  have k31 := G.2.2.2.2.1 (.fieldLink RX2 31 "GustMillModel" "thrown" "I") (List.mem_cons_of_mem _ (List.mem_append_left _ (List.mem_append_left _ (List.mem_of_getElem? (i := 0) rfl))))
  refine gk_aload_n G dX2_groundIn_0 0 rfl ?_
  refine gk_iconst (v := nI 0) G dX2_groundIn_1 (by decide) ?_
  refine gk_topi (fun v2 ev2 => ?_)
  refine gk_put (w' := (gd_W cI h q (upd F 0 v2) B f kp g)) G hinX2 tyX2_ok nmX2 (q0 := 0) rfl rfl 0 (by decide) k31 rfl rfl rfl (Nat.le_of_ble_eq_true rfl) rfl dX2_groundIn_2 ?_
  generalize eF2 : upd F 0 v2 = F2
  have hsT : gr_st F2 B M := by rw [← eF2]; exact gr_st_0 hs
  have hT : F2 0 = nI 0 := by rw [← eF2, pk_us]; exact ev2
  refine gk_iload_n G dX2_groundIn_5 1 rfl ?_
  refine gk_iconst (v := nI 1) G dX2_groundIn_6 (by decide) ?_
  refine gk_bipush (v := nI 60) G dX2_groundIn_7 (by decide) ?_
  refine gk_callIS (wc := []) (wr := (gd_W cI h q F2 B f kp g)) (isC := []) (isR := [0, 1, 2, 3, 4, 5, 6, 7]) G (c2_isIn l D cI cZ cJ (nI v) (nI 1) (nI 60)) gX2_groundIn_X2_isIn rfl 3 (by decide +kernel) rfl rfl ⟨(Nat.le_of_ble_eq_true rfl), (Nat.le_of_ble_eq_true rfl)⟩ rfl gk_ok0 trivial rfl (by decide) rfl (by decide) (by decide) rfl (Nat.le_of_ble_eq_true rfl) dX2_groundIn_9 ⟨(Nat.le_of_ble_eq_true rfl), (Nat.le_of_ble_eq_true rfl)⟩ (fun r9 u9 hp9 => ?_)
  obtain rfl : r9 = nI 1 := (hp9.trans (gm_b1 (gm_in1 (by omega) (by omega) (by decide))))
  show gk_C p l e ({ frames := 5, cells := 0, slots := 0, locals := 113 } : Room) s m ([.ref h, .int (nI v)] : List Value).toArray below meth c 2 D A Q 0 0 (gd_W cI h q F2 B f kp g) [(0, .ref h), (1, .int (nI v))] 12 [.int (nI 1)]
  refine gk_if_eq (tgt := 23) G dX2_groundIn_12 (by decide) (fun c_12 => ?_) (fun c_12 => ?_)
  · replace c_12 := (nI_eq (a := 1) (b := 0) (by omega) (by omega)).mp c_12
    exact absurd c_12 (by decide)
  · replace c_12 := (not_congr (nI_eq (a := 1) (b := 0) (by omega) (by omega))).mp c_12
    refine gk_aload_n G dX2_groundIn_15 0 rfl ?_
    refine gk_iload_n G dX2_groundIn_16 1 rfl ?_
    refine gk_callIV (wr := []) G (c2_milledIn l D cI cZ cJ h q F2 B f kp g M v wf hsT hn hrest (by omega) hh) gX2_groundIn_X2_milledIn rfl 1 (by decide +kernel) rfl rfl ⟨(Nat.le_of_ble_eq_true rfl), (Nat.le_of_ble_eq_true rfl)⟩ rfl (q0 := 0) rfl (T := TX2) (N := 12) rfl gk_ok0 trivial [0, 1, 2, 3, 4, 5, 6, 7] rfl (by decide) [] rfl (by decide) (by decide) rfl (Nat.le_of_ble_eq_true rfl) dX2_groundIn_17 ⟨(Nat.le_of_ble_eq_true rfl), (Nat.le_of_ble_eq_true rfl)⟩ (fun r17 u17 hp17 => ?_)
    obtain ⟨f17, kp17, g17⟩ := u17
    obtain rfl : r17 = nI (gm_hrs M v 16 0 - M 16 0) := hp17.1
    have hn17 : gr_now f17 M := hp17.2
    show gk_C p l e ({ frames := 5, cells := 0, slots := 0, locals := 113 } : Room) s m ([.ref h, .int (nI v)] : List Value).toArray below meth c 2 D A Q 0 0 (gd_W cI h q F2 B f17 kp17 g17) [(0, .ref h), (1, .int (nI v))] 20 [.int (nI (gm_hrs M v 16 0 - M 16 0))]
    refine gk_goto (tgt := 28) G dX2_groundIn_20 (by decide) ?_
    exact RET _ _ _ _ _ _ (F2, B, f17, kp17, g17) dX2_groundIn_28 rfl ⟨rfl, hsT, hn17, hT⟩ rfl (Nat.le_of_ble_eq_true rfl) (Nat.le_of_ble_eq_true rfl)
set_option maxRecDepth 100000 in
set_option maxHeartbeats 1000000 in
theorem c2_groundIn_no (l : Launch) (D : va_G) (cI cZ cJ : ClassId) (h : Nat) (q : Nat → Nat) (F : Nat → Int32) (B : Nat → Nat → Int32) (f kp g : Nat → Int32) (M : gm_M) (p0 : Int32) (wf : gm_wf M) (hs : gr_st F B M) (hn : gr_now f M) (hb : ¬ gm_rg p0 1 61) : gk_I l yX2_groundIn wsX2_groundIn ({ frames := 5, cells := 0, slots := 0, locals := 113 } : Room) D (g_T cI cZ cJ) gk_E0 [.ref h, .int p0] (gd_W cI h q F B f kp g) 0 0 (fun (r : Int32) (u : gd_U) => r = nI 0 ∧ gd_R u M 1) (fun u => (gd_X cI h q u)) := by
  refine gk_I_of (ty := .int) (cc := cX2_groundIn) (nL := 2) (by decide +kernel) rfl (Nat.le_of_ble_eq_true rfl) ?_
  intro p e s m below meth c A Q hnm hE G RET
  obtain ⟨hz1, hz2, hz3, hz4, hz5, hz6, hz7, hz8⟩ := id wf
  have hinX2 : ∀ w ∈ wsX20, w ∈ wsX2_groundIn := fun w h9 => (List.mem_cons_of_mem _ (List.mem_append_right _ h9))
  have k31 := G.2.2.2.2.1 (.fieldLink RX2 31 "GustMillModel" "thrown" "I") (List.mem_cons_of_mem _ (List.mem_append_left _ (List.mem_append_left _ (List.mem_of_getElem? (i := 0) rfl))))
  refine gk_aload_n G dX2_groundIn_0 0 rfl ?_
  refine gk_iconst (v := nI 0) G dX2_groundIn_1 (by decide) ?_
  refine gk_topi (fun v2 ev2 => ?_)
  refine gk_put (w' := (gd_W cI h q (upd F 0 v2) B f kp g)) G hinX2 tyX2_ok nmX2 (q0 := 0) rfl rfl 0 (by decide) k31 rfl rfl rfl (Nat.le_of_ble_eq_true rfl) rfl dX2_groundIn_2 ?_
  generalize eF2 : upd F 0 v2 = F2
  have hsT : gr_st F2 B M := by rw [← eF2]; exact gr_st_0 hs
  have hT : F2 0 = nI 0 := by rw [← eF2, pk_us]; exact ev2
  refine gk_iload_n G dX2_groundIn_5 1 rfl ?_
  refine gk_iconst (v := nI 1) G dX2_groundIn_6 (by decide) ?_
  refine gk_bipush (v := nI 60) G dX2_groundIn_7 (by decide) ?_
  refine gk_callIS (wc := []) (wr := (gd_W cI h q F2 B f kp g)) (isC := []) (isR := [0, 1, 2, 3, 4, 5, 6, 7]) G (c2_isIn l D cI cZ cJ p0 (nI 1) (nI 60)) gX2_groundIn_X2_isIn rfl 3 (by decide +kernel) rfl rfl ⟨(Nat.le_of_ble_eq_true rfl), (Nat.le_of_ble_eq_true rfl)⟩ rfl gk_ok0 trivial rfl (by decide) rfl (by decide) (by decide) rfl (Nat.le_of_ble_eq_true rfl) dX2_groundIn_9 ⟨(Nat.le_of_ble_eq_true rfl), (Nat.le_of_ble_eq_true rfl)⟩ (fun r9 u9 hp9 => ?_)
  obtain rfl : r9 = nI 0 := (hp9.trans (gm_b0 (gm_in0 hb (by decide) (by decide))))
  show gk_C p l e ({ frames := 5, cells := 0, slots := 0, locals := 113 } : Room) s m ([.ref h, .int p0] : List Value).toArray below meth c 2 D A Q 0 0 (gd_W cI h q F2 B f kp g) [(0, .ref h), (1, .int p0)] 12 [.int (nI 0)]
  refine gk_if_eq (tgt := 23) G dX2_groundIn_12 (by decide) (fun c_12 => ?_) (fun c_12 => ?_)
  · replace c_12 := (nI_eq (a := 0) (b := 0) (by omega) (by omega)).mp c_12
    refine gk_aload_n G dX2_groundIn_23 0 rfl ?_
    refine gk_iconst (v := nI 1) G dX2_groundIn_24 (by decide) ?_
    refine gk_callIV (wr := []) G (c2_fail l D cI cZ cJ h q F2 B f kp g M (nI 1)) gX2_groundIn_X2_fail rfl 1 (by decide +kernel) rfl rfl ⟨(Nat.le_of_ble_eq_true rfl), (Nat.le_of_ble_eq_true rfl)⟩ rfl (q0 := 0) rfl (T := TX2) (N := 12) rfl gk_ok0 trivial [0, 1, 2, 3, 4, 5, 6, 7] rfl (by decide) [] rfl (by decide) (by decide) rfl (Nat.le_of_ble_eq_true rfl) dX2_groundIn_25 ⟨(Nat.le_of_ble_eq_true rfl), (Nat.le_of_ble_eq_true rfl)⟩ (fun r25 u25 hp25 => ?_)
    obtain rfl : r25 = nI 0 := hp25.1
    have hF25 : u25 = upd F2 0 (nI 1) := hp25.2
    have hs25 : gr_st u25 B M := by rw [hF25]; exact gr_st_0 hsT
    have hT25 : u25 0 = nI 1 := by rw [hF25, pk_us]
    show gk_C p l e ({ frames := 5, cells := 0, slots := 0, locals := 113 } : Room) s m ([.ref h, .int p0] : List Value).toArray below meth c 2 D A Q 0 0 (gd_W cI h q u25 B f kp g) [(0, .ref h), (1, .int p0)] 28 [.int (nI 0)]
    exact RET _ _ _ _ _ _ (u25, B, f, kp, g) dX2_groundIn_28 rfl ⟨rfl, hs25, hn, hT25⟩ rfl (Nat.le_of_ble_eq_true rfl) (Nat.le_of_ble_eq_true rfl)
  · replace c_12 := (not_congr (nI_eq (a := 0) (b := 0) (by omega) (by omega))).mp c_12
    exact absurd c_12 (by decide)
