theorem gc_rep_of {F F2 : Nat → Int32} {B B2 : Nat → Nat → Int32} {M : gm_M} (wf : gm_wf M) (h : gc_rep F2 B2 M) (hF : ∀ k, 9 ≤ k → k ≤ 15 → F k = F2 k) (h0 : ∀ i, i < 12 → B 0 i = B2 0 i) (h1 : ∀ i, i < 4 → B 1 i = B2 1 i) (h2 : ∀ i, i < 4 → B 2 i = B2 2 i) (h4 : ∀ k i, 4 ≤ k → k ≤ 8 → i < 16 → B k i = B2 k i) : gc_rep F B M := by
  obtain ⟨⟨h9, h10, h11, h12, h13, h14, h15⟩, r0, r1, r2, r4, r5, r6, r7, r8⟩ := h
  have w1 := wf.1
  have w2 := wf.2.1
  refine ⟨⟨?_, ?_, ?_, ?_, ?_, ?_, ?_⟩, ?_, ?_, ?_, ?_, ?_, ?_, ?_, ?_⟩
  · rw [hF 9 (by decide) (by decide)]; exact h9
  · rw [hF 10 (by decide) (by decide)]; exact h10
  · rw [hF 11 (by decide) (by decide)]; exact h11
  · rw [hF 12 (by decide) (by decide)]; exact h12
  · rw [hF 13 (by decide) (by decide)]; exact h13
  · rw [hF 14 (by decide) (by decide)]; exact h14
  · rw [hF 15 (by decide) (by decide)]; exact h15
  · intro i hi; rw [h0 i hi]; exact r0 i hi
  · intro i hi; rw [h1 i (by omega)]; exact r1 i hi
  · intro i hi; rw [h2 i (by omega)]; exact r2 i hi
  · intro i hi; rw [h4 4 i (by decide) (by decide) (by omega)]; exact r4 i hi
  · intro i hi; rw [h4 5 i (by decide) (by decide) (by omega)]; exact r5 i hi
  · intro i hi; rw [h4 6 i (by decide) (by decide) (by omega)]; exact r6 i hi
  · intro i hi; rw [h4 7 i (by decide) (by decide) (by omega)]; exact r7 i hi
  · intro i hi; rw [h4 8 i (by decide) (by decide) (by omega)]; exact r8 i hi

theorem gk_fz {v : Int32} (h : v = 0 ∨ v = 1) : fits .boolean (.int v) = true := by rcases h with rfl | rfl <;> rfl
theorem gm_01 {n : Nat} (h : n ≤ 1) : nI n = 0 ∨ nI n = 1 := by
  rcases (show n = 0 ∨ n = 1 by omega) with rfl | rfl
  · exact Or.inl rfl
  · exact Or.inr rfl
set_option maxRecDepth 100000 in
set_option maxHeartbeats 1000000 in
theorem c0_become (l : Launch) (D : va_G) (cI cZ cJ : ClassId) (h : Nat) (q : Nat → Nat) (F : Nat → Int32) (B : Nat → Nat → Int32) (M : gm_M) (h2 : Nat) (q2 : Nat → Nat) (F2 : Nat → Int32) (B2 : Nat → Nat → Int32) (wf : gm_wf M) (hr : gc_rep F2 B2 M) : gk_V l yX0_become wsX0_become ({ frames := 1, cells := 0, slots := 0, locals := 22 } : Room) D (g_T cI cZ cJ) gk_E0 [.ref h, .ref h2] (gs_W cI cZ h q F B ++ gs_W cI cZ h2 q2 F2 B2) 0 0 (fun (u : (Nat → Int32) × (Nat → Nat → Int32)) => gc_rep u.1 u.2 M) (fun u => (gs_W cI cZ h q u.1 u.2 ++ gs_W cI cZ h2 q2 F2 B2)) := by
  refine gk_V_of (cc := cX0_become) (nL := 2) (by decide +kernel) rfl (Nat.le_of_ble_eq_true rfl) ?_
  intro p e s m below meth c A Q hnm hE G RET
  have hinX0 : ∀ w ∈ wsX00, w ∈ wsX0_become := fun w h9 => (List.mem_cons_of_mem _ (List.mem_append_right _ h9))
  have k9 := G.2.2.2.2.1 (.fieldLink RX0 9 "GustMill$State" "winds" "[I") (List.mem_cons_of_mem _ (List.mem_append_left _ (List.mem_of_getElem? (i := 0) rfl)))
  have k15 := G.2.2.2.2.1 (.fieldLink RX0 15 "GustMill$State" "sizes" "[I") (List.mem_cons_of_mem _ (List.mem_append_left _ (List.mem_of_getElem? (i := 1) rfl)))
  have k18 := G.2.2.2.2.1 (.fieldLink RX0 18 "GustMill$State" "sacksUpon" "[I") (List.mem_cons_of_mem _ (List.mem_append_left _ (List.mem_of_getElem? (i := 2) rfl)))
  have k25 := G.2.2.2.2.1 (.fieldLink RX0 25 "GustMill$State" "bakers" "[I") (List.mem_cons_of_mem _ (List.mem_append_left _ (List.mem_of_getElem? (i := 3) rfl)))
  have k28 := G.2.2.2.2.1 (.fieldLink RX0 28 "GustMill$State" "lefts" "[I") (List.mem_cons_of_mem _ (List.mem_append_left _ (List.mem_of_getElem? (i := 4) rfl)))
  have k31 := G.2.2.2.2.1 (.fieldLink RX0 31 "GustMill$State" "untils" "[I") (List.mem_cons_of_mem _ (List.mem_append_left _ (List.mem_of_getElem? (i := 5) rfl)))
  have k34 := G.2.2.2.2.1 (.fieldLink RX0 34 "GustMill$State" "stonesUnder" "[I") (List.mem_cons_of_mem _ (List.mem_append_left _ (List.mem_of_getElem? (i := 6) rfl)))
  have k37 := G.2.2.2.2.1 (.fieldLink RX0 37 "GustMill$State" "groundHours" "[I") (List.mem_cons_of_mem _ (List.mem_append_left _ (List.mem_of_getElem? (i := 7) rfl)))
  have k40 := G.2.2.2.2.1 (.fieldLink RX0 40 "GustMill$State" "hour" "I") (List.mem_cons_of_mem _ (List.mem_append_left _ (List.mem_of_getElem? (i := 8) rfl)))
  have k44 := G.2.2.2.2.1 (.fieldLink RX0 44 "GustMill$State" "stoneCount" "I") (List.mem_cons_of_mem _ (List.mem_append_left _ (List.mem_of_getElem? (i := 9) rfl)))
  have k47 := G.2.2.2.2.1 (.fieldLink RX0 47 "GustMill$State" "sackCount" "I") (List.mem_cons_of_mem _ (List.mem_append_left _ (List.mem_of_getElem? (i := 10) rfl)))
  have k50 := G.2.2.2.2.1 (.fieldLink RX0 50 "GustMill$State" "groundCount" "I") (List.mem_cons_of_mem _ (List.mem_append_left _ (List.mem_of_getElem? (i := 11) rfl)))
  have k53 := G.2.2.2.2.1 (.fieldLink RX0 53 "GustMill$State" "changeCount" "I") (List.mem_cons_of_mem _ (List.mem_append_left _ (List.mem_of_getElem? (i := 12) rfl)))
  have k56 := G.2.2.2.2.1 (.fieldLink RX0 56 "GustMill$State" "rule" "I") (List.mem_cons_of_mem _ (List.mem_append_left _ (List.mem_of_getElem? (i := 13) rfl)))
  have k59 := G.2.2.2.2.1 (.fieldLink RX0 59 "GustMill$State" "isTakingOff" "Z") (List.mem_cons_of_mem _ (List.mem_append_left _ (List.mem_of_getElem? (i := 14) rfl)))
  refine gk_aload_n G dX0_become_0 1 rfl ?_
  refine gk_get (v' := .ref (q2 0)) G hinX0 (q0 := 10) rfl rfl 0 (by decide) k9 rfl rfl dX0_become_1 ?_
  refine gk_aload_n G dX0_become_4 0 rfl ?_
  refine gk_get (v' := .ref (q 0)) G hinX0 (q0 := 0) rfl rfl 0 (by decide) k9 rfl rfl dX0_become_5 ?_
  refine gk_callVS (isC := [11, 1]) (isR := [0, 2, 3, 4, 5, 6, 7, 8, 9, 10, 12, 13, 14, 15, 16, 17, 18, 19]) (wr := ([0, 2, 3, 4, 5, 6, 7, 8, 9, 10, 12, 13, 14, 15, 16, 17, 18, 19] : List Nat).filterMap (fun i => ((gs_W cI cZ h q F B ++ (gs_W cI cZ h2 q2 F2 B2)) : va_W)[i]?)) G (c0_copyRow l D cI cZ cJ (q2 0) (q 0) 12 (B2 0) (B 0) (by decide)) gX0_become_X0_copyRow rfl 2 (by decide +kernel) rfl rfl ⟨(Nat.le_of_ble_eq_true rfl), (Nat.le_of_ble_eq_true rfl)⟩ rfl gk_ok0 trivial rfl (by decide) rfl (by decide) (by decide) rfl (Nat.le_of_ble_eq_true rfl) dX0_become_8 ⟨(Nat.le_of_ble_eq_true rfl), (Nat.le_of_ble_eq_true rfl)⟩ (fun u8 hp8 => ?_)
  refine gk_wsub (w' := (gs_W cI cZ h q F (gc_up B 0 (gm_cp (B2 0) (B 0) 12)) ++ (gs_W cI cZ h2 q2 F2 B2))) [0, 19, 1, 2, 3, 4, 5, 6, 7, 8, 9, 18, 10, 11, 12, 13, 14, 15, 16, 17] rfl (by decide) ?_
  generalize eB8 : gc_up B 0 (gm_cp (B2 0) (B 0) 12) = B8
  show gk_C p l e ({ frames := 1, cells := 0, slots := 0, locals := 22 } : Room) s m ([.ref h, .ref h2] : List Value).toArray below meth c 2 D A Q 0 0 (gs_W cI cZ h q F B8 ++ (gs_W cI cZ h2 q2 F2 B2)) [(0, .ref h), (1, .ref h2)] 11 []
  refine gk_aload_n G dX0_become_11 1 rfl ?_
  refine gk_get (v' := .ref (q2 1)) G hinX0 (q0 := 10) rfl rfl 1 (by decide) k15 rfl rfl dX0_become_12 ?_
  refine gk_aload_n G dX0_become_15 0 rfl ?_
  refine gk_get (v' := .ref (q 1)) G hinX0 (q0 := 0) rfl rfl 1 (by decide) k15 rfl rfl dX0_become_16 ?_
  refine gk_callVS (isC := [12, 2]) (isR := [0, 1, 3, 4, 5, 6, 7, 8, 9, 10, 11, 13, 14, 15, 16, 17, 18, 19]) (wr := ([0, 1, 3, 4, 5, 6, 7, 8, 9, 10, 11, 13, 14, 15, 16, 17, 18, 19] : List Nat).filterMap (fun i => ((gs_W cI cZ h q F B8 ++ (gs_W cI cZ h2 q2 F2 B2)) : va_W)[i]?)) G (c0_copyRow l D cI cZ cJ (q2 1) (q 1) 4 (B2 1) (B8 1) (by decide)) gX0_become_X0_copyRow rfl 2 (by decide +kernel) rfl rfl ⟨(Nat.le_of_ble_eq_true rfl), (Nat.le_of_ble_eq_true rfl)⟩ rfl gk_ok0 trivial rfl (by decide) rfl (by decide) (by decide) rfl (Nat.le_of_ble_eq_true rfl) dX0_become_19 ⟨(Nat.le_of_ble_eq_true rfl), (Nat.le_of_ble_eq_true rfl)⟩ (fun u19 hp19 => ?_)
  refine gk_wsub (w' := (gs_W cI cZ h q F (gc_up B8 1 (gm_cp (B2 1) (B8 1) 4)) ++ (gs_W cI cZ h2 q2 F2 B2))) [0, 1, 19, 2, 3, 4, 5, 6, 7, 8, 9, 10, 18, 11, 12, 13, 14, 15, 16, 17] rfl (by decide) ?_
  generalize eB19 : gc_up B8 1 (gm_cp (B2 1) (B8 1) 4) = B19
  show gk_C p l e ({ frames := 1, cells := 0, slots := 0, locals := 22 } : Room) s m ([.ref h, .ref h2] : List Value).toArray below meth c 2 D A Q 0 0 (gs_W cI cZ h q F B19 ++ (gs_W cI cZ h2 q2 F2 B2)) [(0, .ref h), (1, .ref h2)] 22 []
  refine gk_aload_n G dX0_become_22 1 rfl ?_
  refine gk_get (v' := .ref (q2 2)) G hinX0 (q0 := 10) rfl rfl 2 (by decide) k18 rfl rfl dX0_become_23 ?_
  refine gk_aload_n G dX0_become_26 0 rfl ?_
  refine gk_get (v' := .ref (q 2)) G hinX0 (q0 := 0) rfl rfl 2 (by decide) k18 rfl rfl dX0_become_27 ?_
  refine gk_callVS (isC := [13, 3]) (isR := [0, 1, 2, 4, 5, 6, 7, 8, 9, 10, 11, 12, 14, 15, 16, 17, 18, 19]) (wr := ([0, 1, 2, 4, 5, 6, 7, 8, 9, 10, 11, 12, 14, 15, 16, 17, 18, 19] : List Nat).filterMap (fun i => ((gs_W cI cZ h q F B19 ++ (gs_W cI cZ h2 q2 F2 B2)) : va_W)[i]?)) G (c0_copyRow l D cI cZ cJ (q2 2) (q 2) 4 (B2 2) (B19 2) (by decide)) gX0_become_X0_copyRow rfl 2 (by decide +kernel) rfl rfl ⟨(Nat.le_of_ble_eq_true rfl), (Nat.le_of_ble_eq_true rfl)⟩ rfl gk_ok0 trivial rfl (by decide) rfl (by decide) (by decide) rfl (Nat.le_of_ble_eq_true rfl) dX0_become_30 ⟨(Nat.le_of_ble_eq_true rfl), (Nat.le_of_ble_eq_true rfl)⟩ (fun u30 hp30 => ?_)
  refine gk_wsub (w' := (gs_W cI cZ h q F (gc_up B19 2 (gm_cp (B2 2) (B19 2) 4)) ++ (gs_W cI cZ h2 q2 F2 B2))) [0, 1, 2, 19, 3, 4, 5, 6, 7, 8, 9, 10, 11, 18, 12, 13, 14, 15, 16, 17] rfl (by decide) ?_
  generalize eB30 : gc_up B19 2 (gm_cp (B2 2) (B19 2) 4) = B30
  show gk_C p l e ({ frames := 1, cells := 0, slots := 0, locals := 22 } : Room) s m ([.ref h, .ref h2] : List Value).toArray below meth c 2 D A Q 0 0 (gs_W cI cZ h q F B30 ++ (gs_W cI cZ h2 q2 F2 B2)) [(0, .ref h), (1, .ref h2)] 33 []
  refine gk_aload_n G dX0_become_33 1 rfl ?_
  refine gk_get (v' := .ref (q2 4)) G hinX0 (q0 := 10) rfl rfl 4 (by decide) k25 rfl rfl dX0_become_34 ?_
  refine gk_aload_n G dX0_become_37 0 rfl ?_
  refine gk_get (v' := .ref (q 4)) G hinX0 (q0 := 0) rfl rfl 4 (by decide) k25 rfl rfl dX0_become_38 ?_
  refine gk_callVS (isC := [15, 5]) (isR := [0, 1, 2, 3, 4, 6, 7, 8, 9, 10, 11, 12, 13, 14, 16, 17, 18, 19]) (wr := ([0, 1, 2, 3, 4, 6, 7, 8, 9, 10, 11, 12, 13, 14, 16, 17, 18, 19] : List Nat).filterMap (fun i => ((gs_W cI cZ h q F B30 ++ (gs_W cI cZ h2 q2 F2 B2)) : va_W)[i]?)) G (c0_copyRow l D cI cZ cJ (q2 4) (q 4) 16 (B2 4) (B30 4) (by decide)) gX0_become_X0_copyRow rfl 2 (by decide +kernel) rfl rfl ⟨(Nat.le_of_ble_eq_true rfl), (Nat.le_of_ble_eq_true rfl)⟩ rfl gk_ok0 trivial rfl (by decide) rfl (by decide) (by decide) rfl (Nat.le_of_ble_eq_true rfl) dX0_become_41 ⟨(Nat.le_of_ble_eq_true rfl), (Nat.le_of_ble_eq_true rfl)⟩ (fun u41 hp41 => ?_)
  refine gk_wsub (w' := (gs_W cI cZ h q F (gc_up B30 4 (gm_cp (B2 4) (B30 4) 16)) ++ (gs_W cI cZ h2 q2 F2 B2))) [0, 1, 2, 3, 4, 19, 5, 6, 7, 8, 9, 10, 11, 12, 13, 18, 14, 15, 16, 17] rfl (by decide) ?_
  generalize eB41 : gc_up B30 4 (gm_cp (B2 4) (B30 4) 16) = B41
  show gk_C p l e ({ frames := 1, cells := 0, slots := 0, locals := 22 } : Room) s m ([.ref h, .ref h2] : List Value).toArray below meth c 2 D A Q 0 0 (gs_W cI cZ h q F B41 ++ (gs_W cI cZ h2 q2 F2 B2)) [(0, .ref h), (1, .ref h2)] 44 []
  refine gk_aload_n G dX0_become_44 1 rfl ?_
  refine gk_get (v' := .ref (q2 5)) G hinX0 (q0 := 10) rfl rfl 5 (by decide) k28 rfl rfl dX0_become_45 ?_
  refine gk_aload_n G dX0_become_48 0 rfl ?_
  refine gk_get (v' := .ref (q 5)) G hinX0 (q0 := 0) rfl rfl 5 (by decide) k28 rfl rfl dX0_become_49 ?_
  refine gk_callVS (isC := [16, 6]) (isR := [0, 1, 2, 3, 4, 5, 7, 8, 9, 10, 11, 12, 13, 14, 15, 17, 18, 19]) (wr := ([0, 1, 2, 3, 4, 5, 7, 8, 9, 10, 11, 12, 13, 14, 15, 17, 18, 19] : List Nat).filterMap (fun i => ((gs_W cI cZ h q F B41 ++ (gs_W cI cZ h2 q2 F2 B2)) : va_W)[i]?)) G (c0_copyRow l D cI cZ cJ (q2 5) (q 5) 16 (B2 5) (B41 5) (by decide)) gX0_become_X0_copyRow rfl 2 (by decide +kernel) rfl rfl ⟨(Nat.le_of_ble_eq_true rfl), (Nat.le_of_ble_eq_true rfl)⟩ rfl gk_ok0 trivial rfl (by decide) rfl (by decide) (by decide) rfl (Nat.le_of_ble_eq_true rfl) dX0_become_52 ⟨(Nat.le_of_ble_eq_true rfl), (Nat.le_of_ble_eq_true rfl)⟩ (fun u52 hp52 => ?_)
  refine gk_wsub (w' := (gs_W cI cZ h q F (gc_up B41 5 (gm_cp (B2 5) (B41 5) 16)) ++ (gs_W cI cZ h2 q2 F2 B2))) [0, 1, 2, 3, 4, 5, 19, 6, 7, 8, 9, 10, 11, 12, 13, 14, 18, 15, 16, 17] rfl (by decide) ?_
  generalize eB52 : gc_up B41 5 (gm_cp (B2 5) (B41 5) 16) = B52
  show gk_C p l e ({ frames := 1, cells := 0, slots := 0, locals := 22 } : Room) s m ([.ref h, .ref h2] : List Value).toArray below meth c 2 D A Q 0 0 (gs_W cI cZ h q F B52 ++ (gs_W cI cZ h2 q2 F2 B2)) [(0, .ref h), (1, .ref h2)] 55 []
  refine gk_aload_n G dX0_become_55 1 rfl ?_
  refine gk_get (v' := .ref (q2 6)) G hinX0 (q0 := 10) rfl rfl 6 (by decide) k31 rfl rfl dX0_become_56 ?_
  refine gk_aload_n G dX0_become_59 0 rfl ?_
  refine gk_get (v' := .ref (q 6)) G hinX0 (q0 := 0) rfl rfl 6 (by decide) k31 rfl rfl dX0_become_60 ?_
  refine gk_callVS (isC := [17, 7]) (isR := [0, 1, 2, 3, 4, 5, 6, 8, 9, 10, 11, 12, 13, 14, 15, 16, 18, 19]) (wr := ([0, 1, 2, 3, 4, 5, 6, 8, 9, 10, 11, 12, 13, 14, 15, 16, 18, 19] : List Nat).filterMap (fun i => ((gs_W cI cZ h q F B52 ++ (gs_W cI cZ h2 q2 F2 B2)) : va_W)[i]?)) G (c0_copyRow l D cI cZ cJ (q2 6) (q 6) 16 (B2 6) (B52 6) (by decide)) gX0_become_X0_copyRow rfl 2 (by decide +kernel) rfl rfl ⟨(Nat.le_of_ble_eq_true rfl), (Nat.le_of_ble_eq_true rfl)⟩ rfl gk_ok0 trivial rfl (by decide) rfl (by decide) (by decide) rfl (Nat.le_of_ble_eq_true rfl) dX0_become_63 ⟨(Nat.le_of_ble_eq_true rfl), (Nat.le_of_ble_eq_true rfl)⟩ (fun u63 hp63 => ?_)
  refine gk_wsub (w' := (gs_W cI cZ h q F (gc_up B52 6 (gm_cp (B2 6) (B52 6) 16)) ++ (gs_W cI cZ h2 q2 F2 B2))) [0, 1, 2, 3, 4, 5, 6, 19, 7, 8, 9, 10, 11, 12, 13, 14, 15, 18, 16, 17] rfl (by decide) ?_
  generalize eB63 : gc_up B52 6 (gm_cp (B2 6) (B52 6) 16) = B63
  show gk_C p l e ({ frames := 1, cells := 0, slots := 0, locals := 22 } : Room) s m ([.ref h, .ref h2] : List Value).toArray below meth c 2 D A Q 0 0 (gs_W cI cZ h q F B63 ++ (gs_W cI cZ h2 q2 F2 B2)) [(0, .ref h), (1, .ref h2)] 66 []
  refine gk_aload_n G dX0_become_66 1 rfl ?_
  refine gk_get (v' := .ref (q2 7)) G hinX0 (q0 := 10) rfl rfl 7 (by decide) k34 rfl rfl dX0_become_67 ?_
  refine gk_aload_n G dX0_become_70 0 rfl ?_
  refine gk_get (v' := .ref (q 7)) G hinX0 (q0 := 0) rfl rfl 7 (by decide) k34 rfl rfl dX0_become_71 ?_
  refine gk_callVS (isC := [18, 8]) (isR := [0, 1, 2, 3, 4, 5, 6, 7, 9, 10, 11, 12, 13, 14, 15, 16, 17, 19]) (wr := ([0, 1, 2, 3, 4, 5, 6, 7, 9, 10, 11, 12, 13, 14, 15, 16, 17, 19] : List Nat).filterMap (fun i => ((gs_W cI cZ h q F B63 ++ (gs_W cI cZ h2 q2 F2 B2)) : va_W)[i]?)) G (c0_copyRow l D cI cZ cJ (q2 7) (q 7) 16 (B2 7) (B63 7) (by decide)) gX0_become_X0_copyRow rfl 2 (by decide +kernel) rfl rfl ⟨(Nat.le_of_ble_eq_true rfl), (Nat.le_of_ble_eq_true rfl)⟩ rfl gk_ok0 trivial rfl (by decide) rfl (by decide) (by decide) rfl (Nat.le_of_ble_eq_true rfl) dX0_become_74 ⟨(Nat.le_of_ble_eq_true rfl), (Nat.le_of_ble_eq_true rfl)⟩ (fun u74 hp74 => ?_)
  refine gk_wsub (w' := (gs_W cI cZ h q F (gc_up B63 7 (gm_cp (B2 7) (B63 7) 16)) ++ (gs_W cI cZ h2 q2 F2 B2))) [0, 1, 2, 3, 4, 5, 6, 7, 19, 8, 9, 10, 11, 12, 13, 14, 15, 16, 18, 17] rfl (by decide) ?_
  generalize eB74 : gc_up B63 7 (gm_cp (B2 7) (B63 7) 16) = B74
  show gk_C p l e ({ frames := 1, cells := 0, slots := 0, locals := 22 } : Room) s m ([.ref h, .ref h2] : List Value).toArray below meth c 2 D A Q 0 0 (gs_W cI cZ h q F B74 ++ (gs_W cI cZ h2 q2 F2 B2)) [(0, .ref h), (1, .ref h2)] 77 []
  refine gk_aload_n G dX0_become_77 1 rfl ?_
  refine gk_get (v' := .ref (q2 8)) G hinX0 (q0 := 10) rfl rfl 8 (by decide) k37 rfl rfl dX0_become_78 ?_
  refine gk_aload_n G dX0_become_81 0 rfl ?_
  refine gk_get (v' := .ref (q 8)) G hinX0 (q0 := 0) rfl rfl 8 (by decide) k37 rfl rfl dX0_become_82 ?_
  refine gk_callVS (isC := [19, 9]) (isR := [0, 1, 2, 3, 4, 5, 6, 7, 8, 10, 11, 12, 13, 14, 15, 16, 17, 18]) (wr := ([0, 1, 2, 3, 4, 5, 6, 7, 8, 10, 11, 12, 13, 14, 15, 16, 17, 18] : List Nat).filterMap (fun i => ((gs_W cI cZ h q F B74 ++ (gs_W cI cZ h2 q2 F2 B2)) : va_W)[i]?)) G (c0_copyRow l D cI cZ cJ (q2 8) (q 8) 16 (B2 8) (B74 8) (by decide)) gX0_become_X0_copyRow rfl 2 (by decide +kernel) rfl rfl ⟨(Nat.le_of_ble_eq_true rfl), (Nat.le_of_ble_eq_true rfl)⟩ rfl gk_ok0 trivial rfl (by decide) rfl (by decide) (by decide) rfl (Nat.le_of_ble_eq_true rfl) dX0_become_85 ⟨(Nat.le_of_ble_eq_true rfl), (Nat.le_of_ble_eq_true rfl)⟩ (fun u85 hp85 => ?_)
  refine gk_wsub (w' := (gs_W cI cZ h q F (gc_up B74 8 (gm_cp (B2 8) (B74 8) 16)) ++ (gs_W cI cZ h2 q2 F2 B2))) [0, 1, 2, 3, 4, 5, 6, 7, 8, 19, 9, 10, 11, 12, 13, 14, 15, 16, 17, 18] rfl (by decide) ?_
  generalize eB85 : gc_up B74 8 (gm_cp (B2 8) (B74 8) 16) = B85
  have gb0 : B85 0 = gm_cp (B2 0) (B 0) 12 := by rw [← eB85, gc_up_ne _ _ (show (0 : Nat) ≠ 8 by decide), ← eB74, gc_up_ne _ _ (show (0 : Nat) ≠ 7 by decide), ← eB63, gc_up_ne _ _ (show (0 : Nat) ≠ 6 by decide), ← eB52, gc_up_ne _ _ (show (0 : Nat) ≠ 5 by decide), ← eB41, gc_up_ne _ _ (show (0 : Nat) ≠ 4 by decide), ← eB30, gc_up_ne _ _ (show (0 : Nat) ≠ 2 by decide), ← eB19, gc_up_ne _ _ (show (0 : Nat) ≠ 1 by decide), ← eB8, gc_up_at]
  have gb1 : B85 1 = gm_cp (B2 1) (B 1) 4 := by rw [← eB85, gc_up_ne _ _ (show (1 : Nat) ≠ 8 by decide), ← eB74, gc_up_ne _ _ (show (1 : Nat) ≠ 7 by decide), ← eB63, gc_up_ne _ _ (show (1 : Nat) ≠ 6 by decide), ← eB52, gc_up_ne _ _ (show (1 : Nat) ≠ 5 by decide), ← eB41, gc_up_ne _ _ (show (1 : Nat) ≠ 4 by decide), ← eB30, gc_up_ne _ _ (show (1 : Nat) ≠ 2 by decide), ← eB19, gc_up_at]; rw [← eB8, gc_up_ne _ _ (show (1 : Nat) ≠ 0 by decide)]
  have gb2 : B85 2 = gm_cp (B2 2) (B 2) 4 := by rw [← eB85, gc_up_ne _ _ (show (2 : Nat) ≠ 8 by decide), ← eB74, gc_up_ne _ _ (show (2 : Nat) ≠ 7 by decide), ← eB63, gc_up_ne _ _ (show (2 : Nat) ≠ 6 by decide), ← eB52, gc_up_ne _ _ (show (2 : Nat) ≠ 5 by decide), ← eB41, gc_up_ne _ _ (show (2 : Nat) ≠ 4 by decide), ← eB30, gc_up_at]; rw [← eB19, gc_up_ne _ _ (show (2 : Nat) ≠ 1 by decide), ← eB8, gc_up_ne _ _ (show (2 : Nat) ≠ 0 by decide)]
  have gb4 : B85 4 = gm_cp (B2 4) (B 4) 16 := by rw [← eB85, gc_up_ne _ _ (show (4 : Nat) ≠ 8 by decide), ← eB74, gc_up_ne _ _ (show (4 : Nat) ≠ 7 by decide), ← eB63, gc_up_ne _ _ (show (4 : Nat) ≠ 6 by decide), ← eB52, gc_up_ne _ _ (show (4 : Nat) ≠ 5 by decide), ← eB41, gc_up_at]; rw [← eB30, gc_up_ne _ _ (show (4 : Nat) ≠ 2 by decide), ← eB19, gc_up_ne _ _ (show (4 : Nat) ≠ 1 by decide), ← eB8, gc_up_ne _ _ (show (4 : Nat) ≠ 0 by decide)]
  have gb5 : B85 5 = gm_cp (B2 5) (B 5) 16 := by rw [← eB85, gc_up_ne _ _ (show (5 : Nat) ≠ 8 by decide), ← eB74, gc_up_ne _ _ (show (5 : Nat) ≠ 7 by decide), ← eB63, gc_up_ne _ _ (show (5 : Nat) ≠ 6 by decide), ← eB52, gc_up_at]; rw [← eB41, gc_up_ne _ _ (show (5 : Nat) ≠ 4 by decide), ← eB30, gc_up_ne _ _ (show (5 : Nat) ≠ 2 by decide), ← eB19, gc_up_ne _ _ (show (5 : Nat) ≠ 1 by decide), ← eB8, gc_up_ne _ _ (show (5 : Nat) ≠ 0 by decide)]
  have gb6 : B85 6 = gm_cp (B2 6) (B 6) 16 := by rw [← eB85, gc_up_ne _ _ (show (6 : Nat) ≠ 8 by decide), ← eB74, gc_up_ne _ _ (show (6 : Nat) ≠ 7 by decide), ← eB63, gc_up_at]; rw [← eB52, gc_up_ne _ _ (show (6 : Nat) ≠ 5 by decide), ← eB41, gc_up_ne _ _ (show (6 : Nat) ≠ 4 by decide), ← eB30, gc_up_ne _ _ (show (6 : Nat) ≠ 2 by decide), ← eB19, gc_up_ne _ _ (show (6 : Nat) ≠ 1 by decide), ← eB8, gc_up_ne _ _ (show (6 : Nat) ≠ 0 by decide)]
  have gb7 : B85 7 = gm_cp (B2 7) (B 7) 16 := by rw [← eB85, gc_up_ne _ _ (show (7 : Nat) ≠ 8 by decide), ← eB74, gc_up_at]; rw [← eB63, gc_up_ne _ _ (show (7 : Nat) ≠ 6 by decide), ← eB52, gc_up_ne _ _ (show (7 : Nat) ≠ 5 by decide), ← eB41, gc_up_ne _ _ (show (7 : Nat) ≠ 4 by decide), ← eB30, gc_up_ne _ _ (show (7 : Nat) ≠ 2 by decide), ← eB19, gc_up_ne _ _ (show (7 : Nat) ≠ 1 by decide), ← eB8, gc_up_ne _ _ (show (7 : Nat) ≠ 0 by decide)]
  have gb8 : B85 8 = gm_cp (B2 8) (B 8) 16 := by rw [← eB85, gc_up_at]; rw [← eB74, gc_up_ne _ _ (show (8 : Nat) ≠ 7 by decide), ← eB63, gc_up_ne _ _ (show (8 : Nat) ≠ 6 by decide), ← eB52, gc_up_ne _ _ (show (8 : Nat) ≠ 5 by decide), ← eB41, gc_up_ne _ _ (show (8 : Nat) ≠ 4 by decide), ← eB30, gc_up_ne _ _ (show (8 : Nat) ≠ 2 by decide), ← eB19, gc_up_ne _ _ (show (8 : Nat) ≠ 1 by decide), ← eB8, gc_up_ne _ _ (show (8 : Nat) ≠ 0 by decide)]
  show gk_C p l e ({ frames := 1, cells := 0, slots := 0, locals := 22 } : Room) s m ([.ref h, .ref h2] : List Value).toArray below meth c 2 D A Q 0 0 (gs_W cI cZ h q F B85 ++ (gs_W cI cZ h2 q2 F2 B2)) [(0, .ref h), (1, .ref h2)] 88 []
  refine gk_aload_n G dX0_become_88 0 rfl ?_
  refine gk_aload_n G dX0_become_89 1 rfl ?_
  refine gk_get (v' := .int (F2 9)) G hinX0 (q0 := 10) rfl rfl 9 (by decide) k40 rfl rfl dX0_become_90 ?_
  refine gk_topi (fun v93 ev93 => ?_)
  refine gk_put (w' := (gs_W cI cZ h q (upd F 9 v93) B85 ++ (gs_W cI cZ h2 q2 F2 B2))) G hinX0 tyX0_ok nmX0 (q0 := 0) rfl rfl 9 (by decide) k40 rfl rfl rfl (Nat.le_of_ble_eq_true rfl) rfl dX0_become_93 ?_
  generalize eF93 : upd F 9 v93 = F93
  refine gk_aload_n G dX0_become_96 0 rfl ?_
  refine gk_aload_n G dX0_become_97 1 rfl ?_
  refine gk_get (v' := .int (F2 10)) G hinX0 (q0 := 10) rfl rfl 10 (by decide) k44 rfl rfl dX0_become_98 ?_
  refine gk_topi (fun v101 ev101 => ?_)
  refine gk_put (w' := (gs_W cI cZ h q (upd F93 10 v101) B85 ++ (gs_W cI cZ h2 q2 F2 B2))) G hinX0 tyX0_ok nmX0 (q0 := 0) rfl rfl 10 (by decide) k44 rfl rfl rfl (Nat.le_of_ble_eq_true rfl) rfl dX0_become_101 ?_
  generalize eF101 : upd F93 10 v101 = F101
  refine gk_aload_n G dX0_become_104 0 rfl ?_
  refine gk_aload_n G dX0_become_105 1 rfl ?_
  refine gk_get (v' := .int (F2 11)) G hinX0 (q0 := 10) rfl rfl 11 (by decide) k47 rfl rfl dX0_become_106 ?_
  refine gk_topi (fun v109 ev109 => ?_)
  refine gk_put (w' := (gs_W cI cZ h q (upd F101 11 v109) B85 ++ (gs_W cI cZ h2 q2 F2 B2))) G hinX0 tyX0_ok nmX0 (q0 := 0) rfl rfl 11 (by decide) k47 rfl rfl rfl (Nat.le_of_ble_eq_true rfl) rfl dX0_become_109 ?_
  generalize eF109 : upd F101 11 v109 = F109
  refine gk_aload_n G dX0_become_112 0 rfl ?_
  refine gk_aload_n G dX0_become_113 1 rfl ?_
  refine gk_get (v' := .int (F2 12)) G hinX0 (q0 := 10) rfl rfl 12 (by decide) k50 rfl rfl dX0_become_114 ?_
  refine gk_topi (fun v117 ev117 => ?_)
  refine gk_put (w' := (gs_W cI cZ h q (upd F109 12 v117) B85 ++ (gs_W cI cZ h2 q2 F2 B2))) G hinX0 tyX0_ok nmX0 (q0 := 0) rfl rfl 12 (by decide) k50 rfl rfl rfl (Nat.le_of_ble_eq_true rfl) rfl dX0_become_117 ?_
  generalize eF117 : upd F109 12 v117 = F117
  refine gk_aload_n G dX0_become_120 0 rfl ?_
  refine gk_aload_n G dX0_become_121 1 rfl ?_
  refine gk_get (v' := .int (F2 13)) G hinX0 (q0 := 10) rfl rfl 13 (by decide) k53 rfl rfl dX0_become_122 ?_
  refine gk_topi (fun v125 ev125 => ?_)
  refine gk_put (w' := (gs_W cI cZ h q (upd F117 13 v125) B85 ++ (gs_W cI cZ h2 q2 F2 B2))) G hinX0 tyX0_ok nmX0 (q0 := 0) rfl rfl 13 (by decide) k53 rfl rfl rfl (Nat.le_of_ble_eq_true rfl) rfl dX0_become_125 ?_
  generalize eF125 : upd F117 13 v125 = F125
  refine gk_aload_n G dX0_become_128 0 rfl ?_
  refine gk_aload_n G dX0_become_129 1 rfl ?_
  refine gk_get (v' := .int (F2 14)) G hinX0 (q0 := 10) rfl rfl 14 (by decide) k56 rfl rfl dX0_become_130 ?_
  refine gk_topi (fun v133 ev133 => ?_)
  refine gk_put (w' := (gs_W cI cZ h q (upd F125 14 v133) B85 ++ (gs_W cI cZ h2 q2 F2 B2))) G hinX0 tyX0_ok nmX0 (q0 := 0) rfl rfl 14 (by decide) k56 rfl rfl rfl (Nat.le_of_ble_eq_true rfl) rfl dX0_become_133 ?_
  generalize eF133 : upd F125 14 v133 = F133
  refine gk_aload_n G dX0_become_136 0 rfl ?_
  refine gk_aload_n G dX0_become_137 1 rfl ?_
  refine gk_get (v' := .int (F2 15)) G hinX0 (q0 := 10) rfl rfl 15 (by decide) k59 rfl rfl dX0_become_138 ?_
  refine gk_topi (fun v141 ev141 => ?_)
  refine gk_put (w' := (gs_W cI cZ h q (upd F133 15 v141) B85 ++ (gs_W cI cZ h2 q2 F2 B2))) G hinX0 tyX0_ok nmX0 (q0 := 0) rfl rfl 15 (by decide) k59 rfl (gk_nz (by rw [ev141, hr.1.2.2.2.2.2.2]; exact gm_01 wf.2.2.2.1)) (gk_fz (by rw [ev141, hr.1.2.2.2.2.2.2]; exact gm_01 wf.2.2.2.1)) (Nat.le_of_ble_eq_true rfl) rfl dX0_become_141 ?_
  generalize eF141 : upd F133 15 v141 = F141
  exact RET _ _ _ _ _ (F141, B85) dX0_become_144 (by
          refine gc_rep_of wf hr (fun k hk1 hk2 => ?_) (fun i hi => ?_) (fun i hi => ?_) (fun i hi => ?_) (fun k i hk1 hk2 hi => ?_)
          · show F141 k = F2 k
            rcases (show k = 9 ∨ k = 10 ∨ k = 11 ∨ k = 12 ∨ k = 13 ∨ k = 14 ∨ k = 15 by omega) with rfl | rfl | rfl | rfl | rfl | rfl | rfl
            · exact (by rw [← eF141, pk_un (by decide)]; exact (by rw [← eF133, pk_un (by decide)]; exact (by rw [← eF125, pk_un (by decide)]; exact (by rw [← eF117, pk_un (by decide)]; exact (by rw [← eF109, pk_un (by decide)]; exact (by rw [← eF101, pk_un (by decide)]; exact (by rw [← eF93]; exact pk_us.trans ev93)))))))
            · exact (by rw [← eF141, pk_un (by decide)]; exact (by rw [← eF133, pk_un (by decide)]; exact (by rw [← eF125, pk_un (by decide)]; exact (by rw [← eF117, pk_un (by decide)]; exact (by rw [← eF109, pk_un (by decide)]; exact (by rw [← eF101]; exact pk_us.trans ev101))))))
            · exact (by rw [← eF141, pk_un (by decide)]; exact (by rw [← eF133, pk_un (by decide)]; exact (by rw [← eF125, pk_un (by decide)]; exact (by rw [← eF117, pk_un (by decide)]; exact (by rw [← eF109]; exact pk_us.trans ev109)))))
            · exact (by rw [← eF141, pk_un (by decide)]; exact (by rw [← eF133, pk_un (by decide)]; exact (by rw [← eF125, pk_un (by decide)]; exact (by rw [← eF117]; exact pk_us.trans ev117))))
            · exact (by rw [← eF141, pk_un (by decide)]; exact (by rw [← eF133, pk_un (by decide)]; exact (by rw [← eF125]; exact pk_us.trans ev125)))
            · exact (by rw [← eF141, pk_un (by decide)]; exact (by rw [← eF133]; exact pk_us.trans ev133))
            · exact (by rw [← eF141]; exact pk_us.trans ev141)
          all_goals show B85 _ i = _
          · rw [gb0]; exact gm_cp_lt hi
          · rw [gb1]; exact gm_cp_lt hi
          · rw [gb2]; exact gm_cp_lt hi
          · rcases (show k = 4 ∨ k = 5 ∨ k = 6 ∨ k = 7 ∨ k = 8 by omega) with rfl | rfl | rfl | rfl | rfl
            · rw [gb4]; exact gm_cp_lt hi
            · rw [gb5]; exact gm_cp_lt hi
            · rw [gb6]; exact gm_cp_lt hi
            · rw [gb7]; exact gm_cp_lt hi
            · rw [gb8]; exact gm_cp_lt hi) rfl (Nat.le_of_ble_eq_true rfl) (Nat.le_of_ble_eq_true rfl)
