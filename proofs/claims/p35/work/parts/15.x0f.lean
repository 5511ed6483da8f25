set_option maxRecDepth 100000 in
set_option maxHeartbeats 1000000 in
theorem c0_grind (l : Launch) (D : va_G) (cI cZ cJ : ClassId) (h : Nat) (q : Nat → Nat) (F : Nat → Int32) (B : Nat → Nat → Int32) (M : gm_M) (wf : gm_wf M) (hr : gc_rep F B M) (hh : M 9 0 < 2000000) (hfr : ∀ i, i < M 10 0 → B 3 i = nI (M 3 i)) (hfr2 : ∀ i, i < M 10 0 → M 3 i ≤ 1) : gk_I l yX0_grind wsX0_grind ({ frames := 2, cells := 0, slots := 0, locals := 42 } : Room) D (g_T cI cZ cJ) gk_E0 [.ref h] (gs_W cI cZ h q F B) 0 0 (fun (r : Int32) (u : (Nat → Int32) × (Nat → Nat → Int32)) => r = nI (gm_grd (M 16 0 + gm_wnd M) M (M 10 0) 16 0 - M 16 0) ∧ gc_rep u.1 u.2 (gm_grd (M 16 0 + gm_wnd M) M (M 10 0))) (fun u => (gs_W cI cZ h q u.1 u.2)) := by
  refine gk_I_of (ty := .int) (cc := cX0_grind) (nL := 7) (by decide +kernel) rfl (Nat.le_of_ble_eq_true rfl) ?_
  intro p e s m below meth c A Q hnm hE G RET
  obtain ⟨hz1, hz2, hz3, hz4, hz5, hz6, hz7, hz8⟩ := id wf
  have hwnd : gm_wnd M ≤ 20 := hz5 _ (Nat.mod_lt _ (by decide))
  have hinX0 : ∀ w ∈ wsX00, w ∈ wsX0_grind := fun w h9 => (List.mem_cons_of_mem _ (List.mem_append_right _ h9))
  have k15 := G.2.2.2.2.1 (.fieldLink RX0 15 "GustMill$State" "sizes" "[I") (List.mem_cons_of_mem _ (List.mem_append_left _ (List.mem_of_getElem? (i := 3) rfl)))
  have k18 := G.2.2.2.2.1 (.fieldLink RX0 18 "GustMill$State" "sacksUpon" "[I") (List.mem_cons_of_mem _ (List.mem_append_left _ (List.mem_of_getElem? (i := 1) rfl)))
  have k21 := G.2.2.2.2.1 (.fieldLink RX0 21 "GustMill$State" "isFresh" "[Z") (List.mem_cons_of_mem _ (List.mem_append_left _ (List.mem_of_getElem? (i := 2) rfl)))
  have k28 := G.2.2.2.2.1 (.fieldLink RX0 28 "GustMill$State" "lefts" "[I") (List.mem_cons_of_mem _ (List.mem_append_left _ (List.mem_of_getElem? (i := 4) rfl)))
  have k44 := G.2.2.2.2.1 (.fieldLink RX0 44 "GustMill$State" "stoneCount" "I") (List.mem_cons_of_mem _ (List.mem_append_left _ (List.mem_of_getElem? (i := 0) rfl)))
  have L9 : ∀ (n : Nat) (k : Nat) (F1 : Nat → Int32) (B1 : Nat → Nat → Int32), M 10 0 - k < n → (k ≤ M 10 0) → (gc_rep F1 B1 (gm_grd (M 16 0 + gm_wnd M) M k)) → (∀ i, i < M 10 0 → B1 3 i = nI (M 3 i)) → gk_C p l e ({ frames := 2, cells := 0, slots := 0, locals := 42 } : Room) s m ([.ref h] : List Value).toArray below meth c 7 D A Q 0 0 (gs_W cI cZ h q F1 B1) [(0, .ref h), (1, .int (nI (gm_wnd M))), (2, .int (nI ((gm_grd (M 16 0 + gm_wnd M) M k) 16 0 - M 16 0))), (3, .int (nI k))] 9 [] := by
    intro n
    induction n with
    | zero => intro k F1 B1 h0; exact absurd h0 (Nat.not_lt_zero _)
    | succ n ih =>
      intro k F1 B1 h0 w0 w1 w2
      have hr1 := w1
      have hfr1 := w2
      have wf1 := gm_grd_wf (b := M 16 0 + gm_wnd M) wf k
      have e10 : (gm_grd (M 16 0 + gm_wnd M) M k) 10 0 = M 10 0 := gm_grd_ne _ M 0 (by decide) (by decide) k
      have e11 : (gm_grd (M 16 0 + gm_wnd M) M k) 11 0 = M 11 0 := gm_grd_ne _ M 0 (by decide) (by decide) k
      have e16 := gm_grd_16 (M 16 0 + gm_wnd M) M (by omega) k
      have hwl := gm_who_le (gm_grd (M 16 0 + gm_wnd M) M k) k ((gm_grd (M 16 0 + gm_wnd M) M k) 11 0)
      have e1 : (gm_grd (M 16 0 + gm_wnd M) M k) 1 k = M 1 k := gm_grd_ne _ M k (by decide) (by decide) k
      have e3 : (gm_grd (M 16 0 + gm_wnd M) M k) 3 k = M 3 k := gm_grd_ne _ M k (by decide) (by decide) k
      refine gk_iload_n G dX0_grind_9 3 rfl ?_
      refine gk_aload_n G dX0_grind_10 0 rfl ?_
      refine gk_get (v' := .int (nI ((gm_grd (M 16 0 + gm_wnd M) M k) 10 0))) G hinX0 (q0 := 0) rfl rfl 10 (by decide) k44 rfl (congrArg Value.int (hr1.1.2.1)) dX0_grind_11 ?_
      refine gk_icmp_ge (tgt := 102) G dX0_grind_14 (by decide) (fun c_14 => ?_) (fun c_14 => ?_)
      · replace c_14 := (nI_leI (a := (gm_grd (M 16 0 + gm_wnd M) M k) 10 0) (b := k) (by omega) (by omega)).mp c_14
        refine gk_iload_n G dX0_grind_102 2 rfl ?_
        exact RET _ _ _ _ _ _ (F1, B1) dX0_grind_103 rfl (by rw [show M 10 0 = k by omega]; exact ⟨rfl, hr1⟩) rfl (Nat.le_of_ble_eq_true rfl) (Nat.le_of_ble_eq_true rfl)
      · replace c_14 := (not_congr (nI_leI (a := (gm_grd (M 16 0 + gm_wnd M) M k) 10 0) (b := k) (by omega) (by omega))).mp c_14
        have h1k := hz6 k (by omega)
        have h3k := hfr2 k (by omega)
        refine gk_aload_n G dX0_grind_17 0 rfl ?_
        refine gk_get (v' := .ref (q 2)) G hinX0 (q0 := 0) rfl rfl 2 (by decide) k18 rfl rfl dX0_grind_18 ?_
        refine gk_iload_n G dX0_grind_21 3 rfl ?_
        refine gk_iald (v := gm_e (gm_who (gm_grd (M 16 0 + gm_wnd M) M k) k ((gm_grd (M 16 0 + gm_wnd M) M k) 11 0))) G (q0 := 3) (t0 := 0) rfl rfl k rfl (by omega) (by decide) (hr1.2.2.2.1 k (by omega)) dX0_grind_22 ?_
        refine gk_istore (lv' := [(4, .int (gm_e (gm_who (gm_grd (M 16 0 + gm_wnd M) M k) k ((gm_grd (M 16 0 + gm_wnd M) M k) 11 0)))), (0, .ref h), (1, .int (nI (gm_wnd M))), (2, .int (nI ((gm_grd (M 16 0 + gm_wnd M) M k) 16 0 - M 16 0))), (3, .int (nI k))]) G dX0_grind_23 (by decide) rfl ?_
        refine gk_iload G dX0_grind_25 0 rfl ?_
        refine gk_iconst (v := -1) G dX0_grind_27 (by decide) ?_
        refine gk_icmp_eq (tgt := 96) G dX0_grind_28 (by decide) (fun c_28 => ?_) (fun c_28 => ?_)
        · replace c_28 := (gm_e_none (a := gm_who (gm_grd (M 16 0 + gm_wnd M) M k) k ((gm_grd (M 16 0 + gm_wnd M) M k) 11 0)) (by omega)).mp c_28
          refine gk_iinc (j := 4) (v := nI (k + 1)) (lv' := [(3, .int (nI (k + 1))), (4, .int (gm_e (gm_who (gm_grd (M 16 0 + gm_wnd M) M k) k ((gm_grd (M 16 0 + gm_wnd M) M k) 11 0)))), (0, .ref h), (1, .int (nI (gm_wnd M))), (2, .int (nI ((gm_grd (M 16 0 + gm_wnd M) M k) 16 0 - M 16 0)))]) G dX0_grind_96 rfl (nI_add k 1) (by decide) rfl ?_
          refine gk_goto (tgt := 9) G dX0_grind_99 (by decide) ?_
          have ge : gm_grd (M 16 0 + gm_wnd M) M (k + 1) = (gm_grd (M 16 0 + gm_wnd M) M k) := gm_gs_0 c_28
          have t9 := ih (k + 1) F1 B1 (by omega) (by omega) (by rw [ge]; exact hr1) hfr1
          rw [ge] at t9
          exact gk_lsub [2,3,4,0] rfl t9
        · replace c_28 := (not_congr (gm_e_none (a := gm_who (gm_grd (M 16 0 + gm_wnd M) M k) k ((gm_grd (M 16 0 + gm_wnd M) M k) 11 0)) (by omega))).mp c_28
          have hlk := (wf1.2.2.2.2.2.2.1 (gm_who (gm_grd (M 16 0 + gm_wnd M) M k) k ((gm_grd (M 16 0 + gm_wnd M) M k) 11 0) - 1) (by omega)).2.1
          have hal : gm_amt (M 16 0 + gm_wnd M) (gm_grd (M 16 0 + gm_wnd M) M k) k (gm_who (gm_grd (M 16 0 + gm_wnd M) M k) k ((gm_grd (M 16 0 + gm_wnd M) M k) 11 0) - 1) ≤ (gm_grd (M 16 0 + gm_wnd M) M k) 5 (gm_who (gm_grd (M 16 0 + gm_wnd M) M k) k ((gm_grd (M 16 0 + gm_wnd M) M k) 11 0) - 1) := by unfold gm_amt; omega
          have J57 : gk_C p l e ({ frames := 2, cells := 0, slots := 0, locals := 42 } : Room) s m ([.ref h] : List Value).toArray below meth c 7 D A Q 0 0 (gs_W cI cZ h q F1 B1) [(4, .int (gm_e (gm_who (gm_grd (M 16 0 + gm_wnd M) M k) k ((gm_grd (M 16 0 + gm_wnd M) M k) 11 0)))), (3, .int (nI k)), (2, .int (nI ((gm_grd (M 16 0 + gm_wnd M) M k) 16 0 - M 16 0))), (1, .int (nI (gm_wnd M))), (0, .ref h)] 57 [.int (nI ((gm_grd (M 16 0 + gm_wnd M) M k) 1 k - (gm_grd (M 16 0 + gm_wnd M) M k) 3 k))] := by
            refine gk_istore (lv' := [(5, .int (nI ((gm_grd (M 16 0 + gm_wnd M) M k) 1 k - (gm_grd (M 16 0 + gm_wnd M) M k) 3 k))), (4, .int (gm_e (gm_who (gm_grd (M 16 0 + gm_wnd M) M k) k ((gm_grd (M 16 0 + gm_wnd M) M k) 11 0)))), (3, .int (nI k)), (2, .int (nI ((gm_grd (M 16 0 + gm_wnd M) M k) 16 0 - M 16 0))), (1, .int (nI (gm_wnd M))), (0, .ref h)]) G dX0_grind_57 (by decide) rfl ?_
            refine gk_iload G dX0_grind_59 0 rfl ?_
            refine gk_aload_n G dX0_grind_61 5 rfl ?_
            refine gk_get (v' := .ref (q 5)) G hinX0 (q0 := 0) rfl rfl 5 (by decide) k28 rfl rfl dX0_grind_62 ?_
            refine gk_iload G dX0_grind_65 1 rfl ?_
            refine gk_iald (v := nI ((gm_grd (M 16 0 + gm_wnd M) M k) 5 (gm_who (gm_grd (M 16 0 + gm_wnd M) M k) k ((gm_grd (M 16 0 + gm_wnd M) M k) 11 0) - 1))) G (q0 := 6) (t0 := 0) rfl rfl (gm_who (gm_grd (M 16 0 + gm_wnd M) M k) k ((gm_grd (M 16 0 + gm_wnd M) M k) 11 0) - 1) (gm_e_pred c_28) (by omega) (by decide) (hr1.2.2.2.2.2.1 (gm_who (gm_grd (M 16 0 + gm_wnd M) M k) k ((gm_grd (M 16 0 + gm_wnd M) M k) 11 0) - 1) (by omega)) dX0_grind_67 ?_
            refine gk_iload_n G dX0_grind_68 4 rfl ?_
            refine gk_iload_n G dX0_grind_69 3 rfl ?_
            refine gk_isub (v := nI (gm_wnd M - ((gm_grd (M 16 0 + gm_wnd M) M k) 16 0 - M 16 0))) G dX0_grind_70 (pk_sub (by omega)) ?_
            refine gk_mmin (v := nI (min ((gm_grd (M 16 0 + gm_wnd M) M k) 5 (gm_who (gm_grd (M 16 0 + gm_wnd M) M k) k ((gm_grd (M 16 0 + gm_wnd M) M k) 11 0) - 1)) (gm_wnd M - ((gm_grd (M 16 0 + gm_wnd M) M k) 16 0 - M 16 0)))) G (G.2.2.2.2.1 (.methodLink RX0 95 Lib.Math.min.name) (List.mem_cons_of_mem _ (List.mem_append_left _ (List.mem_of_getElem? (i := 5) rfl)))) (G.2.2.2.2.1 (.static Lib.Math.min.name) (List.mem_cons_of_mem _ (List.mem_append_left _ (List.mem_of_getElem? (i := 6) rfl)))) (G.2.2.2.2.1 (.initialized "java/lang/Math") (List.mem_cons_of_mem _ (List.mem_append_left _ (List.mem_of_getElem? (i := 7) rfl)))) (G.2.2.2.2.1 (.code Lib.Math.min.name Lib.Math.min.code 2 (some .int)) (List.mem_cons_of_mem _ (List.mem_append_left _ (List.mem_of_getElem? (i := 8) rfl)))) (Nat.le_of_ble_eq_true rfl) (Nat.le_of_ble_eq_true rfl) (Nat.le_of_ble_eq_true rfl) (Nat.le_of_ble_eq_true rfl) (gm_min (by omega) (by omega)) dX0_grind_71 ?_
            refine gk_mmin (v := nI (gm_amt (M 16 0 + gm_wnd M) (gm_grd (M 16 0 + gm_wnd M) M k) k (gm_who (gm_grd (M 16 0 + gm_wnd M) M k) k ((gm_grd (M 16 0 + gm_wnd M) M k) 11 0) - 1))) G (G.2.2.2.2.1 (.methodLink RX0 95 Lib.Math.min.name) (List.mem_cons_of_mem _ (List.mem_append_left _ (List.mem_of_getElem? (i := 5) rfl)))) (G.2.2.2.2.1 (.static Lib.Math.min.name) (List.mem_cons_of_mem _ (List.mem_append_left _ (List.mem_of_getElem? (i := 6) rfl)))) (G.2.2.2.2.1 (.initialized "java/lang/Math") (List.mem_cons_of_mem _ (List.mem_append_left _ (List.mem_of_getElem? (i := 7) rfl)))) (G.2.2.2.2.1 (.code Lib.Math.min.name Lib.Math.min.code 2 (some .int)) (List.mem_cons_of_mem _ (List.mem_append_left _ (List.mem_of_getElem? (i := 8) rfl)))) (Nat.le_of_ble_eq_true rfl) (Nat.le_of_ble_eq_true rfl) (Nat.le_of_ble_eq_true rfl) (Nat.le_of_ble_eq_true rfl) ((gm_min (by omega) (by omega)).trans (congrArg nI (by unfold gm_amt; omega))) dX0_grind_74 ?_
            refine gk_istore (lv' := [(6, .int (nI (gm_amt (M 16 0 + gm_wnd M) (gm_grd (M 16 0 + gm_wnd M) M k) k (gm_who (gm_grd (M 16 0 + gm_wnd M) M k) k ((gm_grd (M 16 0 + gm_wnd M) M k) 11 0) - 1)))), (5, .int (nI ((gm_grd (M 16 0 + gm_wnd M) M k) 1 k - (gm_grd (M 16 0 + gm_wnd M) M k) 3 k))), (4, .int (gm_e (gm_who (gm_grd (M 16 0 + gm_wnd M) M k) k ((gm_grd (M 16 0 + gm_wnd M) M k) 11 0)))), (3, .int (nI k)), (2, .int (nI ((gm_grd (M 16 0 + gm_wnd M) M k) 16 0 - M 16 0))), (1, .int (nI (gm_wnd M))), (0, .ref h)]) G dX0_grind_77 (by decide) rfl ?_
            refine gk_aload_n G dX0_grind_79 6 rfl ?_
            refine gk_get (v' := .ref (q 5)) G hinX0 (q0 := 0) rfl rfl 5 (by decide) k28 rfl rfl dX0_grind_80 ?_
            refine gk_iload G dX0_grind_83 2 rfl ?_
            refine gk_dup2 G dX0_grind_85 rfl rfl ?_
            refine gk_iald (v := nI ((gm_grd (M 16 0 + gm_wnd M) M k) 5 (gm_who (gm_grd (M 16 0 + gm_wnd M) M k) k ((gm_grd (M 16 0 + gm_wnd M) M k) 11 0) - 1))) G (q0 := 6) (t0 := 0) rfl rfl (gm_who (gm_grd (M 16 0 + gm_wnd M) M k) k ((gm_grd (M 16 0 + gm_wnd M) M k) 11 0) - 1) (gm_e_pred c_28) (by omega) (by decide) (hr1.2.2.2.2.2.1 (gm_who (gm_grd (M 16 0 + gm_wnd M) M k) k ((gm_grd (M 16 0 + gm_wnd M) M k) 11 0) - 1) (by omega)) dX0_grind_86 ?_
            refine gk_iload G dX0_grind_87 0 rfl ?_
            refine gk_isub (v := nI ((gm_grd (M 16 0 + gm_wnd M) M k) 5 (gm_who (gm_grd (M 16 0 + gm_wnd M) M k) k ((gm_grd (M 16 0 + gm_wnd M) M k) 11 0) - 1) - gm_amt (M 16 0 + gm_wnd M) (gm_grd (M 16 0 + gm_wnd M) M k) k (gm_who (gm_grd (M 16 0 + gm_wnd M) M k) k ((gm_grd (M 16 0 + gm_wnd M) M k) 11 0) - 1))) G dX0_grind_89 (pk_sub hal) ?_
            refine gk_topi (fun v90 ev90 => ?_)
            refine gk_iast (w' := (gs_W cI cZ h q F1 (gc_up B1 5 (upd (B1 5) (gm_who (gm_grd (M 16 0 + gm_wnd M) M k) k ((gm_grd (M 16 0 + gm_wnd M) M k) 11 0) - 1) v90)))) G (q0 := 6) (t0 := 0) rfl rfl (gm_who (gm_grd (M 16 0 + gm_wnd M) M k) k ((gm_grd (M 16 0 + gm_wnd M) M k) 11 0) - 1) (gm_e_pred c_28) (by omega) (by decide) rfl dX0_grind_90 ?_
            generalize eB90 : gc_up B1 5 (upd (B1 5) (gm_who (gm_grd (M 16 0 + gm_wnd M) M k) k ((gm_grd (M 16 0 + gm_wnd M) M k) 11 0) - 1) v90) = B90
            refine gk_iload_n G dX0_grind_91 4 rfl ?_
            refine gk_iload G dX0_grind_92 0 rfl ?_
            refine gk_iadd (v := nI ((gm_grd (M 16 0 + gm_wnd M) M k) 16 0 - M 16 0 + gm_amt (M 16 0 + gm_wnd M) (gm_grd (M 16 0 + gm_wnd M) M k) k (gm_who (gm_grd (M 16 0 + gm_wnd M) M k) k ((gm_grd (M 16 0 + gm_wnd M) M k) 11 0) - 1))) G dX0_grind_94 (nI_add _ _) ?_
            refine gk_istore_n (lv' := [(2, .int (nI ((gm_grd (M 16 0 + gm_wnd M) M k) 16 0 - M 16 0 + gm_amt (M 16 0 + gm_wnd M) (gm_grd (M 16 0 + gm_wnd M) M k) k (gm_who (gm_grd (M 16 0 + gm_wnd M) M k) k ((gm_grd (M 16 0 + gm_wnd M) M k) 11 0) - 1)))), (6, .int (nI (gm_amt (M 16 0 + gm_wnd M) (gm_grd (M 16 0 + gm_wnd M) M k) k (gm_who (gm_grd (M 16 0 + gm_wnd M) M k) k ((gm_grd (M 16 0 + gm_wnd M) M k) 11 0) - 1)))), (5, .int (nI ((gm_grd (M 16 0 + gm_wnd M) M k) 1 k - (gm_grd (M 16 0 + gm_wnd M) M k) 3 k))), (4, .int (gm_e (gm_who (gm_grd (M 16 0 + gm_wnd M) M k) k ((gm_grd (M 16 0 + gm_wnd M) M k) 11 0)))), (3, .int (nI k)), (1, .int (nI (gm_wnd M))), (0, .ref h)]) G dX0_grind_95 rfl (by decide) rfl ?_
            refine gk_iinc (j := 4) (v := nI (k + 1)) (lv' := [(3, .int (nI (k + 1))), (2, .int (nI ((gm_grd (M 16 0 + gm_wnd M) M k) 16 0 - M 16 0 + gm_amt (M 16 0 + gm_wnd M) (gm_grd (M 16 0 + gm_wnd M) M k) k (gm_who (gm_grd (M 16 0 + gm_wnd M) M k) k ((gm_grd (M 16 0 + gm_wnd M) M k) 11 0) - 1)))), (6, .int (nI (gm_amt (M 16 0 + gm_wnd M) (gm_grd (M 16 0 + gm_wnd M) M k) k (gm_who (gm_grd (M 16 0 + gm_wnd M) M k) k ((gm_grd (M 16 0 + gm_wnd M) M k) 11 0) - 1)))), (5, .int (nI ((gm_grd (M 16 0 + gm_wnd M) M k) 1 k - (gm_grd (M 16 0 + gm_wnd M) M k) 3 k))), (4, .int (gm_e (gm_who (gm_grd (M 16 0 + gm_wnd M) M k) k ((gm_grd (M 16 0 + gm_wnd M) M k) 11 0)))), (1, .int (nI (gm_wnd M))), (0, .ref h)]) G dX0_grind_96 rfl (nI_add k 1) (by decide) rfl ?_
            refine gk_goto (tgt := 9) G dX0_grind_99 (by decide) ?_
            have ge : gm_grd (M 16 0 + gm_wnd M) M (k + 1) = gm_les (gm_grd (M 16 0 + gm_wnd M) M k) (gm_who (gm_grd (M 16 0 + gm_wnd M) M k) k ((gm_grd (M 16 0 + gm_wnd M) M k) 11 0) - 1) (gm_amt (M 16 0 + gm_wnd M) (gm_grd (M 16 0 + gm_wnd M) M k) k (gm_who (gm_grd (M 16 0 + gm_wnd M) M k) k ((gm_grd (M 16 0 + gm_wnd M) M k) 11 0) - 1)) := gm_gs_1 c_28
            have r9 : gc_rep F1 B90 (gm_grd (M 16 0 + gm_wnd M) M (k + 1)) := by rw [ge]; subst eB90; subst ev90; exact gc_rep_les hr1 (by omega)
            have f9 : ∀ i, i < M 10 0 → B90 3 i = nI (M 3 i) := fun i hi => by subst eB90; rw [gc_up_ne _ _ (by decide)]; exact hfr1 i hi
            have v9 : (gm_grd (M 16 0 + gm_wnd M) M k) 16 0 - M 16 0 + gm_amt (M 16 0 + gm_wnd M) (gm_grd (M 16 0 + gm_wnd M) M k) k (gm_who (gm_grd (M 16 0 + gm_wnd M) M k) k ((gm_grd (M 16 0 + gm_wnd M) M k) 11 0) - 1) = gm_grd (M 16 0 + gm_wnd M) M (k + 1) 16 0 - M 16 0 := by rw [ge, gm_les_16]; omega
            have t9 := ih (k + 1) F1 _ (by omega) (by omega) r9 f9
            rw [← v9] at t9
            exact gk_lsub [6,5,1,0] rfl t9
          refine gk_aload_n G dX0_grind_31 1 rfl ?_
          refine gk_get (v' := .ref (q 3)) G hinX0 (q0 := 0) rfl rfl 3 (by decide) k21 rfl rfl dX0_grind_32 ?_
          refine gk_iload_n G dX0_grind_35 4 rfl ?_
          refine gk_zald (v := nI (M 3 k)) G (q0 := 4) (t0 := 1) rfl rfl k rfl (by omega) (by decide) (hfr1 k (by omega)) dX0_grind_36 ?_
          refine gk_if_eq (tgt := 51) G dX0_grind_37 (by decide) (fun c_37 => ?_) (fun c_37 => ?_)
          · replace c_37 := (nI_eq (a := M 3 k) (b := 0) (by omega) (by omega)).mp c_37
            refine gk_aload_n G dX0_grind_51 1 rfl ?_
            refine gk_get (v' := .ref (q 1)) G hinX0 (q0 := 0) rfl rfl 1 (by decide) k15 rfl rfl dX0_grind_52 ?_
            refine gk_iload_n G dX0_grind_55 4 rfl ?_
            refine gk_iald (v := nI ((gm_grd (M 16 0 + gm_wnd M) M k) 1 k)) G (q0 := 2) (t0 := 0) rfl rfl k rfl (by omega) (by decide) (hr1.2.2.1 k (by omega)) dX0_grind_56 ?_
            have t9 := J57
            rw [show (gm_grd (M 16 0 + gm_wnd M) M k) 1 k - (gm_grd (M 16 0 + gm_wnd M) M k) 3 k = (gm_grd (M 16 0 + gm_wnd M) M k) 1 k by rw [e3]; omega] at t9
            exact gk_lsub [0,4,3,2,1] rfl t9
          · replace c_37 := (not_congr (nI_eq (a := M 3 k) (b := 0) (by omega) (by omega))).mp c_37
            refine gk_aload_n G dX0_grind_40 1 rfl ?_
            refine gk_get (v' := .ref (q 1)) G hinX0 (q0 := 0) rfl rfl 1 (by decide) k15 rfl rfl dX0_grind_41 ?_
            refine gk_iload_n G dX0_grind_44 4 rfl ?_
            refine gk_iald (v := nI ((gm_grd (M 16 0 + gm_wnd M) M k) 1 k)) G (q0 := 2) (t0 := 0) rfl rfl k rfl (by omega) (by decide) (hr1.2.2.1 k (by omega)) dX0_grind_45 ?_
            refine gk_iconst (v := nI 1) G dX0_grind_46 (by decide) ?_
            refine gk_isub (v := nI ((gm_grd (M 16 0 + gm_wnd M) M k) 1 k - 1)) G dX0_grind_47 (pk_sub (by omega)) ?_
            refine gk_goto (tgt := 57) G dX0_grind_48 (by decide) ?_
            have t9 := J57
            rw [show (gm_grd (M 16 0 + gm_wnd M) M k) 1 k - (gm_grd (M 16 0 + gm_wnd M) M k) 3 k = (gm_grd (M 16 0 + gm_wnd M) M k) 1 k - 1 by rw [e3]; omega] at t9
            exact gk_lsub [0,4,3,2,1] rfl t9
  refine gk_aload_n G dX0_grind_0 0 rfl ?_
  refine gk_callIV (wr := []) G (c0_windOfHour l D cI cZ cJ h q F B M wf hr hh) gX0_grind_X0_windOfHour rfl 0 (by decide +kernel) rfl rfl ⟨(Nat.le_of_ble_eq_true rfl), (Nat.le_of_ble_eq_true rfl)⟩ rfl (q0 := 0) rfl (T := TX0) (N := 16) rfl gk_ok0 trivial [0, 1, 2, 3, 4, 5, 6, 7, 8, 9] rfl (by decide) [] rfl (by decide) (by decide) rfl (Nat.le_of_ble_eq_true rfl) dX0_grind_1 ⟨(Nat.le_of_ble_eq_true rfl), (Nat.le_of_ble_eq_true rfl)⟩ (fun r1 u1 hp1 => ?_)
  obtain rfl : r1 = nI (gm_wnd M) := hp1
  show gk_C p l e ({ frames := 2, cells := 0, slots := 0, locals := 42 } : Room) s m ([.ref h] : List Value).toArray below meth c 7 D A Q 0 0 (gs_W cI cZ h q F B) [(0, .ref h)] 4 [.int (nI (gm_wnd M))]
  refine gk_istore_n (lv' := [(1, .int (nI (gm_wnd M))), (0, .ref h)]) G dX0_grind_4 rfl (by decide) rfl ?_
  refine gk_iconst (v := nI 0) G dX0_grind_5 (by decide) ?_
  refine gk_istore_n (lv' := [(2, .int (nI 0)), (1, .int (nI (gm_wnd M))), (0, .ref h)]) G dX0_grind_6 rfl (by decide) rfl ?_
  refine gk_iconst (v := nI 0) G dX0_grind_7 (by decide) ?_
  refine gk_istore_n (lv' := [(3, .int (nI 0)), (2, .int (nI 0)), (1, .int (nI (gm_wnd M))), (0, .ref h)]) G dX0_grind_8 rfl (by decide) rfl ?_
  have t9 := L9 (M 10 0 + 1) 0 F B (by omega) (by omega) hr hfr
  rw [show gm_grd (M 16 0 + gm_wnd M) M 0 16 0 - M 16 0 = 0 from Nat.sub_self _] at t9
  exact gk_lsub [3,2,1,0] rfl t9
