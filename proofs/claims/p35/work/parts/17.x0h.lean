theorem gc_run1 {F : Nat → Int32} {B : Nat → Nat → Int32} {M : gm_M} {n : Nat} (hr : gc_rep F B (gm_hrs M n)) : gc_rep (upd F 9 (nI (M 9 0 + n))) B (gm_hrs M n) := by
  have h := gc_rep_9 (v := M 9 0 + n) hr
  rw [← gm_hrs_9 M n, gm_set_self] at h
  rw [← gm_hrs_9 M n]
  exact h
theorem gc_run2 {F : Nat → Int32} {B : Nat → Nat → Int32} {M : gm_M} {k n : Nat} (wf : gm_wf M) (hr : gc_rep F B (gm_hrs M k)) (hk : k ≤ n) (hg : gm_hrs M k 11 0 ≤ gm_gct (gm_hrs M k) (gm_hrs M k 11 0)) : gc_rep (upd F 9 (nI (M 9 0 + n))) B (gm_hrs M n) ∧ gm_hrs M n 16 0 = gm_hrs M k 16 0 := by
  obtain ⟨b, rfl⟩ : ∃ b, n = k + b := ⟨n - k, by omega⟩
  have ha : gm_all (gm_hrs M k) := gm_gct_all _ hg
  have hs := (gm_hrs_all (gm_hrs_wf wf k) ha b).1
  rw [← gm_hrs_add] at hs
  refine ⟨gc_rep_same ?_ hs, ?_⟩
  · rw [gm_hrs_9, show M 9 0 + (k + b) = M 9 0 + k + b by omega]
    exact gc_rep_9 hr
  · rw [hs 16 0 (by omega), gm_set_k _ _ (by decide)]

set_option maxRecDepth 100000 in
set_option maxHeartbeats 1000000 in
theorem c0_run (l : Launch) (D : va_G) (cI cZ cJ : ClassId) (h : Nat) (q : Nat → Nat) (F : Nat → Int32) (B : Nat → Nat → Int32) (M : gm_M) (n0 : Nat) (wf : gm_wf M) (hr : gc_rep F B M) (hrest : gm_rest M) (hh : M 9 0 + n0 < 2000000) : gk_I l yX0_run wsX0_run ({ frames := 3, cells := 0, slots := 0, locals := 69 } : Room) D (g_T cI cZ cJ) gk_E0 [.ref h, .int (nI n0)] (gs_W cI cZ h q F B) 0 0 (fun (r : Int32) (u : (Nat → Int32) × (Nat → Nat → Int32)) => r = nI (gm_hrs M n0 16 0 - M 16 0) ∧ gc_rep u.1 u.2 (gm_hrs M n0)) (fun u => (gs_W cI cZ h q u.1 u.2)) := by
  refine gk_I_of (ty := .int) (cc := cX0_run) (nL := 5) (by decide +kernel) rfl (Nat.le_of_ble_eq_true rfl) ?_
  intro p e s m below meth c A Q hnm hE G RET
  obtain ⟨hz1, hz2, hz3, hz4, hz5, hz6, hz7, hz8⟩ := id wf
  have hg0 := gm_gct_le M (M 11 0)
  have hinX0 : ∀ w ∈ wsX00, w ∈ wsX0_run := fun w h9 => (List.mem_cons_of_mem _ (List.mem_append_right _ h9))
  have k40 := G.2.2.2.2.1 (.fieldLink RX0 40 "GustMill$State" "hour" "I") (List.mem_cons_of_mem _ (List.mem_append_left _ (List.mem_append_left _ (List.mem_of_getElem? (i := 0) rfl))))
  have k47 := G.2.2.2.2.1 (.fieldLink RX0 47 "GustMill$State" "sackCount" "I") (List.mem_cons_of_mem _ (List.mem_append_left _ (List.mem_append_left _ (List.mem_of_getElem? (i := 2) rfl))))
  have k50 := G.2.2.2.2.1 (.fieldLink RX0 50 "GustMill$State" "groundCount" "I") (List.mem_cons_of_mem _ (List.mem_append_left _ (List.mem_append_left _ (List.mem_of_getElem? (i := 1) rfl))))
  have k59 := G.2.2.2.2.1 (.fieldLink RX0 59 "GustMill$State" "isTakingOff" "Z") (List.mem_cons_of_mem _ (List.mem_append_left _ (List.mem_append_left _ (List.mem_of_getElem? (i := 3) rfl))))
  have L12 : ∀ (n : Nat) (k : Nat) (F1 : Nat → Int32) (B1 : Nat → Nat → Int32), n0 - k < n → (k ≤ n0) → (gc_rep F1 B1 (gm_hrs M k)) → gk_C p l e ({ frames := 3, cells := 0, slots := 0, locals := 69 } : Room) s m ([.ref h, .int (nI n0)] : List Value).toArray below meth c 5 D A Q 0 0 (gs_W cI cZ h q F1 B1) [(0, .ref h), (1, .int (nI n0)), (2, .int (nI (M 9 0 + n0))), (3, .int (nI ((gm_hrs M k) 16 0 - M 16 0))), (4, .int (nI k))] 12 [] := by
    intro n
    induction n with
    | zero => intro k F1 B1 h0; exact absurd h0 (Nat.not_lt_zero _)
    | succ n ih =>
      intro k F1 B1 h0 w0 w1
      have hr1 := w1
      have wf1 := gm_hrs_wf wf k
      have rest1 := gm_hrs_rest wf hrest k
      have x9 := gm_hrs_9 M k
      have x16 := gm_hrs_16 M k
      have x11 : gm_hrs M k 11 0 = M 11 0 := gm_hrs_ne M 0 (by decide) (by decide) (by decide) (by decide) (by decide) (by decide) (by decide) k
      have xg := gm_gct_le (gm_hrs M k) (gm_hrs M k 11 0)
      have x15 := wf1.2.2.2.1
      refine gk_iload G dX0_run_12 4 rfl ?_
      refine gk_iload_n G dX0_run_14 1 rfl ?_
      refine gk_icmp_ge (tgt := 71) G dX0_run_15 (by decide) (fun c_15 => ?_) (fun c_15 => ?_)
      · replace c_15 := (nI_leI (a := n0) (b := k) (by omega) (by omega)).mp c_15
        refine gk_aload_n G dX0_run_71 0 rfl ?_
        refine gk_iload_n G dX0_run_72 2 rfl ?_
        refine gk_topi (fun v73 ev73 => ?_)
        refine gk_put (w' := (gs_W cI cZ h q (upd F1 9 v73) B1)) G hinX0 tyX0_ok nmX0 (q0 := 0) rfl rfl 9 (by decide) k40 rfl rfl rfl (Nat.le_of_ble_eq_true rfl) rfl dX0_run_73 ?_
        generalize eF73 : upd F1 9 v73 = F73
        refine gk_iload_n G dX0_run_76 3 rfl ?_
        exact RET _ _ _ _ _ _ (F73, B1) dX0_run_77 rfl (by subst eF73; subst ev73; obtain rfl : k = n0 := (by omega); exact ⟨rfl, gc_run1 hr1⟩) rfl (Nat.le_of_ble_eq_true rfl) (Nat.le_of_ble_eq_true rfl)
      · replace c_15 := (not_congr (nI_leI (a := n0) (b := k) (by omega) (by omega))).mp c_15
        refine gk_aload_n G dX0_run_18 0 rfl ?_
        refine gk_get (v' := .int (nI (gm_gct (gm_hrs M k) ((gm_hrs M k) 11 0)))) G hinX0 (q0 := 0) rfl rfl 12 (by decide) k50 rfl (congrArg Value.int (hr1.1.2.2.2.1)) dX0_run_19 ?_
        refine gk_aload_n G dX0_run_22 0 rfl ?_
        refine gk_get (v' := .int (nI ((gm_hrs M k) 11 0))) G hinX0 (q0 := 0) rfl rfl 11 (by decide) k47 rfl (congrArg Value.int (hr1.1.2.2.1)) dX0_run_23 ?_
        refine gk_icmp_ge (tgt := 71) G dX0_run_26 (by decide) (fun c_26 => ?_) (fun c_26 => ?_)
        · replace c_26 := (nI_leI (a := (gm_hrs M k) 11 0) (b := gm_gct (gm_hrs M k) ((gm_hrs M k) 11 0)) (by omega) (by omega)).mp c_26
          refine gk_aload_n G dX0_run_71 0 rfl ?_
          refine gk_iload_n G dX0_run_72 2 rfl ?_
          refine gk_topi (fun v73 ev73 => ?_)
          refine gk_put (w' := (gs_W cI cZ h q (upd F1 9 v73) B1)) G hinX0 tyX0_ok nmX0 (q0 := 0) rfl rfl 9 (by decide) k40 rfl rfl rfl (Nat.le_of_ble_eq_true rfl) rfl dX0_run_73 ?_
          generalize eF73 : upd F1 9 v73 = F73
          refine gk_iload_n G dX0_run_76 3 rfl ?_
          exact RET _ _ _ _ _ _ (F73, B1) dX0_run_77 rfl (by subst eF73; subst ev73; have t9 := gc_run2 wf hr1 w0 c_26; exact ⟨by rw [t9.2], t9.1⟩) rfl (Nat.le_of_ble_eq_true rfl) (Nat.le_of_ble_eq_true rfl)
        · replace c_26 := (not_congr (nI_leI (a := (gm_hrs M k) 11 0) (b := gm_gct (gm_hrs M k) ((gm_hrs M k) 11 0)) (by omega) (by omega))).mp c_26
          have J40 : ∀ (F2 : Nat → Int32) (B2 : Nat → Nat → Int32), gc_rep F2 B2 (gm_tk (gm_hrs M k)) → gk_C p l e ({ frames := 3, cells := 0, slots := 0, locals := 69 } : Room) s m ([.ref h, .int (nI n0)] : List Value).toArray below meth c 5 D A Q 0 0 (gs_W cI cZ h q F2 B2) [(0, .ref h), (1, .int (nI n0)), (2, .int (nI (M 9 0 + n0))), (3, .int (nI ((gm_hrs M k) 16 0 - M 16 0))), (4, .int (nI k))] 40 [] := by
            intro F2 B2 hr2
            have wf2 := gm_tk_wf wf1
            have rest2 := gm_tk_rest rest1
            refine gk_aload_n G dX0_run_40 0 rfl ?_
            refine gk_callVV (wr := []) G (c0_fillStones l D cI cZ cJ h q F2 B2 (gm_tk (gm_hrs M k)) wf2 hr2 rest2) gX0_run_X0_fillStones rfl 0 (by decide +kernel) rfl rfl ⟨(Nat.le_of_ble_eq_true rfl), (Nat.le_of_ble_eq_true rfl)⟩ rfl (q0 := 0) rfl (T := TX0) (N := 16) rfl gk_ok0 trivial [0, 1, 2, 3, 4, 5, 6, 7, 8, 9] rfl (by decide) [] rfl (by decide) (by decide) rfl (Nat.le_of_ble_eq_true rfl) dX0_run_41 ⟨(Nat.le_of_ble_eq_true rfl), (Nat.le_of_ble_eq_true rfl)⟩ (fun u41 hp41 => ?_)
            obtain ⟨F41, B41⟩ := u41
            have hr41 : gc_rep F41 B41 (gm_h1 (gm_hrs M k)) := (by have t9 := hp41.1; rw [gm_h1_eq] at t9; exact t9)
            have wf41 := gm_h1_wf wf1
            have y10 : gm_h1 (gm_hrs M k) 10 0 = (gm_hrs M k) 10 0 := gm_h1_ne _ 0 (by decide) (by decide) (by decide)
            have y9 : gm_h1 (gm_hrs M k) 9 0 = (gm_hrs M k) 9 0 := gm_h1_ne _ 0 (by decide) (by decide) (by decide)
            have y16 : gm_h1 (gm_hrs M k) 16 0 = (gm_hrs M k) 16 0 := gm_h1_ne _ 0 (by decide) (by decide) (by decide)
            have hf41 : ∀ i, i < gm_h1 (gm_hrs M k) 10 0 → B41 3 i = nI (gm_h1 (gm_hrs M k) 3 i) := fun i hi => by have t9 := hp41.2 i (by rw [gm_tk_ne _ 0 (by decide)]; omega); rw [gm_h1_eq] at t9; exact t9
            have hg41 : ∀ i, i < gm_h1 (gm_hrs M k) 10 0 → gm_h1 (gm_hrs M k) 3 i ≤ 1 := fun i hi => gm_fil_3 _ _ i (by rw [← y10]; exact hi)
            show gk_C p l e ({ frames := 3, cells := 0, slots := 0, locals := 69 } : Room) s m ([.ref h, .int (nI n0)] : List Value).toArray below meth c 5 D A Q 0 0 (gs_W cI cZ h q F41 B41) [(0, .ref h), (1, .int (nI n0)), (2, .int (nI (M 9 0 + n0))), (3, .int (nI ((gm_hrs M k) 16 0 - M 16 0))), (4, .int (nI k))] 44 []
            refine gk_iload_n G dX0_run_44 3 rfl ?_
            refine gk_aload_n G dX0_run_45 0 rfl ?_
            refine gk_callIV (wr := []) G (c0_grind l D cI cZ cJ h q F41 B41 (gm_h1 (gm_hrs M k)) wf41 hr41 (by omega) hf41 hg41) gX0_run_X0_grind rfl 0 (by decide +kernel) rfl rfl ⟨(Nat.le_of_ble_eq_true rfl), (Nat.le_of_ble_eq_true rfl)⟩ rfl (q0 := 0) rfl (T := TX0) (N := 16) rfl gk_ok0 trivial [0, 1, 2, 3, 4, 5, 6, 7, 8, 9] rfl (by decide) [] rfl (by decide) (by decide) rfl (Nat.le_of_ble_eq_true rfl) dX0_run_46 ⟨(Nat.le_of_ble_eq_true rfl), (Nat.le_of_ble_eq_true rfl)⟩ (fun r46 u46 hp46 => ?_)
            obtain ⟨F46, B46⟩ := u46
            have hr46 : gc_rep F46 B46 (gm_h2 (gm_hrs M k)) := (by have t9 := hp46.2; rw [gm_h2_eq] at t9; exact t9)
            obtain rfl : r46 = nI (gm_h2 (gm_hrs M k) 16 0 - (gm_hrs M k) 16 0) := (by have t9 := hp46.1; rw [gm_h2_eq, y16] at t9; exact t9)
            have z9 : gm_h2 (gm_hrs M k) 9 0 = (gm_hrs M k) 9 0 := gm_h2_ne _ 0 (by decide) (by decide) (by decide) (by decide) (by decide)
            have z16 := gm_h2_16 (gm_hrs M k)
            show gk_C p l e ({ frames := 3, cells := 0, slots := 0, locals := 69 } : Room) s m ([.ref h, .int (nI n0)] : List Value).toArray below meth c 5 D A Q 0 0 (gs_W cI cZ h q F46 B46) [(0, .ref h), (1, .int (nI n0)), (2, .int (nI (M 9 0 + n0))), (3, .int (nI ((gm_hrs M k) 16 0 - M 16 0))), (4, .int (nI k))] 49 [.int (nI (gm_h2 (gm_hrs M k) 16 0 - (gm_hrs M k) 16 0)), .int (nI ((gm_hrs M k) 16 0 - M 16 0))]
            refine gk_iadd (v := nI (((gm_hrs M k) 16 0 - M 16 0) + (gm_h2 (gm_hrs M k) 16 0 - (gm_hrs M k) 16 0))) G dX0_run_49 (nI_add _ _) ?_
            refine gk_istore_n (lv' := [(3, .int (nI (((gm_hrs M k) 16 0 - M 16 0) + (gm_h2 (gm_hrs M k) 16 0 - (gm_hrs M k) 16 0)))), (0, .ref h), (1, .int (nI n0)), (2, .int (nI (M 9 0 + n0))), (4, .int (nI k))]) G dX0_run_50 rfl (by decide) rfl ?_
            refine gk_aload_n G dX0_run_51 1 rfl ?_
            refine gk_dup G dX0_run_52 rfl ?_
            refine gk_get (v' := .int (nI ((gm_h2 (gm_hrs M k)) 9 0))) G hinX0 (q0 := 0) rfl rfl 9 (by decide) k40 rfl (congrArg Value.int (hr46.1.1)) dX0_run_53 ?_
            refine gk_iconst (v := nI 1) G dX0_run_56 (by decide) ?_
            refine gk_iadd (v := nI (((gm_h2 (gm_hrs M k)) 9 0) + 1)) G dX0_run_57 (nI_add ((gm_h2 (gm_hrs M k)) 9 0) 1) ?_
            refine gk_topi (fun v58 ev58 => ?_)
            refine gk_put (w' := (gs_W cI cZ h q (upd F46 9 v58) B46)) G hinX0 tyX0_ok nmX0 (q0 := 0) rfl rfl 9 (by decide) k40 rfl rfl rfl (Nat.le_of_ble_eq_true rfl) rfl dX0_run_58 ?_
            generalize eF58 : upd F46 9 v58 = F58
            refine gk_aload_n G dX0_run_61 1 rfl ?_
            have hr58 : gc_rep F58 B46 (gm_inc (gm_h2 (gm_hrs M k))) := by subst eF58; subst ev58; exact gc_rep_inc hr46
            have wf58 := gm_inc_wf (gm_h2_wf wf1)
            refine gk_callVV (wr := []) G (c0_finishSacks l D cI cZ cJ h q F58 B46 (gm_inc (gm_h2 (gm_hrs M k))) wf58 hr58) gX0_run_X0_finishSacks rfl 0 (by decide +kernel) rfl rfl ⟨(Nat.le_of_ble_eq_true rfl), (Nat.le_of_ble_eq_true rfl)⟩ rfl (q0 := 0) rfl (T := TX0) (N := 16) rfl gk_ok0 trivial [0, 1, 2, 3, 4, 5, 6, 7, 8, 9] rfl (by decide) [] rfl (by decide) (by decide) rfl (Nat.le_of_ble_eq_true rfl) dX0_run_62 ⟨(Nat.le_of_ble_eq_true rfl), (Nat.le_of_ble_eq_true rfl)⟩ (fun u62 hp62 => ?_)
            obtain ⟨F62, B62⟩ := u62
            have hr62 : gc_rep F62 B62 (gm_hour (gm_hrs M k)) := (by have t9 := hp62; rw [gm_hour_eq] at t9; exact t9)
            show gk_C p l e ({ frames := 3, cells := 0, slots := 0, locals := 69 } : Room) s m ([.ref h, .int (nI n0)] : List Value).toArray below meth c 5 D A Q 0 0 (gs_W cI cZ h q F62 B62) [(3, .int (nI (((gm_hrs M k) 16 0 - M 16 0) + (gm_h2 (gm_hrs M k) 16 0 - (gm_hrs M k) 16 0)))), (0, .ref h), (1, .int (nI n0)), (2, .int (nI (M 9 0 + n0))), (4, .int (nI k))] 65 []
            refine gk_iinc (j := 4) (v := nI (k + 1)) (lv' := [(4, .int (nI (k + 1))), (3, .int (nI (((gm_hrs M k) 16 0 - M 16 0) + (gm_h2 (gm_hrs M k) 16 0 - (gm_hrs M k) 16 0)))), (0, .ref h), (1, .int (nI n0)), (2, .int (nI (M 9 0 + n0)))]) G dX0_run_65 rfl (nI_add k 1) (by decide) rfl ?_
            refine gk_goto (tgt := 12) G dX0_run_68 (by decide) ?_
            have t9 := ih (k + 1) _ _ (by omega) (by omega) hr62
            rw [show gm_hrs M (k + 1) 16 0 - M 16 0 = ((gm_hrs M k) 16 0 - M 16 0) + (gm_h2 (gm_hrs M k) 16 0 - (gm_hrs M k) 16 0) by rw [show gm_hrs M (k + 1) = gm_hour (gm_hrs M k) from rfl, gm_hour_16]; omega] at t9
            exact gk_lsub [2,3,4,1,0] rfl t9
          refine gk_aload_n G dX0_run_29 0 rfl ?_
          refine gk_get (v' := .int (nI ((gm_hrs M k) 15 0))) G hinX0 (q0 := 0) rfl rfl 15 (by decide) k59 rfl (congrArg Value.int (hr1.1.2.2.2.2.2.2)) dX0_run_30 ?_
          refine gk_if_eq (tgt := 40) G dX0_run_33 (by decide) (fun c_33 => ?_) (fun c_33 => ?_)
          · replace c_33 := (nI_eq (a := (gm_hrs M k) 15 0) (b := 0) (by omega) (by omega)).mp c_33
            exact J40 F1 B1 (by rw [show gm_tk (gm_hrs M k) = (gm_hrs M k) from if_pos c_33]; exact hr1)
          · replace c_33 := (not_congr (nI_eq (a := (gm_hrs M k) 15 0) (b := 0) (by omega) (by omega))).mp c_33
            refine gk_aload_n G dX0_run_36 0 rfl ?_
            refine gk_callVV (wr := []) G (c0_takeOffUnwanted l D cI cZ cJ h q F1 B1 (gm_hrs M k) wf1 hr1 rest1) gX0_run_X0_takeOffUnwanted rfl 0 (by decide +kernel) rfl rfl ⟨(Nat.le_of_ble_eq_true rfl), (Nat.le_of_ble_eq_true rfl)⟩ rfl (q0 := 0) rfl (T := TX0) (N := 16) rfl gk_ok0 trivial [0, 1, 2, 3, 4, 5, 6, 7, 8, 9] rfl (by decide) [] rfl (by decide) (by decide) rfl (Nat.le_of_ble_eq_true rfl) dX0_run_37 ⟨(Nat.le_of_ble_eq_true rfl), (Nat.le_of_ble_eq_true rfl)⟩ (fun u37 hp37 => ?_)
            obtain ⟨F37, B37⟩ := u37
            have hr37 : gc_rep F37 B37 (gm_tkp (gm_hrs M k) ((gm_hrs M k) 11 0)) := hp37
            show gk_C p l e ({ frames := 3, cells := 0, slots := 0, locals := 69 } : Room) s m ([.ref h, .int (nI n0)] : List Value).toArray below meth c 5 D A Q 0 0 (gs_W cI cZ h q F37 B37) [(0, .ref h), (1, .int (nI n0)), (2, .int (nI (M 9 0 + n0))), (3, .int (nI ((gm_hrs M k) 16 0 - M 16 0))), (4, .int (nI k))] 40 []
            exact J40 _ _ (by rw [show gm_tk (gm_hrs M k) = gm_tkp (gm_hrs M k) ((gm_hrs M k) 11 0) from if_neg c_33]; exact hr37)
  refine gk_aload_n G dX0_run_0 0 rfl ?_
  refine gk_get (v' := .int (nI (M 9 0))) G hinX0 (q0 := 0) rfl rfl 9 (by decide) k40 rfl (congrArg Value.int (hr.1.1)) dX0_run_1 ?_
  refine gk_iload_n G dX0_run_4 1 rfl ?_
  refine gk_iadd (v := nI (M 9 0 + n0)) G dX0_run_5 (nI_add _ _) ?_
  refine gk_istore_n (lv' := [(2, .int (nI (M 9 0 + n0))), (0, .ref h), (1, .int (nI n0))]) G dX0_run_6 rfl (by decide) rfl ?_
  refine gk_iconst (v := nI 0) G dX0_run_7 (by decide) ?_
  refine gk_istore_n (lv' := [(3, .int (nI 0)), (2, .int (nI (M 9 0 + n0))), (0, .ref h), (1, .int (nI n0))]) G dX0_run_8 rfl (by decide) rfl ?_
  refine gk_iconst (v := nI 0) G dX0_run_9 (by decide) ?_
  refine gk_istore (lv' := [(4, .int (nI 0)), (3, .int (nI 0)), (2, .int (nI (M 9 0 + n0))), (0, .ref h), (1, .int (nI n0))]) G dX0_run_10 (by decide) rfl ?_
  have t9 := L12 (n0 + 1) 0 F B (by omega) (by omega) hr
  rw [show gm_hrs M 0 16 0 - M 16 0 = 0 from Nat.sub_self _] at t9
  exact gk_lsub [3,4,2,1,0] rfl t9
