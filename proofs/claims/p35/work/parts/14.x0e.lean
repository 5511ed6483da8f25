set_option maxRecDepth 100000 in
set_option maxHeartbeats 1000000 in
theorem c0_fillStones (l : Launch) (D : va_G) (cI cZ cJ : ClassId) (h : Nat) (q : Nat → Nat) (F : Nat → Int32) (B : Nat → Nat → Int32) (M : gm_M) (wf : gm_wf M) (hr : gc_rep F B M) (hrest : gm_rest M) : gk_V l yX0_fillStones wsX0_fillStones ({ frames := 2, cells := 0, slots := 0, locals := 47 } : Room) D (g_T cI cZ cJ) gk_E0 [.ref h] (gs_W cI cZ h q F B) 0 0 (fun (u : (Nat → Int32) × (Nat → Nat → Int32)) => gc_rep u.1 u.2 (gm_fil M (M 10 0)) ∧ ∀ i, i < M 10 0 → u.2 3 i = nI (gm_fil M (M 10 0) 3 i)) (fun u => (gs_W cI cZ h q u.1 u.2)) := by
  refine gk_V_of (cc := cX0_fillStones) (nL := 3) (by decide +kernel) rfl (Nat.le_of_ble_eq_true rfl) ?_
  intro p e s m below meth c A Q hnm hE G RET
  obtain ⟨hz1, hz2, hz3, hz4, hz5, hz6, hz7, hz8⟩ := id wf
  have hinX0 : ∀ w ∈ wsX00, w ∈ wsX0_fillStones := fun w h9 => (List.mem_cons_of_mem _ (List.mem_append_right _ h9))
  have k18 := G.2.2.2.2.1 (.fieldLink RX0 18 "GustMill$State" "sacksUpon" "[I") (List.mem_cons_of_mem _ (List.mem_append_left _ (List.mem_of_getElem? (i := 1) rfl)))
  have k21 := G.2.2.2.2.1 (.fieldLink RX0 21 "GustMill$State" "isFresh" "[Z") (List.mem_cons_of_mem _ (List.mem_append_left _ (List.mem_of_getElem? (i := 2) rfl)))
  have k34 := G.2.2.2.2.1 (.fieldLink RX0 34 "GustMill$State" "stonesUnder" "[I") (List.mem_cons_of_mem _ (List.mem_append_left _ (List.mem_of_getElem? (i := 3) rfl)))
  have k44 := G.2.2.2.2.1 (.fieldLink RX0 44 "GustMill$State" "stoneCount" "I") (List.mem_cons_of_mem _ (List.mem_append_left _ (List.mem_of_getElem? (i := 0) rfl)))
  have k53 := G.2.2.2.2.1 (.fieldLink RX0 53 "GustMill$State" "changeCount" "I") (List.mem_cons_of_mem _ (List.mem_append_left _ (List.mem_of_getElem? (i := 4) rfl)))
  have L2 : ∀ (n : Nat) (k : Nat) (F1 : Nat → Int32) (B1 : Nat → Nat → Int32), M 10 0 - k < n → (k ≤ M 10 0) → (gc_rep F1 B1 (gm_fil M k)) → (∀ i, i < k → B1 3 i = nI (gm_fil M k 3 i)) → gk_C p l e ({ frames := 2, cells := 0, slots := 0, locals := 47 } : Room) s m ([.ref h] : List Value).toArray below meth c 3 D A Q 0 0 (gs_W cI cZ h q F1 B1) [(0, .ref h), (1, .int (nI k))] 2 [] := by
    intro n
    induction n with
    | zero => intro k F1 B1 h0; exact absurd h0 (Nat.not_lt_zero _)
    | succ n ih =>
      intro k F1 B1 h0 w0 w1 w2
      have hr1 := w1
      have hfr1 := w2
      have wf1 := gm_fil_wf wf k w0
      have rest1 := gm_fil_rest hrest k
      have e10 : gm_fil M k 10 0 = M 10 0 := gm_fil_ne M 0 (by decide) (by decide) (by decide) k
      have e11 : gm_fil M k 11 0 = M 11 0 := gm_fil_ne M 0 (by decide) (by decide) (by decide) k
      have hwl := gm_who_le (gm_fil M k) k (gm_fil M k 11 0)
      have hnl := gm_nxt_le (gm_fil M k) 1 (gm_fil M k 11 0)
      refine gk_iload_n G dX0_fillStones_2 1 rfl ?_
      refine gk_aload_n G dX0_fillStones_3 0 rfl ?_
      refine gk_get (v' := .int (nI ((gm_fil M k) 10 0))) G hinX0 (q0 := 0) rfl rfl 10 (by decide) k44 rfl (congrArg Value.int (hr1.1.2.1)) dX0_fillStones_4 ?_
      refine gk_icmp_ge (tgt := 81) G dX0_fillStones_7 (by decide) (fun c_7 => ?_) (fun c_7 => ?_)
      · replace c_7 := (nI_leI (a := (gm_fil M k) 10 0) (b := k) (by omega) (by omega)).mp c_7
        exact RET _ _ _ _ _ (F1, B1) dX0_fillStones_81 (by rw [show M 10 0 = k by omega]; exact ⟨hr1, hfr1⟩) rfl (Nat.le_of_ble_eq_true rfl) (Nat.le_of_ble_eq_true rfl)
      · replace c_7 := (not_congr (nI_leI (a := (gm_fil M k) 10 0) (b := k) (by omega) (by omega))).mp c_7
        have J29 : ∀ z : Nat, z ≤ (gm_fil M k) 11 0 → ((gm_who (gm_fil M k) k ((gm_fil M k) 11 0) ≠ 0 → z = 0) ∧ (gm_who (gm_fil M k) k ((gm_fil M k) 11 0) = 0 → z = gm_nxt (gm_fil M k) 1 ((gm_fil M k) 11 0))) → gk_C p l e ({ frames := 2, cells := 0, slots := 0, locals := 47 } : Room) s m ([.ref h] : List Value).toArray below meth c 3 D A Q 0 0 (gs_W cI cZ h q F1 B1) [(0, .ref h), (1, .int (nI k))] 29 [.int (gm_e z)] := by
          intro z hzl hz
          refine gk_istore_n (lv' := [(2, .int (gm_e z)), (0, .ref h), (1, .int (nI k))]) G dX0_fillStones_29 rfl (by decide) rfl ?_
          refine gk_aload_n G dX0_fillStones_30 1 rfl ?_
          refine gk_get (v' := .ref (q 3)) G hinX0 (q0 := 0) rfl rfl 3 (by decide) k21 rfl rfl dX0_fillStones_31 ?_
          refine gk_iload_n G dX0_fillStones_34 2 rfl ?_
          refine gk_iload_n G dX0_fillStones_35 0 rfl ?_
          refine gk_iconst (v := -1) G dX0_fillStones_36 (by decide) ?_
          refine gk_icmp_eq (tgt := 44) G dX0_fillStones_37 (by decide) (fun c_37 => ?_) (fun c_37 => ?_)
          · replace c_37 := (gm_e_none (a := z) (by omega)).mp c_37
            refine gk_iconst (v := nI 0) G dX0_fillStones_44 (by decide) ?_
            refine gk_topi (fun v45 ev45 => ?_)
            refine gk_zast (w' := (gs_W cI cZ h q F1 (gc_up B1 3 (upd (B1 3) k v45)))) G (q0 := 4) (t0 := 1) rfl rfl k rfl (by omega) (by decide) (by rw [ev45]; first | exact Or.inl rfl | exact Or.inr rfl) rfl dX0_fillStones_45 ?_
            generalize eB45 : gc_up B1 3 (upd (B1 3) k v45) = B45
            refine gk_iload_n G dX0_fillStones_46 0 rfl ?_
            refine gk_iconst (v := -1) G dX0_fillStones_47 (by decide) ?_
            refine gk_icmp_eq (tgt := 75) G dX0_fillStones_48 (by decide) (fun c_48 => ?_) (fun c_48 => ?_)
            · replace c_48 := (gm_e_none (a := z) (by omega)).mp c_48
              refine gk_iinc (j := 2) (v := nI (k + 1)) (lv' := [(1, .int (nI (k + 1))), (2, .int (gm_e z)), (0, .ref h)]) G dX0_fillStones_75 rfl (nI_add k 1) (by decide) rfl ?_
              refine gk_goto (tgt := 2) G dX0_fillStones_78 (by decide) ?_
              have fe : gm_fil M (k + 1) = gm_set (gm_fil M k) 3 k 0 := by
                show gm_fs (gm_fil M k) k = _
                by_cases h9 : gm_who (gm_fil M k) k ((gm_fil M k) 11 0) = 0
                · exact gm_fs_1 h9 (by rw [← hz.2 h9]; exact c_37)
                · exact gm_fs_0 h9
              have r9 : gc_rep F1 B45 (gm_fil M (k + 1)) := by
                rw [fe]
                subst eB45; subst ev45
                exact gc_rep_set3 _ _ _ hr1
              have f9 : ∀ i, i < k + 1 → B45 3 i = nI (gm_fil M (k + 1) 3 i) := fun i hi => by
                rw [fe]
                subst eB45; subst ev45
                rw [gc_up_at]
                by_cases hik : i = k
                · rw [hik, pk_us, gm_set_at]
                · rw [pk_un hik, gm_set_i _ _ hik]; exact hfr1 i (by omega)
              exact gk_lsub [2,0] rfl (ih (k + 1) _ _ (by omega) (by omega) r9 f9)
            · replace c_48 := (not_congr (gm_e_none (a := z) (by omega))).mp c_48
              exact absurd c_37 c_48
          · replace c_37 := (not_congr (gm_e_none (a := z) (by omega))).mp c_37
            refine gk_iconst (v := nI 1) G dX0_fillStones_40 (by decide) ?_
            refine gk_goto (tgt := 45) G dX0_fillStones_41 (by decide) ?_
            refine gk_topi (fun v45 ev45 => ?_)
            refine gk_zast (w' := (gs_W cI cZ h q F1 (gc_up B1 3 (upd (B1 3) k v45)))) G (q0 := 4) (t0 := 1) rfl rfl k rfl (by omega) (by decide) (by rw [ev45]; first | exact Or.inl rfl | exact Or.inr rfl) rfl dX0_fillStones_45 ?_
            generalize eB45 : gc_up B1 3 (upd (B1 3) k v45) = B45
            refine gk_iload_n G dX0_fillStones_46 0 rfl ?_
            refine gk_iconst (v := -1) G dX0_fillStones_47 (by decide) ?_
            refine gk_icmp_eq (tgt := 75) G dX0_fillStones_48 (by decide) (fun c_48 => ?_) (fun c_48 => ?_)
            · replace c_48 := (gm_e_none (a := z) (by omega)).mp c_48
              exact absurd c_48 c_37
            · replace c_48 := (not_congr (gm_e_none (a := z) (by omega))).mp c_48
              have zw : gm_who (gm_fil M k) k ((gm_fil M k) 11 0) = 0 := by
                by_cases h9 : gm_who (gm_fil M k) k ((gm_fil M k) 11 0) = 0
                · exact h9
                · exact absurd (hz.1 h9) c_37
              have zn : z = gm_nxt (gm_fil M k) 1 ((gm_fil M k) 11 0) := hz.2 zw
              have zok := gm_nxt_ok (M := (gm_fil M k)) (f := 1) _ (zn ▸ c_37)
              refine gk_aload_n G dX0_fillStones_51 1 rfl ?_
              refine gk_get (v' := .ref (q 2)) G hinX0 (q0 := 0) rfl rfl 2 (by decide) k18 rfl rfl dX0_fillStones_52 ?_
              refine gk_iload_n G dX0_fillStones_55 2 rfl ?_
              refine gk_iload_n G dX0_fillStones_56 0 rfl ?_
              refine gk_topi (fun v57 ev57 => ?_)
              refine gk_iast (w' := (gs_W cI cZ h q F1 (gc_up B45 2 (upd (B45 2) k v57)))) G (q0 := 3) (t0 := 0) rfl rfl k rfl (by omega) (by decide) rfl dX0_fillStones_57 ?_
              generalize eB57 : gc_up B45 2 (upd (B45 2) k v57) = B57
              refine gk_aload_n G dX0_fillStones_58 1 rfl ?_
              refine gk_get (v' := .ref (q 7)) G hinX0 (q0 := 0) rfl rfl 7 (by decide) k34 rfl rfl dX0_fillStones_59 ?_
              refine gk_iload_n G dX0_fillStones_62 0 rfl ?_
              refine gk_iload_n G dX0_fillStones_63 2 rfl ?_
              refine gk_topi (fun v64 ev64 => ?_)
              refine gk_iast (w' := (gs_W cI cZ h q F1 (gc_up B57 7 (upd (B57 7) (z - 1) v64)))) G (q0 := 8) (t0 := 0) rfl rfl (z - 1) (gm_e_pred c_37) (by omega) (by decide) rfl dX0_fillStones_64 ?_
              generalize eB64 : gc_up B57 7 (upd (B57 7) (z - 1) v64) = B64
              refine gk_aload_n G dX0_fillStones_65 1 rfl ?_
              refine gk_dup G dX0_fillStones_66 rfl ?_
              refine gk_get (v' := .int (nI ((gm_fil M k) 13 0))) G hinX0 (q0 := 0) rfl rfl 13 (by decide) k53 rfl (congrArg Value.int (hr1.1.2.2.2.2.1)) dX0_fillStones_67 ?_
              refine gk_iconst (v := nI 1) G dX0_fillStones_70 (by decide) ?_
              refine gk_iadd (v := nI (((gm_fil M k) 13 0) + 1)) G dX0_fillStones_71 (nI_add ((gm_fil M k) 13 0) 1) ?_
              refine gk_topi (fun v72 ev72 => ?_)
              refine gk_put (w' := (gs_W cI cZ h q (upd F1 13 v72) B64)) G hinX0 tyX0_ok nmX0 (q0 := 0) rfl rfl 13 (by decide) k53 rfl rfl rfl (Nat.le_of_ble_eq_true rfl) rfl dX0_fillStones_72 ?_
              generalize eF72 : upd F1 13 v72 = F72
              refine gk_iinc (j := 2) (v := nI (k + 1)) (lv' := [(1, .int (nI (k + 1))), (2, .int (gm_e z)), (0, .ref h)]) G dX0_fillStones_75 rfl (nI_add k 1) (by decide) rfl ?_
              refine gk_goto (tgt := 2) G dX0_fillStones_78 (by decide) ?_
              have fe : gm_fil M (k + 1) = gm_set (gm_put (gm_fil M k) k (z - 1)) 3 k 1 := by rw [zn]; exact gm_fs_2 zw (zn ▸ c_37)
              have r9 : gc_rep F72 B64 (gm_fil M (k + 1)) := by
                rw [fe]
                refine gc_rep_same ?_ (gm_same_set3 _ _ _)
                have r8 := gc_rep_put wf1 (gc_rep_b3 (upd (B1 3) k (nI 1)) hr1) (by omega) (show z - 1 < _ by omega) ((zn ▸ zok.2).resolve_left (by decide)) zw
                rw [← gm_e_pred c_37, gc_up_ne _ _ (show (7 : Nat) ≠ 3 by decide), gc_up_ne _ _ (show (2 : Nat) ≠ 3 by decide)] at r8
                subst eF72; subst ev72; subst eB64; subst eB57; subst eB45; subst ev64; subst ev57; subst ev45; rw [gc_up_ne _ _ (show (7 : Nat) ≠ 2 by decide), gc_up_ne _ _ (show (7 : Nat) ≠ 3 by decide), gc_up_ne _ _ (show (2 : Nat) ≠ 3 by decide)]
                exact r8
              have f9 : ∀ i, i < k + 1 → B64 3 i = nI (gm_fil M (k + 1) 3 i) := fun i hi => by
                rw [fe]
                subst eB64; subst eB57; subst eB45; subst ev64; subst ev57; subst ev45
                rw [gc_up_ne _ _ (show (3 : Nat) ≠ 7 by decide), gc_up_ne _ _ (show (3 : Nat) ≠ 2 by decide), gc_up_at]
                by_cases hik : i = k
                · rw [hik, pk_us, gm_set_at]
                · rw [pk_un hik, gm_set_i _ _ hik, gm_put_ne _ _ _ _ (by decide) (by decide)]; exact hfr1 i (by omega)
              exact gk_lsub [2,0] rfl (ih (k + 1) _ _ (by omega) (by omega) r9 f9)
        refine gk_aload_n G dX0_fillStones_10 0 rfl ?_
        refine gk_get (v' := .ref (q 2)) G hinX0 (q0 := 0) rfl rfl 2 (by decide) k18 rfl rfl dX0_fillStones_11 ?_
        refine gk_iload_n G dX0_fillStones_14 1 rfl ?_
        refine gk_iald (v := gm_e (gm_who (gm_fil M k) k ((gm_fil M k) 11 0))) G (q0 := 3) (t0 := 0) rfl rfl k rfl (by omega) (by decide) (hr1.2.2.2.1 k (by omega)) dX0_fillStones_15 ?_
        refine gk_iconst (v := -1) G dX0_fillStones_16 (by decide) ?_
        refine gk_icmp_ne (tgt := 28) G dX0_fillStones_17 (by decide) (fun c_17 => ?_) (fun c_17 => ?_)
        · replace c_17 := (not_congr (gm_e_none (a := gm_who (gm_fil M k) k ((gm_fil M k) 11 0)) (by omega))).mp c_17
          refine gk_iconst (v := -1) G dX0_fillStones_28 (by decide) ?_
          have t9 := J29 0 (by omega) ⟨fun _ => rfl, fun q => absurd q c_17⟩
          rw [gm_e0] at t9
          exact gk_lsub [0,1] rfl t9
        · replace c_17 := (gm_e_none (a := gm_who (gm_fil M k) k ((gm_fil M k) 11 0)) (by omega)).mp c_17
          refine gk_aload_n G dX0_fillStones_20 0 rfl ?_
          refine gk_iconst (v := nI 1) G dX0_fillStones_21 (by decide) ?_
          refine gk_callIV (wr := []) G (c0_firstByRule l D cI cZ cJ h q F1 B1 (gm_fil M k) 1 wf1 hr1 rest1 (by omega)) gX0_fillStones_X0_firstByRule rfl 1 (by decide +kernel) rfl rfl ⟨(Nat.le_of_ble_eq_true rfl), (Nat.le_of_ble_eq_true rfl)⟩ rfl (q0 := 0) rfl (T := TX0) (N := 16) rfl gk_ok0 trivial [0, 1, 2, 3, 4, 5, 6, 7, 8, 9] rfl (by decide) [] rfl (by decide) (by decide) rfl (Nat.le_of_ble_eq_true rfl) dX0_fillStones_22 ⟨(Nat.le_of_ble_eq_true rfl), (Nat.le_of_ble_eq_true rfl)⟩ (fun r22 u22 hp22 => ?_)
          obtain rfl : r22 = gm_e (gm_nxt (gm_fil M k) 1 ((gm_fil M k) 11 0)) := hp22
          show gk_C p l e ({ frames := 2, cells := 0, slots := 0, locals := 47 } : Room) s m ([.ref h] : List Value).toArray below meth c 3 D A Q 0 0 (gs_W cI cZ h q F1 B1) [(0, .ref h), (1, .int (nI k))] 25 [.int (gm_e (gm_nxt (gm_fil M k) 1 ((gm_fil M k) 11 0)))]
          refine gk_goto (tgt := 29) G dX0_fillStones_25 (by decide) ?_
          exact gk_lsub [0,1] rfl (J29 (gm_nxt (gm_fil M k) 1 ((gm_fil M k) 11 0)) (by omega) ⟨fun q => absurd c_17 q, fun _ => rfl⟩)
  refine gk_iconst (v := nI 0) G dX0_fillStones_0 (by decide) ?_
  refine gk_istore_n (lv' := [(1, .int (nI 0)), (0, .ref h)]) G dX0_fillStones_1 rfl (by decide) rfl ?_
  exact gk_lsub [1,0] rfl (L2 (M 10 0 + 1) 0 F B (by omega) (by omega) hr (fun i hi => absurd hi (Nat.not_lt_zero i)))
