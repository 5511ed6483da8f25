set_option maxRecDepth 100000 in
set_option maxHeartbeats 4000000 in
theorem ll_loop {p : Program} {l : Launch} {e : Env} {s : State} {m : MethodId} {below : List Frame} {meth : Method} {c : Code} {D : va_G} {A : Nat → Prop} {Q : State → Prop} {cI cZ cJ : ClassId} {b L : Nat} {xs : Nat → Int32} {g h1 h2 : Nat} {q1 q2 : Nat → Nat} {a : Nat} (G : gk_G p s m ([.ref b] : List Value).toArray meth c RL 23 cL_law (some .boolean) wsL_law D (g_T cI cZ cJ) A) (hE : gp_L b L xs A s s.heap) (hL : L ≤ 260) (END : ∀ (cells slots : Nat) (w : va_W) (lv : List (Nat × Value)), cells ≤ 600130 → slots ≤ 7301080 → gk_C p l e room_1 s m ([.ref b] : List Value).toArray below meth c 23 D A Q cells slots w lv 1026 [.int (nI 1)]) (v : gp_Q) (u : gw_U) (M : gm_M) (hb : gp_both v u M 2820 11280) : gk_C p l e room_1 s m ([.ref b] : List Value).toArray below meth c 23 D A Q 5665 56662 (gw_X cI cZ g h1 h2 q1 q2 u ++ gp_U cI cJ a v) [(0, .ref b), (1, .ref g), (2, .ref a), (3, .int (nI 0))] 22 [] := by
  have L22 : ∀ (n : Nat) (t : Nat) (v1 : gp_Q) (u1 : gw_U) (M1 : gm_M), 31 - t < n → (t ≤ 30) → (gp_both v1 u1 M1 (2820 + 61 * t) (11280 + 244 * t)) → gk_C p l e room_1 s m ([.ref b] : List Value).toArray below meth c 23 D A Q (5665 + 126 * t) (56662 + 1272 * t) (gw_X cI cZ g h1 h2 q1 q2 u1 ++ (gp_U cI cJ a v1)) [(0, .ref b), (1, .ref g), (2, .ref a), (3, .int (nI t))] 22 [] := by
    intro n
    induction n with
    | zero => intro t v1 u1 M1 h0; exact absurd h0 (Nat.not_lt_zero _)
    | succ n ih =>
      intro t v1 u1 M1 h0 w0 w1
      refine gk_iload_n G dL_law_22 3 rfl ?_
      refine gk_bipush (v := nI 30) G dL_law_23 (by decide) ?_
      refine gk_icmp_ge (tgt := 1021) G dL_law_25 (by decide) (fun c_25 => ?_) (fun c_25 => ?_)
      · replace c_25 := (nI_leI (a := 30) (b := t) (by omega) (by omega)).mp c_25
        refine gk_aload_n G dL_law_1021 2 rfl ?_
        refine gk_aload_n G dL_law_1022 1 rfl ?_
        refine gp_callIV (wr := []) G (c2_isSame l D cI cZ cJ g h1 h2 q1 q2 u1 a v1.1 v1.2.1 v1.2.2.1 v1.2.2.2.1 v1.2.2.2.2.1 v1.2.2.2.2.2.1 v1.2.2.2.2.2.2.1 v1.2.2.2.2.2.2.2.1 v1.2.2.2.2.2.2.2.2.1 v1.2.2.2.2.2.2.2.2.2.1 v1.2.2.2.2.2.2.2.2.2.2 M1 w1.1 w1.2.1 w1.2.2.1 w1.2.2.2.1.1 w1.2.2.2.1.2.1 w1.2.2.2.1.2.2.1 w1.2.2.2.1.2.2.2.1 w1.2.2.2.1.2.2.2.2 (by have := w1.2.2.2.2.1; omega)) gL_law_X2_isSame rfl 1 (by decide +kernel) rfl rfl ⟨(Nat.le_of_ble_eq_true rfl), (Nat.le_of_ble_eq_true rfl)⟩ rfl (q0 := 21) rfl (T := TX2) (N := 8) rfl gn_ok hE.1.1 (List.Perm.refl _) rfl (Nat.le_of_ble_eq_true rfl) dL_law_1023 ⟨by show 5665 + 126 * t + 3 ≤ 600130; omega, by show 56662 + 1272 * t + 40 ≤ 7301080; omega⟩ (fun r1023 w1023 hp1023 => ?_)
        rw [show r1023 = nI 1 from hp1023.1]
        exact END _ _ _ _ (by omega) (by omega)
      · replace c_25 := (not_congr (nI_leI (a := 30) (b := t) (by omega) (by omega))).mp c_25
        refine gk_aload_n G dL_law_28 0 rfl ?_
        refine gk_iload_n G dL_law_29 3 rfl ?_
        refine gk_bipush (v := nI 16) G dL_law_30 (by decide) ?_
        refine gk_irem (v := nI (t % 16)) G dL_law_32 (by decide) (pk_rem (by omega) (by decide) (by decide)) ?_
        refine gp_cell (k := (t % 16)) G gL_law_L_cell hE.2.1 hL (by omega) ⟨(Nat.le_of_ble_eq_true rfl), (Nat.le_of_ble_eq_true rfl)⟩ ⟨by show (5665 + 126 * t) ≤ 600130; omega, by show (56662 + 1272 * t) ≤ 7301080; omega⟩ (Nat.le_of_ble_eq_true rfl) dL_law_33 ?_
        show gk_C p l e room_1 s m ([.ref b] : List Value).toArray below meth c 23 D A Q (5665 + 126 * t) (56662 + 1272 * t) (gw_X cI cZ g h1 h2 q1 q2 u1 ++ (gp_U cI cJ a v1)) [(0, .ref b), (1, .ref g), (2, .ref a), (3, .int (nI t))] 36 [.int (gp_cel L xs (t % 16))]
        refine gk_iload_n G dL_law_36 3 rfl ?_
        refine gk_bipush (v := nI 16) G dL_law_37 (by decide) ?_
        refine gk_idiv (v := nI (t / 16)) G dL_law_39 (by decide) (pk_div (by omega) (by decide) (by decide)) ?_
        refine gk_iconst (v := nI 3) G dL_law_40 (by decide) ?_
        refine gk_imul (v := nI ((t / 16) * 3)) G dL_law_41 (pk_mul (t / 16) 3) ?_
        refine gk_ishr (v := (gp_cel L xs (t % 16)) >>> ((nI ((t / 16) * 3)) &&& 31)) G dL_law_42 rfl ?_
        refine gk_sipush (v := nI 733) G dL_law_43 (by decide) ?_
        refine gk_iload_n G dL_law_46 3 rfl ?_
        refine gk_imul (v := nI (733 * t)) G dL_law_47 (pk_mul 733 t) ?_
        refine gk_iadd (v := ((gp_cel L xs (t % 16)) >>> ((nI ((t / 16) * 3)) &&& 31)) + (nI (733 * t))) G dL_law_48 rfl ?_
        refine gk_istore (lv' := [(4, .int (((gp_cel L xs (t % 16)) >>> ((nI ((t / 16) * 3)) &&& 31)) + (nI (733 * t)))), (0, .ref b), (1, .ref g), (2, .ref a), (3, .int (nI t))]) G dL_law_49 (by decide) rfl ?_
        refine gk_aload_n G dL_law_51 2 rfl ?_
        refine gk_aload_n G dL_law_52 3 rfl ?_
        refine gk_iload G dL_law_53 0 rfl ?_
        refine gp_callIS (wr := []) G (c3_act l D cI cZ cJ g h1 h2 q1 q2 u1 a v1.1 v1.2.1 v1.2.2.1 v1.2.2.2.1 v1.2.2.2.2.1 v1.2.2.2.2.2.1 v1.2.2.2.2.2.2.1 v1.2.2.2.2.2.2.2.1 v1.2.2.2.2.2.2.2.2.1 v1.2.2.2.2.2.2.2.2.2.1 v1.2.2.2.2.2.2.2.2.2.2 M1 (((gp_cel L xs (t % 16)) >>> ((nI ((t / 16) * 3)) &&& 31)) + (nI (733 * t))) w1.1 w1.2.1 w1.2.2.1 w1.2.2.2.1.1 w1.2.2.2.1.2.1 w1.2.2.2.1.2.2.1 w1.2.2.2.1.2.2.2.1 w1.2.2.2.1.2.2.2.2 (by have := w1.2.2.2.2.1; omega)) gL_law_L_act rfl 3 (by decide +kernel) rfl rfl ⟨(Nat.le_of_ble_eq_true rfl), (Nat.le_of_ble_eq_true rfl)⟩ rfl (gp_and_ok gn_ok gp_ao_ok) hE.1 (List.Perm.refl _) rfl (Nat.le_of_ble_eq_true rfl) dL_law_55 ⟨by show 5665 + 126 * t + 120 ≤ 600130; omega, by show 56662 + 1272 * t + 1200 ≤ 7301080; omega⟩ (fun r55 w55 hp55 => ?_)
        obtain ⟨v55, u55, M55⟩ := w55
        rw [show r55 = nI 1 from hp55.1]
        have b55 : gp_both v55 u55 M55 (2820 + 61 * t + 60) (11280 + 244 * t + 240) := gp_both_post w1.2.2.2.2.1 w1.2.2.2.2.2 hp55.2
        show gk_C p l e room_1 s m ([.ref b] : List Value).toArray below meth c 23 D A Q (5665 + 126 * t + 120) (56662 + 1272 * t + 1200) (gw_X cI cZ g h1 h2 q1 q2 u55 ++ (gp_U cI cJ a v55)) [(4, .int (((gp_cel L xs (t % 16)) >>> ((nI ((t / 16) * 3)) &&& 31)) + (nI (733 * t)))), (0, .ref b), (1, .ref g), (2, .ref a), (3, .int (nI t))] 58 [.int (nI 1)]
        refine gk_if_ne (tgt := 63) G dL_law_58 (by decide) (fun c_58 => ?_) (fun c_58 => ?_)
        · have hh55 : M55 9 0 < 1900000 := by have := b55.2.2.2.2.1; omega
          have h13 : M55 13 0 ≤ 1000000 := by have := b55.2.2.2.2.2; omega
          refine gk_lsub (lv' := [(0, .ref b), (1, .ref g), (2, .ref a), (3, .int (nI t)), (4, .int (((gp_cel L xs (t % 16)) >>> ((nI ((t / 16) * 3)) &&& 31)) + (nI (733 * t))))]) [1,2,3,4,0] rfl ?_
          refine la_1 G b55.1 b55.2.1 rfl rfl hh55 hE (by omega) (by omega) b55.2.2.1 (fun rI rL rA rO u1 hr1 => ?_)
          refine la_2 G b55.1 b55.2.1 rfl rfl hh55 hE (by omega) (by omega) rI rL rA rO _ _ _ _ (fun _ => rfl) hr1 (fun fi fl ft u2 hr2 hfl hft => ?_)
          refine la_3 G b55.1 b55.2.1 rfl rfl hh55 hE (by omega) (by omega) rI rL rA rO fi fl ft _ hr2 (fun u3 hr3 => ?_)
          refine la_4 G b55.1 b55.2.1 rfl rfl hh55 hE (by omega) (by omega) rI rL rA rO fi fl ft _ hr3 (fun fo u4 hr4 => ?_)
          refine la_5 G b55.1 b55.2.1 rfl rfl hh55 hE (by omega) (by omega) rI rL rA rO fi fl ft fo hr4 (fun u5 hr5 => ?_)
          refine la_6 G b55.1 b55.2.1 rfl rfl hh55 hE (by omega) (by omega) rI rL rA rO fi fl ft fo hr5 (fun u6 hr6 => ?_)
          refine la_7 G b55.1 b55.2.1 rfl rfl hh55 hE (by omega) (by omega) rI rL rA rO fi fl ft fo hr6 b55.2.2.2.1 h13 (fun u7 v7 hr7 hs7 => ?_)
          refine la_8 G b55.1 b55.2.1 rfl rfl hh55 hE (by omega) (by omega) rI rL rA rO fi fl ft fo hfl hft hr7 (fun u8 hr8 => ?_)
          refine la_9 G b55.1 b55.2.1 rfl rfl hh55 hE (by omega) (by omega) rI rL rA rO fi fl ft fo hr8 (fun u9 hr9 => ?_)
          refine la_10 G b55.1 b55.2.1 rfl rfl hh55 hE (by omega) (by omega) rI rL rA rO fi fl ft fo hr9 (fun u10 hr10 => ?_)
          refine la_11 G b55.1 b55.2.1 rfl rfl hh55 hE (by omega) (by omega) rI rL rA rO fi fl ft fo hr10 ?_
          show gk_C p l e room_1 s m ([.ref b] : List Value).toArray below meth c 23 D A Q (5665 + 126 * t + 120 + 4 + 2) (56662 + 1272 * t + 1200 + 52 + 20) (gw_X cI cZ g h1 h2 q1 q2 u10 ++ (gp_U cI cJ a v7)) [(0, .ref b), (1, .ref g), (2, .ref a), (3, .int (nI t))] 1015 []
          refine gk_iinc (j := 3) (v := nI (t + 1)) (lv' := [(3, .int (nI (t + 1))), (0, .ref b), (1, .ref g), (2, .ref a)]) G dL_law_1015 rfl (nI_add t 1) (by decide) rfl ?_
          refine gk_goto (tgt := 22) G dL_law_1018 (by decide) ?_
          have g13 := gp_hour_13 M55
          have g10 := b55.1.1
          refine gk_widen (k := (5665 + 126 * (t + 1))) (n := (56662 + 1272 * (t + 1))) (by omega) (by omega) ?_
          exact gk_lsub (lv' := [(0, .ref b), (1, .ref g), (2, .ref a), (3, .int (nI (t + 1)))]) [1,2,3,0] rfl (ih (t + 1) v7 u10 (gm_hour M55) (by omega) (by omega) ⟨gm_hour_wf b55.1, gm_hour_rest b55.1 b55.2.1, hr10, hs7, by rw [gm_hour_9]; have := b55.2.2.2.2.1; omega, by have := b55.2.2.2.2.2; omega⟩)
        · exact absurd c_58 (by decide)
  exact L22 32 0 v u M (by omega) (by omega) hb
