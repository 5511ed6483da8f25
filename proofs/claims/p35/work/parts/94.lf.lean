set_option maxRecDepth 100000 in
set_option maxHeartbeats 4000000 in
theorem la_8 {p : Program} {l : Launch} {e : Env} {s : State} {m : MethodId} {below : List Frame} {meth : Method} {c : Code} {D : va_G} {A : Nat → Prop} {Q : State → Prop} {cI cZ cJ : ClassId} {b L : Nat} {xs : Nat → Int32} {g h1 h2 : Nat} {q1 q2 : Nat → Nat} {u : gw_U} {a : Nat} {v : gp_Q} {M : gm_M} {x : Int32} {nm nk c0 s0 t : Nat} (G : gk_G p s m ([.ref b] : List Value).toArray meth c RL 23 cL_law (some .boolean) wsL_law D (g_T cI cZ cJ) A) (wf : gm_wf M) (hrest : gm_rest M) (hm : M 10 0 = nm) (hk : M 11 0 = nk) (hh : M 9 0 < 1900000) (hE : gp_L b L xs A s s.heap) (hc0 : c0 ≤ 100000) (hs0 : s0 ≤ 1000000) (rI rL rA rO : Nat) (fi fl ft fo : Nat → Int32) (hfl : ∀ j, j < nk → fl j = nI (M 5 j)) (hft : ∀ j, j < nk → ft j = gm_e (M 8 j)) (hr : gc_rep u.1.1 u.1.2 (gm_hour M)) (K : ∀ u : gw_U, gc_rep u.1.1 u.1.2 (gm_hour M) → gk_C p l e room_1 s m ([.ref b] : List Value).toArray below meth c 23 D A Q c0 s0 ((gw_R cI rO nm fo ++ (gw_R cI rA nk ft ++ (gw_R cI rL nk fl ++ (gw_R cZ rI nk fi)))) ++ (gw_X cI cZ g h1 h2 q1 q2 u ++ (gp_U cI cJ a v))) [(0, .ref b), (1, .ref g), (2, .ref a), (3, .int (nI t)), (4, .int x), (5, .int (nI nk)), (6, .int (nI nm)), (7, .ref rI), (10, .ref rL), (11, .ref rA), (12, .ref rO), (9, .int (nI (gm_sum M nk))), (16, .int (nI (M 9 0))), (17, .int (nI (gm_hour M 16 0 - M 16 0))), (18, .int (nI (gp_dif M (gm_hour M) nk))), (19, .int (nI (gp_ct (fun k => gm_hour M 8 k = 0 ∧ gm_hour M 7 k = 0) nk)))] 914 []) : gk_C p l e room_1 s m ([.ref b] : List Value).toArray below meth c 23 D A Q c0 s0 ((gw_R cI rO nm fo ++ (gw_R cI rA nk ft ++ (gw_R cI rL nk fl ++ (gw_R cZ rI nk fi)))) ++ (gw_X cI cZ g h1 h2 q1 q2 u ++ (gp_U cI cJ a v))) [(0, .ref b), (1, .ref g), (2, .ref a), (3, .int (nI t)), (4, .int x), (5, .int (nI nk)), (6, .int (nI nm)), (7, .ref rI), (10, .ref rL), (11, .ref rA), (12, .ref rO), (9, .int (nI (gm_sum M nk))), (16, .int (nI (M 9 0))), (17, .int (nI (gm_hour M 16 0 - M 16 0)))] 751 [] := by
  obtain ⟨hz1, hz2, hz3, hz4, hz5, hz6, hz7, hz8⟩ := id wf
  have hun := gp_un_le M nk
  have wf2 := gm_hour_wf wf
  have rest2 := gm_hour_rest wf hrest
  have e11 : gm_hour M 11 0 = M 11 0 := gm_hour_ne M 0 (by decide) (by decide) (by decide) (by decide) (by decide) (by decide) (by decide)
  have e10 : gm_hour M 10 0 = M 10 0 := gm_hour_ne M 0 (by decide) (by decide) (by decide) (by decide) (by decide) (by decide) (by decide)
  have e9h := gm_hour_9 M
  have L760 : ∀ (n : Nat) (k : Nat) (u : gw_U), nk - k < n → (k ≤ nk) → (gc_rep u.1.1 u.1.2 (gm_hour M)) → gk_C p l e room_1 s m ([.ref b] : List Value).toArray below meth c 23 D A Q c0 s0 ((gw_R cI rO nm fo ++ (gw_R cI rA nk ft ++ (gw_R cI rL nk fl ++ (gw_R cZ rI nk fi)))) ++ (gw_X cI cZ g h1 h2 q1 q2 u ++ (gp_U cI cJ a v))) [(0, .ref b), (1, .ref g), (2, .ref a), (3, .int (nI t)), (4, .int x), (5, .int (nI nk)), (6, .int (nI nm)), (7, .ref rI), (10, .ref rL), (11, .ref rA), (12, .ref rO), (9, .int (nI (gm_sum M nk))), (16, .int (nI (M 9 0))), (17, .int (nI (gm_hour M 16 0 - M 16 0))), (18, .int (nI (gp_dif M (gm_hour M) k))), (19, .int (nI (gp_ct (fun k => gm_hour M 8 k = 0 ∧ gm_hour M 7 k = 0) k))), (20, .int (nI k))] 760 [] := by
    intro n
    induction n with
    | zero => intro k u h0; exact absurd h0 (Nat.not_lt_zero _)
    | succ n ih =>
      intro k u h0 w0 w1
      refine gk_iload G dL_law_760 16 rfl ?_
      refine gk_iload G dL_law_762 5 rfl ?_
      refine gk_icmp_ge (tgt := 914) G dL_law_764 (by decide) (fun c_764 => ?_) (fun c_764 => ?_)
      · replace c_764 := (nI_leI (a := nk) (b := k) (by omega) (by omega)).mp c_764
        have ek : k = nk := by omega
        exact gk_lsub (lv' := [(0, .ref b), (1, .ref g), (2, .ref a), (3, .int (nI t)), (4, .int x), (5, .int (nI nk)), (6, .int (nI nm)), (7, .ref rI), (10, .ref rL), (11, .ref rA), (12, .ref rO), (9, .int (nI (gm_sum M nk))), (16, .int (nI (M 9 0))), (17, .int (nI (gm_hour M 16 0 - M 16 0))), (18, .int (nI (gp_dif M (gm_hour M) k))), (19, .int (nI (gp_ct (fun k => gm_hour M 8 k = 0 ∧ gm_hour M 7 k = 0) k)))]) [0,1,2,3,4,5,6,7,8,9,10,11,12,13,14,15] rfl (by rw [ek]; exact K u w1)
      · replace c_764 := (not_congr (nI_leI (a := nk) (b := k) (by omega) (by omega))).mp c_764
        have hkn : k < nk := by omega
        have h7k := hz7 k (by omega)
        have h7k2 := wf2.2.2.2.2.2.2.1 k (by omega)
        have hls := gp_less wf k
        have h8s := gp_hour_8 wf (show k < M 11 0 by omega)
        have hk5 := hrest k (by omega)
        have hct := gp_ct_le (fun k => gm_hour M 8 k = 0 ∧ gm_hour M 7 k = 0) k
        refine gk_aload G dL_law_767 8 rfl ?_
        refine gk_iload G dL_law_769 16 rfl ?_
        refine gk_iald (v := nI (M 5 k)) G (q0 := 2) (t0 := 0) rfl rfl k rfl (by omega) (by omega) (hfl k (by omega)) dL_law_771 ?_
        refine gk_aload_n G dL_law_772 1 rfl ?_
        refine gk_iload G dL_law_773 16 rfl ?_
        refine gq_leftOf_ok (Y := (gw_R cI rO nm fo ++ (gw_R cI rA nk ft ++ (gw_R cI rL nk fl ++ (gw_R cZ rI nk fi))))) G gL_law_X1_leftOf hE.1.1 ⟨(Nat.le_of_ble_eq_true rfl), (Nat.le_of_ble_eq_true rfl)⟩ ⟨by show c0 ≤ 600130; omega, by show s0 ≤ 7301080; omega⟩ k wf2 w1 (by omega) (Nat.le_of_ble_eq_true rfl) dL_law_775 (fun u775 hr775 => ?_)
        show gk_C p l e room_1 s m ([.ref b] : List Value).toArray below meth c 23 D A Q c0 s0 ((gw_R cI rO nm fo ++ (gw_R cI rA nk ft ++ (gw_R cI rL nk fl ++ (gw_R cZ rI nk fi)))) ++ (gw_X cI cZ g h1 h2 q1 q2 u775 ++ (gp_U cI cJ a v))) [(0, .ref b), (1, .ref g), (2, .ref a), (3, .int (nI t)), (4, .int x), (5, .int (nI nk)), (6, .int (nI nm)), (7, .ref rI), (10, .ref rL), (11, .ref rA), (12, .ref rO), (9, .int (nI (gm_sum M nk))), (16, .int (nI (M 9 0))), (17, .int (nI (gm_hour M 16 0 - M 16 0))), (18, .int (nI (gp_dif M (gm_hour M) k))), (19, .int (nI (gp_ct (fun k => gm_hour M 8 k = 0 ∧ gm_hour M 7 k = 0) k))), (20, .int (nI k))] 778 [.int (nI (gm_hour M 5 k)), .int (nI (M 5 k))]
        refine gk_isub (v := nI (M 5 k - gm_hour M 5 k)) G dL_law_778 (pk_sub hls.1) ?_
        refine gk_istore (lv' := [(21, .int (nI (M 5 k - gm_hour M 5 k))), (0, .ref b), (1, .ref g), (2, .ref a), (3, .int (nI t)), (4, .int x), (5, .int (nI nk)), (6, .int (nI nm)), (7, .ref rI), (10, .ref rL), (11, .ref rA), (12, .ref rO), (9, .int (nI (gm_sum M nk))), (16, .int (nI (M 9 0))), (17, .int (nI (gm_hour M 16 0 - M 16 0))), (18, .int (nI (gp_dif M (gm_hour M) k))), (19, .int (nI (gp_ct (fun k => gm_hour M 8 k = 0 ∧ gm_hour M 7 k = 0) k))), (20, .int (nI k))]) G dL_law_779 (by decide) rfl ?_
        refine gk_iload G dL_law_781 15 rfl ?_
        refine gk_iload G dL_law_783 0 rfl ?_
        refine gk_iadd (v := nI ((gp_dif M (gm_hour M) k) + (M 5 k - gm_hour M 5 k))) G dL_law_785 (nI_add (gp_dif M (gm_hour M) k) (M 5 k - gm_hour M 5 k)) ?_
        refine gk_istore (lv' := [(18, .int (nI ((gp_dif M (gm_hour M) k) + (M 5 k - gm_hour M 5 k)))), (21, .int (nI (M 5 k - gm_hour M 5 k))), (0, .ref b), (1, .ref g), (2, .ref a), (3, .int (nI t)), (4, .int x), (5, .int (nI nk)), (6, .int (nI nm)), (7, .ref rI), (10, .ref rL), (11, .ref rA), (12, .ref rO), (9, .int (nI (gm_sum M nk))), (16, .int (nI (M 9 0))), (17, .int (nI (gm_hour M 16 0 - M 16 0))), (19, .int (nI (gp_ct (fun k => gm_hour M 8 k = 0 ∧ gm_hour M 7 k = 0) k))), (20, .int (nI k))]) G dL_law_786 (by decide) rfl ?_
        refine gk_aload_n G dL_law_788 3 rfl ?_
        refine gk_iload G dL_law_789 17 rfl ?_
        refine gq_groundAt_ok (Y := (gw_R cI rO nm fo ++ (gw_R cI rA nk ft ++ (gw_R cI rL nk fl ++ (gw_R cZ rI nk fi))))) G gL_law_X1_groundAt hE.1.1 ⟨(Nat.le_of_ble_eq_true rfl), (Nat.le_of_ble_eq_true rfl)⟩ ⟨by show c0 ≤ 600130; omega, by show s0 ≤ 7301080; omega⟩ k wf2 hr775 (by omega) (Nat.le_of_ble_eq_true rfl) dL_law_791 (fun u791 hr791 => ?_)
        show gk_C p l e room_1 s m ([.ref b] : List Value).toArray below meth c 23 D A Q c0 s0 ((gw_R cI rO nm fo ++ (gw_R cI rA nk ft ++ (gw_R cI rL nk fl ++ (gw_R cZ rI nk fi)))) ++ (gw_X cI cZ g h1 h2 q1 q2 u791 ++ (gp_U cI cJ a v))) [(18, .int (nI ((gp_dif M (gm_hour M) k) + (M 5 k - gm_hour M 5 k)))), (21, .int (nI (M 5 k - gm_hour M 5 k))), (0, .ref b), (1, .ref g), (2, .ref a), (3, .int (nI t)), (4, .int x), (5, .int (nI nk)), (6, .int (nI nm)), (7, .ref rI), (10, .ref rL), (11, .ref rA), (12, .ref rO), (9, .int (nI (gm_sum M nk))), (16, .int (nI (M 9 0))), (17, .int (nI (gm_hour M 16 0 - M 16 0))), (19, .int (nI (gp_ct (fun k => gm_hour M 8 k = 0 ∧ gm_hour M 7 k = 0) k))), (20, .int (nI k))] 794 [.int (gm_e (gm_hour M 8 k))]
        refine gk_if_lt (tgt := 801) G dL_law_794 (by decide) (fun c_794 => ?_) (fun c_794 => ?_)
        · replace c_794 := (gp_e_lt (n := gm_hour M 8 k) (by omega)).mp c_794
          refine gk_iconst (v := nI 0) G dL_law_801 (by decide) ?_
          refine gk_istore (lv' := [(22, .int (nI 0)), (18, .int (nI ((gp_dif M (gm_hour M) k) + (M 5 k - gm_hour M 5 k)))), (21, .int (nI (M 5 k - gm_hour M 5 k))), (0, .ref b), (1, .ref g), (2, .ref a), (3, .int (nI t)), (4, .int x), (5, .int (nI nk)), (6, .int (nI nm)), (7, .ref rI), (10, .ref rL), (11, .ref rA), (12, .ref rO), (9, .int (nI (gm_sum M nk))), (16, .int (nI (M 9 0))), (17, .int (nI (gm_hour M 16 0 - M 16 0))), (19, .int (nI (gp_ct (fun k => gm_hour M 8 k = 0 ∧ gm_hour M 7 k = 0) k))), (20, .int (nI k))]) G dL_law_802 (by decide) rfl ?_
          refine gk_iload G dL_law_804 17 rfl ?_
          refine gk_iload G dL_law_806 0 rfl ?_
          refine gk_if_ne (tgt := 824) G dL_law_808 (by decide) (fun c_808 => ?_) (fun c_808 => ?_)
          · exact absurd c_808 (by decide)
          · refine gk_aload_n G dL_law_811 4 rfl ?_
            refine gk_iload G dL_law_812 18 rfl ?_
            refine gq_stoneOf_ok (Y := (gw_R cI rO nm fo ++ (gw_R cI rA nk ft ++ (gw_R cI rL nk fl ++ (gw_R cZ rI nk fi))))) G gL_law_X1_stoneOf hE.1.1 ⟨(Nat.le_of_ble_eq_true rfl), (Nat.le_of_ble_eq_true rfl)⟩ ⟨by show c0 ≤ 600130; omega, by show s0 ≤ 7301080; omega⟩ k wf2 hr791 (by omega) (Nat.le_of_ble_eq_true rfl) dL_law_814 (fun u814 hr814 => ?_)
            show gk_C p l e room_1 s m ([.ref b] : List Value).toArray below meth c 23 D A Q c0 s0 ((gw_R cI rO nm fo ++ (gw_R cI rA nk ft ++ (gw_R cI rL nk fl ++ (gw_R cZ rI nk fi)))) ++ (gw_X cI cZ g h1 h2 q1 q2 u814 ++ (gp_U cI cJ a v))) [(22, .int (nI 0)), (18, .int (nI ((gp_dif M (gm_hour M) k) + (M 5 k - gm_hour M 5 k)))), (21, .int (nI (M 5 k - gm_hour M 5 k))), (0, .ref b), (1, .ref g), (2, .ref a), (3, .int (nI t)), (4, .int x), (5, .int (nI nk)), (6, .int (nI nm)), (7, .ref rI), (10, .ref rL), (11, .ref rA), (12, .ref rO), (9, .int (nI (gm_sum M nk))), (16, .int (nI (M 9 0))), (17, .int (nI (gm_hour M 16 0 - M 16 0))), (19, .int (nI (gp_ct (fun k => gm_hour M 8 k = 0 ∧ gm_hour M 7 k = 0) k))), (20, .int (nI k))] 817 [.int (gm_e (gm_hour M 7 k)), .int (nI (gp_ct (fun k => gm_hour M 8 k = 0 ∧ gm_hour M 7 k = 0) k))]
            refine gk_if_ge (tgt := 824) G dL_law_817 (by decide) (fun c_817 => ?_) (fun c_817 => ?_)
            · replace c_817 := (gp_e_ge (n := gm_hour M 7 k) (by omega)).mp c_817
              refine gk_iconst (v := nI 0) G dL_law_824 (by decide) ?_
              refine gk_iadd (v := nI ((gp_ct (fun k => gm_hour M 8 k = 0 ∧ gm_hour M 7 k = 0) k) + 0)) G dL_law_825 (nI_add (gp_ct (fun k => gm_hour M 8 k = 0 ∧ gm_hour M 7 k = 0) k) 0) ?_
              refine gk_istore (lv' := [(19, .int (nI ((gp_ct (fun k => gm_hour M 8 k = 0 ∧ gm_hour M 7 k = 0) k) + 0))), (22, .int (nI 0)), (18, .int (nI ((gp_dif M (gm_hour M) k) + (M 5 k - gm_hour M 5 k)))), (21, .int (nI (M 5 k - gm_hour M 5 k))), (0, .ref b), (1, .ref g), (2, .ref a), (3, .int (nI t)), (4, .int x), (5, .int (nI nk)), (6, .int (nI nm)), (7, .ref rI), (10, .ref rL), (11, .ref rA), (12, .ref rO), (9, .int (nI (gm_sum M nk))), (16, .int (nI (M 9 0))), (17, .int (nI (gm_hour M 16 0 - M 16 0))), (20, .int (nI k))]) G dL_law_826 (by decide) rfl ?_
              refine gk_iload G dL_law_828 3 rfl ?_
              refine gk_if_lt (tgt := 906) G dL_law_830 (by decide) (fun c_830 => ?_) (fun c_830 => ?_)
              · replace c_830 := (nI_ltI (a := M 5 k - gm_hour M 5 k) (b := 0) (by omega) (by omega)).mp c_830
                omega
              · replace c_830 := (not_congr (nI_ltI (a := M 5 k - gm_hour M 5 k) (b := 0) (by omega) (by omega))).mp c_830
                refine gk_iload G dL_law_833 3 rfl ?_
                refine gk_bipush (v := nI 9) G dL_law_835 (by decide) ?_
                refine gk_icmp_gt (tgt := 906) G dL_law_837 (by decide) (fun c_837 => ?_) (fun c_837 => ?_)
                · replace c_837 := (nI_ltI (a := 9) (b := M 5 k - gm_hour M 5 k) (by omega) (by omega)).mp c_837
                  omega
                · replace c_837 := (not_congr (nI_ltI (a := 9) (b := M 5 k - gm_hour M 5 k) (by omega) (by omega))).mp c_837
                  refine gk_aload G dL_law_840 13 rfl ?_
                  refine gk_iload G dL_law_842 18 rfl ?_
                  refine gk_iald (v := gm_e (M 8 k)) G (q0 := 1) (t0 := 0) rfl rfl k rfl (by omega) (by omega) (hft k (by omega)) dL_law_844 ?_
                  refine gk_if_lt (tgt := 862) G dL_law_845 (by decide) (fun c_845 => ?_) (fun c_845 => ?_)
                  · replace c_845 := (gp_e_lt (n := M 8 k) (by omega)).mp c_845
                    refine gk_aload G dL_law_862 13 rfl ?_
                    refine gk_iload G dL_law_864 18 rfl ?_
                    refine gk_iald (v := gm_e (M 8 k)) G (q0 := 1) (t0 := 0) rfl rfl k rfl (by omega) (by omega) (hft k (by omega)) dL_law_866 ?_
                    refine gk_if_ge (tgt := 888) G dL_law_867 (by decide) (fun c_867 => ?_) (fun c_867 => ?_)
                    · replace c_867 := (gp_e_ge (n := M 8 k) (by omega)).mp c_867
                      refine gk_iload G dL_law_888 1 rfl ?_
                      refine gk_if_eq (tgt := 908) G dL_law_890 (by decide) (fun c_890 => ?_) (fun c_890 => ?_)
                      · refine gk_iinc (j := 18) (v := nI (k + 1)) (lv' := [(20, .int (nI (k + 1))), (19, .int (nI ((gp_ct (fun k => gm_hour M 8 k = 0 ∧ gm_hour M 7 k = 0) k) + 0))), (22, .int (nI 0)), (18, .int (nI ((gp_dif M (gm_hour M) k) + (M 5 k - gm_hour M 5 k)))), (21, .int (nI (M 5 k - gm_hour M 5 k))), (0, .ref b), (1, .ref g), (2, .ref a), (3, .int (nI t)), (4, .int x), (5, .int (nI nk)), (6, .int (nI nm)), (7, .ref rI), (10, .ref rL), (11, .ref rA), (12, .ref rO), (9, .int (nI (gm_sum M nk))), (16, .int (nI (M 9 0))), (17, .int (nI (gm_hour M 16 0 - M 16 0)))]) G dL_law_908 rfl (nI_add k 1) (by decide) rfl ?_
                        refine gk_goto (tgt := 760) G dL_law_911 (by decide) ?_
                        have e19 : gp_ct (fun k => gm_hour M 8 k = 0 ∧ gm_hour M 7 k = 0) (k + 1) = (gp_ct (fun k => gm_hour M 8 k = 0 ∧ gm_hour M 7 k = 0) k) + 0 := by
                          show gp_ct (fun k => gm_hour M 8 k = 0 ∧ gm_hour M 7 k = 0) k + (if gm_hour M 8 k = 0 ∧ gm_hour M 7 k = 0 then 1 else 0) = _
                          first
                          | (rw [if_pos ⟨by omega, by omega⟩]; done)
                          | (rw [if_neg (fun q9 => by have := q9.1; have := q9.2; omega)]; done)
                        have t9 := ih (k + 1) u814 (by omega) (by omega) hr814
                        rw [e19] at t9
                        exact gk_lsub (lv' := [(0, .ref b), (1, .ref g), (2, .ref a), (3, .int (nI t)), (4, .int x), (5, .int (nI nk)), (6, .int (nI nm)), (7, .ref rI), (10, .ref rL), (11, .ref rA), (12, .ref rO), (9, .int (nI (gm_sum M nk))), (16, .int (nI (M 9 0))), (17, .int (nI (gm_hour M 16 0 - M 16 0))), (18, .int (nI (gp_dif M (gm_hour M) k + (M 5 k - gm_hour M 5 k)))), (19, .int (nI ((gp_ct (fun k => gm_hour M 8 k = 0 ∧ gm_hour M 7 k = 0) k) + 0))), (20, .int (nI (k + 1)))]) [5,6,7,8,9,10,11,12,13,14,15,16,17,18,3,1,0] rfl t9
                      · exact absurd c_890 (by decide)
                    · replace c_867 := (not_congr (gp_e_ge (n := M 8 k) (by omega))).mp c_867
                      refine gk_iload G dL_law_870 1 rfl ?_
                      refine gk_if_eq (tgt := 888) G dL_law_872 (by decide) (fun c_872 => ?_) (fun c_872 => ?_)
                      · refine gk_iload G dL_law_888 1 rfl ?_
                        refine gk_if_eq (tgt := 908) G dL_law_890 (by decide) (fun c_890 => ?_) (fun c_890 => ?_)
                        · refine gk_iinc (j := 18) (v := nI (k + 1)) (lv' := [(20, .int (nI (k + 1))), (19, .int (nI ((gp_ct (fun k => gm_hour M 8 k = 0 ∧ gm_hour M 7 k = 0) k) + 0))), (22, .int (nI 0)), (18, .int (nI ((gp_dif M (gm_hour M) k) + (M 5 k - gm_hour M 5 k)))), (21, .int (nI (M 5 k - gm_hour M 5 k))), (0, .ref b), (1, .ref g), (2, .ref a), (3, .int (nI t)), (4, .int x), (5, .int (nI nk)), (6, .int (nI nm)), (7, .ref rI), (10, .ref rL), (11, .ref rA), (12, .ref rO), (9, .int (nI (gm_sum M nk))), (16, .int (nI (M 9 0))), (17, .int (nI (gm_hour M 16 0 - M 16 0)))]) G dL_law_908 rfl (nI_add k 1) (by decide) rfl ?_
                          refine gk_goto (tgt := 760) G dL_law_911 (by decide) ?_
                          have e19 : gp_ct (fun k => gm_hour M 8 k = 0 ∧ gm_hour M 7 k = 0) (k + 1) = (gp_ct (fun k => gm_hour M 8 k = 0 ∧ gm_hour M 7 k = 0) k) + 0 := by
                            show gp_ct (fun k => gm_hour M 8 k = 0 ∧ gm_hour M 7 k = 0) k + (if gm_hour M 8 k = 0 ∧ gm_hour M 7 k = 0 then 1 else 0) = _
                            first
                            | (rw [if_pos ⟨by omega, by omega⟩]; done)
                            | (rw [if_neg (fun q9 => by have := q9.1; have := q9.2; omega)]; done)
                          have t9 := ih (k + 1) u814 (by omega) (by omega) hr814
                          rw [e19] at t9
                          exact gk_lsub (lv' := [(0, .ref b), (1, .ref g), (2, .ref a), (3, .int (nI t)), (4, .int x), (5, .int (nI nk)), (6, .int (nI nm)), (7, .ref rI), (10, .ref rL), (11, .ref rA), (12, .ref rO), (9, .int (nI (gm_sum M nk))), (16, .int (nI (M 9 0))), (17, .int (nI (gm_hour M 16 0 - M 16 0))), (18, .int (nI (gp_dif M (gm_hour M) k + (M 5 k - gm_hour M 5 k)))), (19, .int (nI ((gp_ct (fun k => gm_hour M 8 k = 0 ∧ gm_hour M 7 k = 0) k) + 0))), (20, .int (nI (k + 1)))]) [5,6,7,8,9,10,11,12,13,14,15,16,17,18,3,1,0] rfl t9
                        · exact absurd c_890 (by decide)
                      · exact absurd c_872 (by decide)
                  · replace c_845 := (not_congr (gp_e_lt (n := M 8 k) (by omega))).mp c_845
                    refine gk_aload_n G dL_law_848 5 rfl ?_
                    refine gk_iload G dL_law_849 18 rfl ?_
                    refine gq_groundAt_ok (Y := (gw_R cI rO nm fo ++ (gw_R cI rA nk ft ++ (gw_R cI rL nk fl ++ (gw_R cZ rI nk fi))))) G gL_law_X1_groundAt hE.1.1 ⟨(Nat.le_of_ble_eq_true rfl), (Nat.le_of_ble_eq_true rfl)⟩ ⟨by show c0 ≤ 600130; omega, by show s0 ≤ 7301080; omega⟩ k wf2 hr814 (by omega) (Nat.le_of_ble_eq_true rfl) dL_law_851 (fun u851 hr851 => ?_)
                    show gk_C p l e room_1 s m ([.ref b] : List Value).toArray below meth c 23 D A Q c0 s0 ((gw_R cI rO nm fo ++ (gw_R cI rA nk ft ++ (gw_R cI rL nk fl ++ (gw_R cZ rI nk fi)))) ++ (gw_X cI cZ g h1 h2 q1 q2 u851 ++ (gp_U cI cJ a v))) [(19, .int (nI ((gp_ct (fun k => gm_hour M 8 k = 0 ∧ gm_hour M 7 k = 0) k) + 0))), (22, .int (nI 0)), (18, .int (nI ((gp_dif M (gm_hour M) k) + (M 5 k - gm_hour M 5 k)))), (21, .int (nI (M 5 k - gm_hour M 5 k))), (0, .ref b), (1, .ref g), (2, .ref a), (3, .int (nI t)), (4, .int x), (5, .int (nI nk)), (6, .int (nI nm)), (7, .ref rI), (10, .ref rL), (11, .ref rA), (12, .ref rO), (9, .int (nI (gm_sum M nk))), (16, .int (nI (M 9 0))), (17, .int (nI (gm_hour M 16 0 - M 16 0))), (20, .int (nI k))] 854 [.int (gm_e (gm_hour M 8 k))]
                    refine gk_aload G dL_law_854 13 rfl ?_
                    refine gk_iload G dL_law_856 18 rfl ?_
                    refine gk_iald (v := gm_e (M 8 k)) G (q0 := 1) (t0 := 0) rfl rfl k rfl (by omega) (by omega) (hft k (by omega)) dL_law_858 ?_
                    refine gk_icmp_ne (tgt := 906) G dL_law_859 (by decide) (fun c_859 => ?_) (fun c_859 => ?_)
                    · exact absurd (by rw [h8s.1 (by omega)]) c_859
                    · refine gk_aload G dL_law_862 13 rfl ?_
                      refine gk_iload G dL_law_864 18 rfl ?_
                      refine gk_iald (v := gm_e (M 8 k)) G (q0 := 1) (t0 := 0) rfl rfl k rfl (by omega) (by omega) (hft k (by omega)) dL_law_866 ?_
                      refine gk_if_ge (tgt := 888) G dL_law_867 (by decide) (fun c_867 => ?_) (fun c_867 => ?_)
                      · replace c_867 := (gp_e_ge (n := M 8 k) (by omega)).mp c_867
                        refine gk_iload G dL_law_888 1 rfl ?_
                        refine gk_if_eq (tgt := 908) G dL_law_890 (by decide) (fun c_890 => ?_) (fun c_890 => ?_)
                        · refine gk_iinc (j := 18) (v := nI (k + 1)) (lv' := [(20, .int (nI (k + 1))), (19, .int (nI ((gp_ct (fun k => gm_hour M 8 k = 0 ∧ gm_hour M 7 k = 0) k) + 0))), (22, .int (nI 0)), (18, .int (nI ((gp_dif M (gm_hour M) k) + (M 5 k - gm_hour M 5 k)))), (21, .int (nI (M 5 k - gm_hour M 5 k))), (0, .ref b), (1, .ref g), (2, .ref a), (3, .int (nI t)), (4, .int x), (5, .int (nI nk)), (6, .int (nI nm)), (7, .ref rI), (10, .ref rL), (11, .ref rA), (12, .ref rO), (9, .int (nI (gm_sum M nk))), (16, .int (nI (M 9 0))), (17, .int (nI (gm_hour M 16 0 - M 16 0)))]) G dL_law_908 rfl (nI_add k 1) (by decide) rfl ?_
                          refine gk_goto (tgt := 760) G dL_law_911 (by decide) ?_
                          have e19 : gp_ct (fun k => gm_hour M 8 k = 0 ∧ gm_hour M 7 k = 0) (k + 1) = (gp_ct (fun k => gm_hour M 8 k = 0 ∧ gm_hour M 7 k = 0) k) + 0 := by
                            show gp_ct (fun k => gm_hour M 8 k = 0 ∧ gm_hour M 7 k = 0) k + (if gm_hour M 8 k = 0 ∧ gm_hour M 7 k = 0 then 1 else 0) = _
                            first
                            | (rw [if_pos ⟨by omega, by omega⟩]; done)
                            | (rw [if_neg (fun q9 => by have := q9.1; have := q9.2; omega)]; done)
                          have t9 := ih (k + 1) u851 (by omega) (by omega) hr851
                          rw [e19] at t9
                          exact gk_lsub (lv' := [(0, .ref b), (1, .ref g), (2, .ref a), (3, .int (nI t)), (4, .int x), (5, .int (nI nk)), (6, .int (nI nm)), (7, .ref rI), (10, .ref rL), (11, .ref rA), (12, .ref rO), (9, .int (nI (gm_sum M nk))), (16, .int (nI (M 9 0))), (17, .int (nI (gm_hour M 16 0 - M 16 0))), (18, .int (nI (gp_dif M (gm_hour M) k + (M 5 k - gm_hour M 5 k)))), (19, .int (nI ((gp_ct (fun k => gm_hour M 8 k = 0 ∧ gm_hour M 7 k = 0) k) + 0))), (20, .int (nI (k + 1)))]) [5,6,7,8,9,10,11,12,13,14,15,16,17,18,3,1,0] rfl t9
                        · exact absurd c_890 (by decide)
                      · replace c_867 := (not_congr (gp_e_ge (n := M 8 k) (by omega))).mp c_867
                        refine gk_iload G dL_law_870 1 rfl ?_
                        refine gk_if_eq (tgt := 888) G dL_law_872 (by decide) (fun c_872 => ?_) (fun c_872 => ?_)
                        · refine gk_iload G dL_law_888 1 rfl ?_
                          refine gk_if_eq (tgt := 908) G dL_law_890 (by decide) (fun c_890 => ?_) (fun c_890 => ?_)
                          · refine gk_iinc (j := 18) (v := nI (k + 1)) (lv' := [(20, .int (nI (k + 1))), (19, .int (nI ((gp_ct (fun k => gm_hour M 8 k = 0 ∧ gm_hour M 7 k = 0) k) + 0))), (22, .int (nI 0)), (18, .int (nI ((gp_dif M (gm_hour M) k) + (M 5 k - gm_hour M 5 k)))), (21, .int (nI (M 5 k - gm_hour M 5 k))), (0, .ref b), (1, .ref g), (2, .ref a), (3, .int (nI t)), (4, .int x), (5, .int (nI nk)), (6, .int (nI nm)), (7, .ref rI), (10, .ref rL), (11, .ref rA), (12, .ref rO), (9, .int (nI (gm_sum M nk))), (16, .int (nI (M 9 0))), (17, .int (nI (gm_hour M 16 0 - M 16 0)))]) G dL_law_908 rfl (nI_add k 1) (by decide) rfl ?_
                            refine gk_goto (tgt := 760) G dL_law_911 (by decide) ?_
                            have e19 : gp_ct (fun k => gm_hour M 8 k = 0 ∧ gm_hour M 7 k = 0) (k + 1) = (gp_ct (fun k => gm_hour M 8 k = 0 ∧ gm_hour M 7 k = 0) k) + 0 := by
                              show gp_ct (fun k => gm_hour M 8 k = 0 ∧ gm_hour M 7 k = 0) k + (if gm_hour M 8 k = 0 ∧ gm_hour M 7 k = 0 then 1 else 0) = _
                              first
                              | (rw [if_pos ⟨by omega, by omega⟩]; done)
                              | (rw [if_neg (fun q9 => by have := q9.1; have := q9.2; omega)]; done)
                            have t9 := ih (k + 1) u851 (by omega) (by omega) hr851
                            rw [e19] at t9
                            exact gk_lsub (lv' := [(0, .ref b), (1, .ref g), (2, .ref a), (3, .int (nI t)), (4, .int x), (5, .int (nI nk)), (6, .int (nI nm)), (7, .ref rI), (10, .ref rL), (11, .ref rA), (12, .ref rO), (9, .int (nI (gm_sum M nk))), (16, .int (nI (M 9 0))), (17, .int (nI (gm_hour M 16 0 - M 16 0))), (18, .int (nI (gp_dif M (gm_hour M) k + (M 5 k - gm_hour M 5 k)))), (19, .int (nI ((gp_ct (fun k => gm_hour M 8 k = 0 ∧ gm_hour M 7 k = 0) k) + 0))), (20, .int (nI (k + 1)))]) [5,6,7,8,9,10,11,12,13,14,15,16,17,18,3,1,0] rfl t9
                          · exact absurd c_890 (by decide)
                        · exact absurd c_872 (by decide)
            · replace c_817 := (not_congr (gp_e_ge (n := gm_hour M 7 k) (by omega))).mp c_817
              refine gk_iconst (v := nI 1) G dL_law_820 (by decide) ?_
              refine gk_goto (tgt := 825) G dL_law_821 (by decide) ?_
              refine gk_iadd (v := nI ((gp_ct (fun k => gm_hour M 8 k = 0 ∧ gm_hour M 7 k = 0) k) + 1)) G dL_law_825 (nI_add (gp_ct (fun k => gm_hour M 8 k = 0 ∧ gm_hour M 7 k = 0) k) 1) ?_
              refine gk_istore (lv' := [(19, .int (nI ((gp_ct (fun k => gm_hour M 8 k = 0 ∧ gm_hour M 7 k = 0) k) + 1))), (22, .int (nI 0)), (18, .int (nI ((gp_dif M (gm_hour M) k) + (M 5 k - gm_hour M 5 k)))), (21, .int (nI (M 5 k - gm_hour M 5 k))), (0, .ref b), (1, .ref g), (2, .ref a), (3, .int (nI t)), (4, .int x), (5, .int (nI nk)), (6, .int (nI nm)), (7, .ref rI), (10, .ref rL), (11, .ref rA), (12, .ref rO), (9, .int (nI (gm_sum M nk))), (16, .int (nI (M 9 0))), (17, .int (nI (gm_hour M 16 0 - M 16 0))), (20, .int (nI k))]) G dL_law_826 (by decide) rfl ?_
              refine gk_iload G dL_law_828 3 rfl ?_
              refine gk_if_lt (tgt := 906) G dL_law_830 (by decide) (fun c_830 => ?_) (fun c_830 => ?_)
              · replace c_830 := (nI_ltI (a := M 5 k - gm_hour M 5 k) (b := 0) (by omega) (by omega)).mp c_830
                omega
              · replace c_830 := (not_congr (nI_ltI (a := M 5 k - gm_hour M 5 k) (b := 0) (by omega) (by omega))).mp c_830
                refine gk_iload G dL_law_833 3 rfl ?_
                refine gk_bipush (v := nI 9) G dL_law_835 (by decide) ?_
                refine gk_icmp_gt (tgt := 906) G dL_law_837 (by decide) (fun c_837 => ?_) (fun c_837 => ?_)
                · replace c_837 := (nI_ltI (a := 9) (b := M 5 k - gm_hour M 5 k) (by omega) (by omega)).mp c_837
                  omega
                · replace c_837 := (not_congr (nI_ltI (a := 9) (b := M 5 k - gm_hour M 5 k) (by omega) (by omega))).mp c_837
                  refine gk_aload G dL_law_840 13 rfl ?_
                  refine gk_iload G dL_law_842 18 rfl ?_
                  refine gk_iald (v := gm_e (M 8 k)) G (q0 := 1) (t0 := 0) rfl rfl k rfl (by omega) (by omega) (hft k (by omega)) dL_law_844 ?_
                  refine gk_if_lt (tgt := 862) G dL_law_845 (by decide) (fun c_845 => ?_) (fun c_845 => ?_)
                  · replace c_845 := (gp_e_lt (n := M 8 k) (by omega)).mp c_845
                    refine gk_aload G dL_law_862 13 rfl ?_
                    refine gk_iload G dL_law_864 18 rfl ?_
                    refine gk_iald (v := gm_e (M 8 k)) G (q0 := 1) (t0 := 0) rfl rfl k rfl (by omega) (by omega) (hft k (by omega)) dL_law_866 ?_
                    refine gk_if_ge (tgt := 888) G dL_law_867 (by decide) (fun c_867 => ?_) (fun c_867 => ?_)
                    · replace c_867 := (gp_e_ge (n := M 8 k) (by omega)).mp c_867
                      refine gk_iload G dL_law_888 1 rfl ?_
                      refine gk_if_eq (tgt := 908) G dL_law_890 (by decide) (fun c_890 => ?_) (fun c_890 => ?_)
                      · refine gk_iinc (j := 18) (v := nI (k + 1)) (lv' := [(20, .int (nI (k + 1))), (19, .int (nI ((gp_ct (fun k => gm_hour M 8 k = 0 ∧ gm_hour M 7 k = 0) k) + 1))), (22, .int (nI 0)), (18, .int (nI ((gp_dif M (gm_hour M) k) + (M 5 k - gm_hour M 5 k)))), (21, .int (nI (M 5 k - gm_hour M 5 k))), (0, .ref b), (1, .ref g), (2, .ref a), (3, .int (nI t)), (4, .int x), (5, .int (nI nk)), (6, .int (nI nm)), (7, .ref rI), (10, .ref rL), (11, .ref rA), (12, .ref rO), (9, .int (nI (gm_sum M nk))), (16, .int (nI (M 9 0))), (17, .int (nI (gm_hour M 16 0 - M 16 0)))]) G dL_law_908 rfl (nI_add k 1) (by decide) rfl ?_
                        refine gk_goto (tgt := 760) G dL_law_911 (by decide) ?_
                        have e19 : gp_ct (fun k => gm_hour M 8 k = 0 ∧ gm_hour M 7 k = 0) (k + 1) = (gp_ct (fun k => gm_hour M 8 k = 0 ∧ gm_hour M 7 k = 0) k) + 1 := by
                          show gp_ct (fun k => gm_hour M 8 k = 0 ∧ gm_hour M 7 k = 0) k + (if gm_hour M 8 k = 0 ∧ gm_hour M 7 k = 0 then 1 else 0) = _
                          first
                          | (rw [if_pos ⟨by omega, by omega⟩]; done)
                          | (rw [if_neg (fun q9 => by have := q9.1; have := q9.2; omega)]; done)
                        have t9 := ih (k + 1) u814 (by omega) (by omega) hr814
                        rw [e19] at t9
                        exact gk_lsub (lv' := [(0, .ref b), (1, .ref g), (2, .ref a), (3, .int (nI t)), (4, .int x), (5, .int (nI nk)), (6, .int (nI nm)), (7, .ref rI), (10, .ref rL), (11, .ref rA), (12, .ref rO), (9, .int (nI (gm_sum M nk))), (16, .int (nI (M 9 0))), (17, .int (nI (gm_hour M 16 0 - M 16 0))), (18, .int (nI (gp_dif M (gm_hour M) k + (M 5 k - gm_hour M 5 k)))), (19, .int (nI ((gp_ct (fun k => gm_hour M 8 k = 0 ∧ gm_hour M 7 k = 0) k) + 1))), (20, .int (nI (k + 1)))]) [5,6,7,8,9,10,11,12,13,14,15,16,17,18,3,1,0] rfl t9
                      · exact absurd c_890 (by decide)
                    · replace c_867 := (not_congr (gp_e_ge (n := M 8 k) (by omega))).mp c_867
                      refine gk_iload G dL_law_870 1 rfl ?_
                      refine gk_if_eq (tgt := 888) G dL_law_872 (by decide) (fun c_872 => ?_) (fun c_872 => ?_)
                      · refine gk_iload G dL_law_888 1 rfl ?_
                        refine gk_if_eq (tgt := 908) G dL_law_890 (by decide) (fun c_890 => ?_) (fun c_890 => ?_)
                        · refine gk_iinc (j := 18) (v := nI (k + 1)) (lv' := [(20, .int (nI (k + 1))), (19, .int (nI ((gp_ct (fun k => gm_hour M 8 k = 0 ∧ gm_hour M 7 k = 0) k) + 1))), (22, .int (nI 0)), (18, .int (nI ((gp_dif M (gm_hour M) k) + (M 5 k - gm_hour M 5 k)))), (21, .int (nI (M 5 k - gm_hour M 5 k))), (0, .ref b), (1, .ref g), (2, .ref a), (3, .int (nI t)), (4, .int x), (5, .int (nI nk)), (6, .int (nI nm)), (7, .ref rI), (10, .ref rL), (11, .ref rA), (12, .ref rO), (9, .int (nI (gm_sum M nk))), (16, .int (nI (M 9 0))), (17, .int (nI (gm_hour M 16 0 - M 16 0)))]) G dL_law_908 rfl (nI_add k 1) (by decide) rfl ?_
                          refine gk_goto (tgt := 760) G dL_law_911 (by decide) ?_
                          have e19 : gp_ct (fun k => gm_hour M 8 k = 0 ∧ gm_hour M 7 k = 0) (k + 1) = (gp_ct (fun k => gm_hour M 8 k = 0 ∧ gm_hour M 7 k = 0) k) + 1 := by
                            show gp_ct (fun k => gm_hour M 8 k = 0 ∧ gm_hour M 7 k = 0) k + (if gm_hour M 8 k = 0 ∧ gm_hour M 7 k = 0 then 1 else 0) = _
                            first
                            | (rw [if_pos ⟨by omega, by omega⟩]; done)
                            | (rw [if_neg (fun q9 => by have := q9.1; have := q9.2; omega)]; done)
                          have t9 := ih (k + 1) u814 (by omega) (by omega) hr814
                          rw [e19] at t9
                          exact gk_lsub (lv' := [(0, .ref b), (1, .ref g), (2, .ref a), (3, .int (nI t)), (4, .int x), (5, .int (nI nk)), (6, .int (nI nm)), (7, .ref rI), (10, .ref rL), (11, .ref rA), (12, .ref rO), (9, .int (nI (gm_sum M nk))), (16, .int (nI (M 9 0))), (17, .int (nI (gm_hour M 16 0 - M 16 0))), (18, .int (nI (gp_dif M (gm_hour M) k + (M 5 k - gm_hour M 5 k)))), (19, .int (nI ((gp_ct (fun k => gm_hour M 8 k = 0 ∧ gm_hour M 7 k = 0) k) + 1))), (20, .int (nI (k + 1)))]) [5,6,7,8,9,10,11,12,13,14,15,16,17,18,3,1,0] rfl t9
                        · exact absurd c_890 (by decide)
                      · exact absurd c_872 (by decide)
                  · replace c_845 := (not_congr (gp_e_lt (n := M 8 k) (by omega))).mp c_845
                    refine gk_aload_n G dL_law_848 5 rfl ?_
                    refine gk_iload G dL_law_849 18 rfl ?_
                    refine gq_groundAt_ok (Y := (gw_R cI rO nm fo ++ (gw_R cI rA nk ft ++ (gw_R cI rL nk fl ++ (gw_R cZ rI nk fi))))) G gL_law_X1_groundAt hE.1.1 ⟨(Nat.le_of_ble_eq_true rfl), (Nat.le_of_ble_eq_true rfl)⟩ ⟨by show c0 ≤ 600130; omega, by show s0 ≤ 7301080; omega⟩ k wf2 hr814 (by omega) (Nat.le_of_ble_eq_true rfl) dL_law_851 (fun u851 hr851 => ?_)
                    show gk_C p l e room_1 s m ([.ref b] : List Value).toArray below meth c 23 D A Q c0 s0 ((gw_R cI rO nm fo ++ (gw_R cI rA nk ft ++ (gw_R cI rL nk fl ++ (gw_R cZ rI nk fi)))) ++ (gw_X cI cZ g h1 h2 q1 q2 u851 ++ (gp_U cI cJ a v))) [(19, .int (nI ((gp_ct (fun k => gm_hour M 8 k = 0 ∧ gm_hour M 7 k = 0) k) + 1))), (22, .int (nI 0)), (18, .int (nI ((gp_dif M (gm_hour M) k) + (M 5 k - gm_hour M 5 k)))), (21, .int (nI (M 5 k - gm_hour M 5 k))), (0, .ref b), (1, .ref g), (2, .ref a), (3, .int (nI t)), (4, .int x), (5, .int (nI nk)), (6, .int (nI nm)), (7, .ref rI), (10, .ref rL), (11, .ref rA), (12, .ref rO), (9, .int (nI (gm_sum M nk))), (16, .int (nI (M 9 0))), (17, .int (nI (gm_hour M 16 0 - M 16 0))), (20, .int (nI k))] 854 [.int (gm_e (gm_hour M 8 k))]
                    refine gk_aload G dL_law_854 13 rfl ?_
                    refine gk_iload G dL_law_856 18 rfl ?_
                    refine gk_iald (v := gm_e (M 8 k)) G (q0 := 1) (t0 := 0) rfl rfl k rfl (by omega) (by omega) (hft k (by omega)) dL_law_858 ?_
                    refine gk_icmp_ne (tgt := 906) G dL_law_859 (by decide) (fun c_859 => ?_) (fun c_859 => ?_)
                    · exact absurd (by rw [h8s.1 (by omega)]) c_859
                    · refine gk_aload G dL_law_862 13 rfl ?_
                      refine gk_iload G dL_law_864 18 rfl ?_
                      refine gk_iald (v := gm_e (M 8 k)) G (q0 := 1) (t0 := 0) rfl rfl k rfl (by omega) (by omega) (hft k (by omega)) dL_law_866 ?_
                      refine gk_if_ge (tgt := 888) G dL_law_867 (by decide) (fun c_867 => ?_) (fun c_867 => ?_)
                      · replace c_867 := (gp_e_ge (n := M 8 k) (by omega)).mp c_867
                        refine gk_iload G dL_law_888 1 rfl ?_
                        refine gk_if_eq (tgt := 908) G dL_law_890 (by decide) (fun c_890 => ?_) (fun c_890 => ?_)
                        · refine gk_iinc (j := 18) (v := nI (k + 1)) (lv' := [(20, .int (nI (k + 1))), (19, .int (nI ((gp_ct (fun k => gm_hour M 8 k = 0 ∧ gm_hour M 7 k = 0) k) + 1))), (22, .int (nI 0)), (18, .int (nI ((gp_dif M (gm_hour M) k) + (M 5 k - gm_hour M 5 k)))), (21, .int (nI (M 5 k - gm_hour M 5 k))), (0, .ref b), (1, .ref g), (2, .ref a), (3, .int (nI t)), (4, .int x), (5, .int (nI nk)), (6, .int (nI nm)), (7, .ref rI), (10, .ref rL), (11, .ref rA), (12, .ref rO), (9, .int (nI (gm_sum M nk))), (16, .int (nI (M 9 0))), (17, .int (nI (gm_hour M 16 0 - M 16 0)))]) G dL_law_908 rfl (nI_add k 1) (by decide) rfl ?_
                          refine gk_goto (tgt := 760) G dL_law_911 (by decide) ?_
                          have e19 : gp_ct (fun k => gm_hour M 8 k = 0 ∧ gm_hour M 7 k = 0) (k + 1) = (gp_ct (fun k => gm_hour M 8 k = 0 ∧ gm_hour M 7 k = 0) k) + 1 := by
                            show gp_ct (fun k => gm_hour M 8 k = 0 ∧ gm_hour M 7 k = 0) k + (if gm_hour M 8 k = 0 ∧ gm_hour M 7 k = 0 then 1 else 0) = _
                            first
                            | (rw [if_pos ⟨by omega, by omega⟩]; done)
                            | (rw [if_neg (fun q9 => by have := q9.1; have := q9.2; omega)]; done)
                          have t9 := ih (k + 1) u851 (by omega) (by omega) hr851
                          rw [e19] at t9
                          exact gk_lsub (lv' := [(0, .ref b), (1, .ref g), (2, .ref a), (3, .int (nI t)), (4, .int x), (5, .int (nI nk)), (6, .int (nI nm)), (7, .ref rI), (10, .ref rL), (11, .ref rA), (12, .ref rO), (9, .int (nI (gm_sum M nk))), (16, .int (nI (M 9 0))), (17, .int (nI (gm_hour M 16 0 - M 16 0))), (18, .int (nI (gp_dif M (gm_hour M) k + (M 5 k - gm_hour M 5 k)))), (19, .int (nI ((gp_ct (fun k => gm_hour M 8 k = 0 ∧ gm_hour M 7 k = 0) k) + 1))), (20, .int (nI (k + 1)))]) [5,6,7,8,9,10,11,12,13,14,15,16,17,18,3,1,0] rfl t9
                        · exact absurd c_890 (by decide)
                      · replace c_867 := (not_congr (gp_e_ge (n := M 8 k) (by omega))).mp c_867
                        refine gk_iload G dL_law_870 1 rfl ?_
                        refine gk_if_eq (tgt := 888) G dL_law_872 (by decide) (fun c_872 => ?_) (fun c_872 => ?_)
                        · refine gk_iload G dL_law_888 1 rfl ?_
                          refine gk_if_eq (tgt := 908) G dL_law_890 (by decide) (fun c_890 => ?_) (fun c_890 => ?_)
                          · refine gk_iinc (j := 18) (v := nI (k + 1)) (lv' := [(20, .int (nI (k + 1))), (19, .int (nI ((gp_ct (fun k => gm_hour M 8 k = 0 ∧ gm_hour M 7 k = 0) k) + 1))), (22, .int (nI 0)), (18, .int (nI ((gp_dif M (gm_hour M) k) + (M 5 k - gm_hour M 5 k)))), (21, .int (nI (M 5 k - gm_hour M 5 k))), (0, .ref b), (1, .ref g), (2, .ref a), (3, .int (nI t)), (4, .int x), (5, .int (nI nk)), (6, .int (nI nm)), (7, .ref rI), (10, .ref rL), (11, .ref rA), (12, .ref rO), (9, .int (nI (gm_sum M nk))), (16, .int (nI (M 9 0))), (17, .int (nI (gm_hour M 16 0 - M 16 0)))]) G dL_law_908 rfl (nI_add k 1) (by decide) rfl ?_
                            refine gk_goto (tgt := 760) G dL_law_911 (by decide) ?_
                            have e19 : gp_ct (fun k => gm_hour M 8 k = 0 ∧ gm_hour M 7 k = 0) (k + 1) = (gp_ct (fun k => gm_hour M 8 k = 0 ∧ gm_hour M 7 k = 0) k) + 1 := by
                              show gp_ct (fun k => gm_hour M 8 k = 0 ∧ gm_hour M 7 k = 0) k + (if gm_hour M 8 k = 0 ∧ gm_hour M 7 k = 0 then 1 else 0) = _
                              first
                              | (rw [if_pos ⟨by omega, by omega⟩]; done)
                              | (rw [if_neg (fun q9 => by have := q9.1; have := q9.2; omega)]; done)
                            have t9 := ih (k + 1) u851 (by omega) (by omega) hr851
                            rw [e19] at t9
                            exact gk_lsub (lv' := [(0, .ref b), (1, .ref g), (2, .ref a), (3, .int (nI t)), (4, .int x), (5, .int (nI nk)), (6, .int (nI nm)), (7, .ref rI), (10, .ref rL), (11, .ref rA), (12, .ref rO), (9, .int (nI (gm_sum M nk))), (16, .int (nI (M 9 0))), (17, .int (nI (gm_hour M 16 0 - M 16 0))), (18, .int (nI (gp_dif M (gm_hour M) k + (M 5 k - gm_hour M 5 k)))), (19, .int (nI ((gp_ct (fun k => gm_hour M 8 k = 0 ∧ gm_hour M 7 k = 0) k) + 1))), (20, .int (nI (k + 1)))]) [5,6,7,8,9,10,11,12,13,14,15,16,17,18,3,1,0] rfl t9
                          · exact absurd c_890 (by decide)
                        · exact absurd c_872 (by decide)
        · replace c_794 := (not_congr (gp_e_lt (n := gm_hour M 8 k) (by omega))).mp c_794
          refine gk_iconst (v := nI 1) G dL_law_797 (by decide) ?_
          refine gk_goto (tgt := 802) G dL_law_798 (by decide) ?_
          refine gk_istore (lv' := [(22, .int (nI 1)), (18, .int (nI ((gp_dif M (gm_hour M) k) + (M 5 k - gm_hour M 5 k)))), (21, .int (nI (M 5 k - gm_hour M 5 k))), (0, .ref b), (1, .ref g), (2, .ref a), (3, .int (nI t)), (4, .int x), (5, .int (nI nk)), (6, .int (nI nm)), (7, .ref rI), (10, .ref rL), (11, .ref rA), (12, .ref rO), (9, .int (nI (gm_sum M nk))), (16, .int (nI (M 9 0))), (17, .int (nI (gm_hour M 16 0 - M 16 0))), (19, .int (nI (gp_ct (fun k => gm_hour M 8 k = 0 ∧ gm_hour M 7 k = 0) k))), (20, .int (nI k))]) G dL_law_802 (by decide) rfl ?_
          refine gk_iload G dL_law_804 17 rfl ?_
          refine gk_iload G dL_law_806 0 rfl ?_
          refine gk_if_ne (tgt := 824) G dL_law_808 (by decide) (fun c_808 => ?_) (fun c_808 => ?_)
          · refine gk_iconst (v := nI 0) G dL_law_824 (by decide) ?_
            refine gk_iadd (v := nI ((gp_ct (fun k => gm_hour M 8 k = 0 ∧ gm_hour M 7 k = 0) k) + 0)) G dL_law_825 (nI_add (gp_ct (fun k => gm_hour M 8 k = 0 ∧ gm_hour M 7 k = 0) k) 0) ?_
            refine gk_istore (lv' := [(19, .int (nI ((gp_ct (fun k => gm_hour M 8 k = 0 ∧ gm_hour M 7 k = 0) k) + 0))), (22, .int (nI 1)), (18, .int (nI ((gp_dif M (gm_hour M) k) + (M 5 k - gm_hour M 5 k)))), (21, .int (nI (M 5 k - gm_hour M 5 k))), (0, .ref b), (1, .ref g), (2, .ref a), (3, .int (nI t)), (4, .int x), (5, .int (nI nk)), (6, .int (nI nm)), (7, .ref rI), (10, .ref rL), (11, .ref rA), (12, .ref rO), (9, .int (nI (gm_sum M nk))), (16, .int (nI (M 9 0))), (17, .int (nI (gm_hour M 16 0 - M 16 0))), (20, .int (nI k))]) G dL_law_826 (by decide) rfl ?_
            refine gk_iload G dL_law_828 3 rfl ?_
            refine gk_if_lt (tgt := 906) G dL_law_830 (by decide) (fun c_830 => ?_) (fun c_830 => ?_)
            · replace c_830 := (nI_ltI (a := M 5 k - gm_hour M 5 k) (b := 0) (by omega) (by omega)).mp c_830
              omega
            · replace c_830 := (not_congr (nI_ltI (a := M 5 k - gm_hour M 5 k) (b := 0) (by omega) (by omega))).mp c_830
              refine gk_iload G dL_law_833 3 rfl ?_
              refine gk_bipush (v := nI 9) G dL_law_835 (by decide) ?_
              refine gk_icmp_gt (tgt := 906) G dL_law_837 (by decide) (fun c_837 => ?_) (fun c_837 => ?_)
              · replace c_837 := (nI_ltI (a := 9) (b := M 5 k - gm_hour M 5 k) (by omega) (by omega)).mp c_837
                omega
              · replace c_837 := (not_congr (nI_ltI (a := 9) (b := M 5 k - gm_hour M 5 k) (by omega) (by omega))).mp c_837
                refine gk_aload G dL_law_840 13 rfl ?_
                refine gk_iload G dL_law_842 18 rfl ?_
                refine gk_iald (v := gm_e (M 8 k)) G (q0 := 1) (t0 := 0) rfl rfl k rfl (by omega) (by omega) (hft k (by omega)) dL_law_844 ?_
                refine gk_if_lt (tgt := 862) G dL_law_845 (by decide) (fun c_845 => ?_) (fun c_845 => ?_)
                · replace c_845 := (gp_e_lt (n := M 8 k) (by omega)).mp c_845
                  refine gk_aload G dL_law_862 13 rfl ?_
                  refine gk_iload G dL_law_864 18 rfl ?_
                  refine gk_iald (v := gm_e (M 8 k)) G (q0 := 1) (t0 := 0) rfl rfl k rfl (by omega) (by omega) (hft k (by omega)) dL_law_866 ?_
                  refine gk_if_ge (tgt := 888) G dL_law_867 (by decide) (fun c_867 => ?_) (fun c_867 => ?_)
                  · replace c_867 := (gp_e_ge (n := M 8 k) (by omega)).mp c_867
                    refine gk_iload G dL_law_888 1 rfl ?_
                    refine gk_if_eq (tgt := 908) G dL_law_890 (by decide) (fun c_890 => ?_) (fun c_890 => ?_)
                    · exact absurd c_890 (by decide)
                    · refine gk_aload G dL_law_893 13 rfl ?_
                      refine gk_iload G dL_law_895 18 rfl ?_
                      refine gk_iald (v := gm_e (M 8 k)) G (q0 := 1) (t0 := 0) rfl rfl k rfl (by omega) (by omega) (hft k (by omega)) dL_law_897 ?_
                      refine gk_if_ge (tgt := 908) G dL_law_898 (by decide) (fun c_898 => ?_) (fun c_898 => ?_)
                      · replace c_898 := (gp_e_ge (n := M 8 k) (by omega)).mp c_898
                        refine gk_iinc (j := 18) (v := nI (k + 1)) (lv' := [(20, .int (nI (k + 1))), (19, .int (nI ((gp_ct (fun k => gm_hour M 8 k = 0 ∧ gm_hour M 7 k = 0) k) + 0))), (22, .int (nI 1)), (18, .int (nI ((gp_dif M (gm_hour M) k) + (M 5 k - gm_hour M 5 k)))), (21, .int (nI (M 5 k - gm_hour M 5 k))), (0, .ref b), (1, .ref g), (2, .ref a), (3, .int (nI t)), (4, .int x), (5, .int (nI nk)), (6, .int (nI nm)), (7, .ref rI), (10, .ref rL), (11, .ref rA), (12, .ref rO), (9, .int (nI (gm_sum M nk))), (16, .int (nI (M 9 0))), (17, .int (nI (gm_hour M 16 0 - M 16 0)))]) G dL_law_908 rfl (nI_add k 1) (by decide) rfl ?_
                        refine gk_goto (tgt := 760) G dL_law_911 (by decide) ?_
                        have e19 : gp_ct (fun k => gm_hour M 8 k = 0 ∧ gm_hour M 7 k = 0) (k + 1) = (gp_ct (fun k => gm_hour M 8 k = 0 ∧ gm_hour M 7 k = 0) k) + 0 := by
                          show gp_ct (fun k => gm_hour M 8 k = 0 ∧ gm_hour M 7 k = 0) k + (if gm_hour M 8 k = 0 ∧ gm_hour M 7 k = 0 then 1 else 0) = _
                          first
                          | (rw [if_pos ⟨by omega, by omega⟩]; done)
                          | (rw [if_neg (fun q9 => by have := q9.1; have := q9.2; omega)]; done)
                        have t9 := ih (k + 1) u791 (by omega) (by omega) hr791
                        rw [e19] at t9
                        exact gk_lsub (lv' := [(0, .ref b), (1, .ref g), (2, .ref a), (3, .int (nI t)), (4, .int x), (5, .int (nI nk)), (6, .int (nI nm)), (7, .ref rI), (10, .ref rL), (11, .ref rA), (12, .ref rO), (9, .int (nI (gm_sum M nk))), (16, .int (nI (M 9 0))), (17, .int (nI (gm_hour M 16 0 - M 16 0))), (18, .int (nI (gp_dif M (gm_hour M) k + (M 5 k - gm_hour M 5 k)))), (19, .int (nI ((gp_ct (fun k => gm_hour M 8 k = 0 ∧ gm_hour M 7 k = 0) k) + 0))), (20, .int (nI (k + 1)))]) [5,6,7,8,9,10,11,12,13,14,15,16,17,18,3,1,0] rfl t9
                      · replace c_898 := (not_congr (gp_e_ge (n := M 8 k) (by omega))).mp c_898
                        refine gk_iload G dL_law_901 3 rfl ?_
                        refine gk_if_ne (tgt := 908) G dL_law_903 (by decide) (fun c_903 => ?_) (fun c_903 => ?_)
                        · replace c_903 := (not_congr (nI_eq (a := M 5 k - gm_hour M 5 k) (b := 0) (by omega) (by omega))).mp c_903
                          refine gk_iinc (j := 18) (v := nI (k + 1)) (lv' := [(20, .int (nI (k + 1))), (19, .int (nI ((gp_ct (fun k => gm_hour M 8 k = 0 ∧ gm_hour M 7 k = 0) k) + 0))), (22, .int (nI 1)), (18, .int (nI ((gp_dif M (gm_hour M) k) + (M 5 k - gm_hour M 5 k)))), (21, .int (nI (M 5 k - gm_hour M 5 k))), (0, .ref b), (1, .ref g), (2, .ref a), (3, .int (nI t)), (4, .int x), (5, .int (nI nk)), (6, .int (nI nm)), (7, .ref rI), (10, .ref rL), (11, .ref rA), (12, .ref rO), (9, .int (nI (gm_sum M nk))), (16, .int (nI (M 9 0))), (17, .int (nI (gm_hour M 16 0 - M 16 0)))]) G dL_law_908 rfl (nI_add k 1) (by decide) rfl ?_
                          refine gk_goto (tgt := 760) G dL_law_911 (by decide) ?_
                          have e19 : gp_ct (fun k => gm_hour M 8 k = 0 ∧ gm_hour M 7 k = 0) (k + 1) = (gp_ct (fun k => gm_hour M 8 k = 0 ∧ gm_hour M 7 k = 0) k) + 0 := by
                            show gp_ct (fun k => gm_hour M 8 k = 0 ∧ gm_hour M 7 k = 0) k + (if gm_hour M 8 k = 0 ∧ gm_hour M 7 k = 0 then 1 else 0) = _
                            first
                            | (rw [if_pos ⟨by omega, by omega⟩]; done)
                            | (rw [if_neg (fun q9 => by have := q9.1; have := q9.2; omega)]; done)
                          have t9 := ih (k + 1) u791 (by omega) (by omega) hr791
                          rw [e19] at t9
                          exact gk_lsub (lv' := [(0, .ref b), (1, .ref g), (2, .ref a), (3, .int (nI t)), (4, .int x), (5, .int (nI nk)), (6, .int (nI nm)), (7, .ref rI), (10, .ref rL), (11, .ref rA), (12, .ref rO), (9, .int (nI (gm_sum M nk))), (16, .int (nI (M 9 0))), (17, .int (nI (gm_hour M 16 0 - M 16 0))), (18, .int (nI (gp_dif M (gm_hour M) k + (M 5 k - gm_hour M 5 k)))), (19, .int (nI ((gp_ct (fun k => gm_hour M 8 k = 0 ∧ gm_hour M 7 k = 0) k) + 0))), (20, .int (nI (k + 1)))]) [5,6,7,8,9,10,11,12,13,14,15,16,17,18,3,1,0] rfl t9
                        · replace c_903 := (nI_eq (a := M 5 k - gm_hour M 5 k) (b := 0) (by omega) (by omega)).mp c_903
                          (have := h7k2.2.2.2.2.2.1 (by omega); omega)
                  · replace c_867 := (not_congr (gp_e_ge (n := M 8 k) (by omega))).mp c_867
                    refine gk_iload G dL_law_870 1 rfl ?_
                    refine gk_if_eq (tgt := 888) G dL_law_872 (by decide) (fun c_872 => ?_) (fun c_872 => ?_)
                    · exact absurd c_872 (by decide)
                    · refine gk_aload_n G dL_law_875 5 rfl ?_
                      refine gk_iload G dL_law_876 18 rfl ?_
                      refine gq_groundAt_ok (Y := (gw_R cI rO nm fo ++ (gw_R cI rA nk ft ++ (gw_R cI rL nk fl ++ (gw_R cZ rI nk fi))))) G gL_law_X1_groundAt hE.1.1 ⟨(Nat.le_of_ble_eq_true rfl), (Nat.le_of_ble_eq_true rfl)⟩ ⟨by show c0 ≤ 600130; omega, by show s0 ≤ 7301080; omega⟩ k wf2 hr791 (by omega) (Nat.le_of_ble_eq_true rfl) dL_law_878 (fun u878 hr878 => ?_)
                      show gk_C p l e room_1 s m ([.ref b] : List Value).toArray below meth c 23 D A Q c0 s0 ((gw_R cI rO nm fo ++ (gw_R cI rA nk ft ++ (gw_R cI rL nk fl ++ (gw_R cZ rI nk fi)))) ++ (gw_X cI cZ g h1 h2 q1 q2 u878 ++ (gp_U cI cJ a v))) [(19, .int (nI ((gp_ct (fun k => gm_hour M 8 k = 0 ∧ gm_hour M 7 k = 0) k) + 0))), (22, .int (nI 1)), (18, .int (nI ((gp_dif M (gm_hour M) k) + (M 5 k - gm_hour M 5 k)))), (21, .int (nI (M 5 k - gm_hour M 5 k))), (0, .ref b), (1, .ref g), (2, .ref a), (3, .int (nI t)), (4, .int x), (5, .int (nI nk)), (6, .int (nI nm)), (7, .ref rI), (10, .ref rL), (11, .ref rA), (12, .ref rO), (9, .int (nI (gm_sum M nk))), (16, .int (nI (M 9 0))), (17, .int (nI (gm_hour M 16 0 - M 16 0))), (20, .int (nI k))] 881 [.int (gm_e (gm_hour M 8 k))]
                      refine gk_iload G dL_law_881 16 rfl ?_
                      refine gk_iconst (v := nI 1) G dL_law_883 (by decide) ?_
                      refine gk_iadd (v := nI ((M 9 0) + 1)) G dL_law_884 (nI_add (M 9 0) 1) ?_
                      refine gk_icmp_ne (tgt := 906) G dL_law_885 (by decide) (fun c_885 => ?_) (fun c_885 => ?_)
                      · exact absurd (by rw [show gm_hour M 8 k = M 9 0 + 2 by have := h8s.2 (by omega); omega, gm_eS]) c_885
                      · refine gk_iload G dL_law_888 1 rfl ?_
                        refine gk_if_eq (tgt := 908) G dL_law_890 (by decide) (fun c_890 => ?_) (fun c_890 => ?_)
                        · exact absurd c_890 (by decide)
                        · refine gk_aload G dL_law_893 13 rfl ?_
                          refine gk_iload G dL_law_895 18 rfl ?_
                          refine gk_iald (v := gm_e (M 8 k)) G (q0 := 1) (t0 := 0) rfl rfl k rfl (by omega) (by omega) (hft k (by omega)) dL_law_897 ?_
                          refine gk_if_ge (tgt := 908) G dL_law_898 (by decide) (fun c_898 => ?_) (fun c_898 => ?_)
                          · replace c_898 := (gp_e_ge (n := M 8 k) (by omega)).mp c_898
                            refine gk_iinc (j := 18) (v := nI (k + 1)) (lv' := [(20, .int (nI (k + 1))), (19, .int (nI ((gp_ct (fun k => gm_hour M 8 k = 0 ∧ gm_hour M 7 k = 0) k) + 0))), (22, .int (nI 1)), (18, .int (nI ((gp_dif M (gm_hour M) k) + (M 5 k - gm_hour M 5 k)))), (21, .int (nI (M 5 k - gm_hour M 5 k))), (0, .ref b), (1, .ref g), (2, .ref a), (3, .int (nI t)), (4, .int x), (5, .int (nI nk)), (6, .int (nI nm)), (7, .ref rI), (10, .ref rL), (11, .ref rA), (12, .ref rO), (9, .int (nI (gm_sum M nk))), (16, .int (nI (M 9 0))), (17, .int (nI (gm_hour M 16 0 - M 16 0)))]) G dL_law_908 rfl (nI_add k 1) (by decide) rfl ?_
                            refine gk_goto (tgt := 760) G dL_law_911 (by decide) ?_
                            have e19 : gp_ct (fun k => gm_hour M 8 k = 0 ∧ gm_hour M 7 k = 0) (k + 1) = (gp_ct (fun k => gm_hour M 8 k = 0 ∧ gm_hour M 7 k = 0) k) + 0 := by
                              show gp_ct (fun k => gm_hour M 8 k = 0 ∧ gm_hour M 7 k = 0) k + (if gm_hour M 8 k = 0 ∧ gm_hour M 7 k = 0 then 1 else 0) = _
                              first
                              | (rw [if_pos ⟨by omega, by omega⟩]; done)
                              | (rw [if_neg (fun q9 => by have := q9.1; have := q9.2; omega)]; done)
                            have t9 := ih (k + 1) u878 (by omega) (by omega) hr878
                            rw [e19] at t9
                            exact gk_lsub (lv' := [(0, .ref b), (1, .ref g), (2, .ref a), (3, .int (nI t)), (4, .int x), (5, .int (nI nk)), (6, .int (nI nm)), (7, .ref rI), (10, .ref rL), (11, .ref rA), (12, .ref rO), (9, .int (nI (gm_sum M nk))), (16, .int (nI (M 9 0))), (17, .int (nI (gm_hour M 16 0 - M 16 0))), (18, .int (nI (gp_dif M (gm_hour M) k + (M 5 k - gm_hour M 5 k)))), (19, .int (nI ((gp_ct (fun k => gm_hour M 8 k = 0 ∧ gm_hour M 7 k = 0) k) + 0))), (20, .int (nI (k + 1)))]) [5,6,7,8,9,10,11,12,13,14,15,16,17,18,3,1,0] rfl t9
                          · replace c_898 := (not_congr (gp_e_ge (n := M 8 k) (by omega))).mp c_898
                            refine gk_iload G dL_law_901 3 rfl ?_
                            refine gk_if_ne (tgt := 908) G dL_law_903 (by decide) (fun c_903 => ?_) (fun c_903 => ?_)
                            · replace c_903 := (not_congr (nI_eq (a := M 5 k - gm_hour M 5 k) (b := 0) (by omega) (by omega))).mp c_903
                              refine gk_iinc (j := 18) (v := nI (k + 1)) (lv' := [(20, .int (nI (k + 1))), (19, .int (nI ((gp_ct (fun k => gm_hour M 8 k = 0 ∧ gm_hour M 7 k = 0) k) + 0))), (22, .int (nI 1)), (18, .int (nI ((gp_dif M (gm_hour M) k) + (M 5 k - gm_hour M 5 k)))), (21, .int (nI (M 5 k - gm_hour M 5 k))), (0, .ref b), (1, .ref g), (2, .ref a), (3, .int (nI t)), (4, .int x), (5, .int (nI nk)), (6, .int (nI nm)), (7, .ref rI), (10, .ref rL), (11, .ref rA), (12, .ref rO), (9, .int (nI (gm_sum M nk))), (16, .int (nI (M 9 0))), (17, .int (nI (gm_hour M 16 0 - M 16 0)))]) G dL_law_908 rfl (nI_add k 1) (by decide) rfl ?_
                              refine gk_goto (tgt := 760) G dL_law_911 (by decide) ?_
                              have e19 : gp_ct (fun k => gm_hour M 8 k = 0 ∧ gm_hour M 7 k = 0) (k + 1) = (gp_ct (fun k => gm_hour M 8 k = 0 ∧ gm_hour M 7 k = 0) k) + 0 := by
                                show gp_ct (fun k => gm_hour M 8 k = 0 ∧ gm_hour M 7 k = 0) k + (if gm_hour M 8 k = 0 ∧ gm_hour M 7 k = 0 then 1 else 0) = _
                                first
                                | (rw [if_pos ⟨by omega, by omega⟩]; done)
                                | (rw [if_neg (fun q9 => by have := q9.1; have := q9.2; omega)]; done)
                              have t9 := ih (k + 1) u878 (by omega) (by omega) hr878
                              rw [e19] at t9
                              exact gk_lsub (lv' := [(0, .ref b), (1, .ref g), (2, .ref a), (3, .int (nI t)), (4, .int x), (5, .int (nI nk)), (6, .int (nI nm)), (7, .ref rI), (10, .ref rL), (11, .ref rA), (12, .ref rO), (9, .int (nI (gm_sum M nk))), (16, .int (nI (M 9 0))), (17, .int (nI (gm_hour M 16 0 - M 16 0))), (18, .int (nI (gp_dif M (gm_hour M) k + (M 5 k - gm_hour M 5 k)))), (19, .int (nI ((gp_ct (fun k => gm_hour M 8 k = 0 ∧ gm_hour M 7 k = 0) k) + 0))), (20, .int (nI (k + 1)))]) [5,6,7,8,9,10,11,12,13,14,15,16,17,18,3,1,0] rfl t9
                            · replace c_903 := (nI_eq (a := M 5 k - gm_hour M 5 k) (b := 0) (by omega) (by omega)).mp c_903
                              (have := h7k2.2.2.2.2.2.1 (by omega); omega)
                · replace c_845 := (not_congr (gp_e_lt (n := M 8 k) (by omega))).mp c_845
                  refine gk_aload_n G dL_law_848 5 rfl ?_
                  refine gk_iload G dL_law_849 18 rfl ?_
                  refine gq_groundAt_ok (Y := (gw_R cI rO nm fo ++ (gw_R cI rA nk ft ++ (gw_R cI rL nk fl ++ (gw_R cZ rI nk fi))))) G gL_law_X1_groundAt hE.1.1 ⟨(Nat.le_of_ble_eq_true rfl), (Nat.le_of_ble_eq_true rfl)⟩ ⟨by show c0 ≤ 600130; omega, by show s0 ≤ 7301080; omega⟩ k wf2 hr791 (by omega) (Nat.le_of_ble_eq_true rfl) dL_law_851 (fun u851 hr851 => ?_)
                  show gk_C p l e room_1 s m ([.ref b] : List Value).toArray below meth c 23 D A Q c0 s0 ((gw_R cI rO nm fo ++ (gw_R cI rA nk ft ++ (gw_R cI rL nk fl ++ (gw_R cZ rI nk fi)))) ++ (gw_X cI cZ g h1 h2 q1 q2 u851 ++ (gp_U cI cJ a v))) [(19, .int (nI ((gp_ct (fun k => gm_hour M 8 k = 0 ∧ gm_hour M 7 k = 0) k) + 0))), (22, .int (nI 1)), (18, .int (nI ((gp_dif M (gm_hour M) k) + (M 5 k - gm_hour M 5 k)))), (21, .int (nI (M 5 k - gm_hour M 5 k))), (0, .ref b), (1, .ref g), (2, .ref a), (3, .int (nI t)), (4, .int x), (5, .int (nI nk)), (6, .int (nI nm)), (7, .ref rI), (10, .ref rL), (11, .ref rA), (12, .ref rO), (9, .int (nI (gm_sum M nk))), (16, .int (nI (M 9 0))), (17, .int (nI (gm_hour M 16 0 - M 16 0))), (20, .int (nI k))] 854 [.int (gm_e (gm_hour M 8 k))]
                  refine gk_aload G dL_law_854 13 rfl ?_
                  refine gk_iload G dL_law_856 18 rfl ?_
                  refine gk_iald (v := gm_e (M 8 k)) G (q0 := 1) (t0 := 0) rfl rfl k rfl (by omega) (by omega) (hft k (by omega)) dL_law_858 ?_
                  refine gk_icmp_ne (tgt := 906) G dL_law_859 (by decide) (fun c_859 => ?_) (fun c_859 => ?_)
                  · exact absurd (by rw [h8s.1 (by omega)]) c_859
                  · refine gk_aload G dL_law_862 13 rfl ?_
                    refine gk_iload G dL_law_864 18 rfl ?_
                    refine gk_iald (v := gm_e (M 8 k)) G (q0 := 1) (t0 := 0) rfl rfl k rfl (by omega) (by omega) (hft k (by omega)) dL_law_866 ?_
                    refine gk_if_ge (tgt := 888) G dL_law_867 (by decide) (fun c_867 => ?_) (fun c_867 => ?_)
                    · replace c_867 := (gp_e_ge (n := M 8 k) (by omega)).mp c_867
                      refine gk_iload G dL_law_888 1 rfl ?_
                      refine gk_if_eq (tgt := 908) G dL_law_890 (by decide) (fun c_890 => ?_) (fun c_890 => ?_)
                      · exact absurd c_890 (by decide)
                      · refine gk_aload G dL_law_893 13 rfl ?_
                        refine gk_iload G dL_law_895 18 rfl ?_
                        refine gk_iald (v := gm_e (M 8 k)) G (q0 := 1) (t0 := 0) rfl rfl k rfl (by omega) (by omega) (hft k (by omega)) dL_law_897 ?_
                        refine gk_if_ge (tgt := 908) G dL_law_898 (by decide) (fun c_898 => ?_) (fun c_898 => ?_)
                        · replace c_898 := (gp_e_ge (n := M 8 k) (by omega)).mp c_898
                          refine gk_iinc (j := 18) (v := nI (k + 1)) (lv' := [(20, .int (nI (k + 1))), (19, .int (nI ((gp_ct (fun k => gm_hour M 8 k = 0 ∧ gm_hour M 7 k = 0) k) + 0))), (22, .int (nI 1)), (18, .int (nI ((gp_dif M (gm_hour M) k) + (M 5 k - gm_hour M 5 k)))), (21, .int (nI (M 5 k - gm_hour M 5 k))), (0, .ref b), (1, .ref g), (2, .ref a), (3, .int (nI t)), (4, .int x), (5, .int (nI nk)), (6, .int (nI nm)), (7, .ref rI), (10, .ref rL), (11, .ref rA), (12, .ref rO), (9, .int (nI (gm_sum M nk))), (16, .int (nI (M 9 0))), (17, .int (nI (gm_hour M 16 0 - M 16 0)))]) G dL_law_908 rfl (nI_add k 1) (by decide) rfl ?_
                          refine gk_goto (tgt := 760) G dL_law_911 (by decide) ?_
                          have e19 : gp_ct (fun k => gm_hour M 8 k = 0 ∧ gm_hour M 7 k = 0) (k + 1) = (gp_ct (fun k => gm_hour M 8 k = 0 ∧ gm_hour M 7 k = 0) k) + 0 := by
                            show gp_ct (fun k => gm_hour M 8 k = 0 ∧ gm_hour M 7 k = 0) k + (if gm_hour M 8 k = 0 ∧ gm_hour M 7 k = 0 then 1 else 0) = _
                            first
                            | (rw [if_pos ⟨by omega, by omega⟩]; done)
                            | (rw [if_neg (fun q9 => by have := q9.1; have := q9.2; omega)]; done)
                          have t9 := ih (k + 1) u851 (by omega) (by omega) hr851
                          rw [e19] at t9
                          exact gk_lsub (lv' := [(0, .ref b), (1, .ref g), (2, .ref a), (3, .int (nI t)), (4, .int x), (5, .int (nI nk)), (6, .int (nI nm)), (7, .ref rI), (10, .ref rL), (11, .ref rA), (12, .ref rO), (9, .int (nI (gm_sum M nk))), (16, .int (nI (M 9 0))), (17, .int (nI (gm_hour M 16 0 - M 16 0))), (18, .int (nI (gp_dif M (gm_hour M) k + (M 5 k - gm_hour M 5 k)))), (19, .int (nI ((gp_ct (fun k => gm_hour M 8 k = 0 ∧ gm_hour M 7 k = 0) k) + 0))), (20, .int (nI (k + 1)))]) [5,6,7,8,9,10,11,12,13,14,15,16,17,18,3,1,0] rfl t9
                        · replace c_898 := (not_congr (gp_e_ge (n := M 8 k) (by omega))).mp c_898
                          refine gk_iload G dL_law_901 3 rfl ?_
                          refine gk_if_ne (tgt := 908) G dL_law_903 (by decide) (fun c_903 => ?_) (fun c_903 => ?_)
                          · replace c_903 := (not_congr (nI_eq (a := M 5 k - gm_hour M 5 k) (b := 0) (by omega) (by omega))).mp c_903
                            refine gk_iinc (j := 18) (v := nI (k + 1)) (lv' := [(20, .int (nI (k + 1))), (19, .int (nI ((gp_ct (fun k => gm_hour M 8 k = 0 ∧ gm_hour M 7 k = 0) k) + 0))), (22, .int (nI 1)), (18, .int (nI ((gp_dif M (gm_hour M) k) + (M 5 k - gm_hour M 5 k)))), (21, .int (nI (M 5 k - gm_hour M 5 k))), (0, .ref b), (1, .ref g), (2, .ref a), (3, .int (nI t)), (4, .int x), (5, .int (nI nk)), (6, .int (nI nm)), (7, .ref rI), (10, .ref rL), (11, .ref rA), (12, .ref rO), (9, .int (nI (gm_sum M nk))), (16, .int (nI (M 9 0))), (17, .int (nI (gm_hour M 16 0 - M 16 0)))]) G dL_law_908 rfl (nI_add k 1) (by decide) rfl ?_
                            refine gk_goto (tgt := 760) G dL_law_911 (by decide) ?_
                            have e19 : gp_ct (fun k => gm_hour M 8 k = 0 ∧ gm_hour M 7 k = 0) (k + 1) = (gp_ct (fun k => gm_hour M 8 k = 0 ∧ gm_hour M 7 k = 0) k) + 0 := by
                              show gp_ct (fun k => gm_hour M 8 k = 0 ∧ gm_hour M 7 k = 0) k + (if gm_hour M 8 k = 0 ∧ gm_hour M 7 k = 0 then 1 else 0) = _
                              first
                              | (rw [if_pos ⟨by omega, by omega⟩]; done)
                              | (rw [if_neg (fun q9 => by have := q9.1; have := q9.2; omega)]; done)
                            have t9 := ih (k + 1) u851 (by omega) (by omega) hr851
                            rw [e19] at t9
                            exact gk_lsub (lv' := [(0, .ref b), (1, .ref g), (2, .ref a), (3, .int (nI t)), (4, .int x), (5, .int (nI nk)), (6, .int (nI nm)), (7, .ref rI), (10, .ref rL), (11, .ref rA), (12, .ref rO), (9, .int (nI (gm_sum M nk))), (16, .int (nI (M 9 0))), (17, .int (nI (gm_hour M 16 0 - M 16 0))), (18, .int (nI (gp_dif M (gm_hour M) k + (M 5 k - gm_hour M 5 k)))), (19, .int (nI ((gp_ct (fun k => gm_hour M 8 k = 0 ∧ gm_hour M 7 k = 0) k) + 0))), (20, .int (nI (k + 1)))]) [5,6,7,8,9,10,11,12,13,14,15,16,17,18,3,1,0] rfl t9
                          · replace c_903 := (nI_eq (a := M 5 k - gm_hour M 5 k) (b := 0) (by omega) (by omega)).mp c_903
                            (have := h7k2.2.2.2.2.2.1 (by omega); omega)
                    · replace c_867 := (not_congr (gp_e_ge (n := M 8 k) (by omega))).mp c_867
                      refine gk_iload G dL_law_870 1 rfl ?_
                      refine gk_if_eq (tgt := 888) G dL_law_872 (by decide) (fun c_872 => ?_) (fun c_872 => ?_)
                      · exact absurd c_872 (by decide)
                      · refine gk_aload_n G dL_law_875 5 rfl ?_
                        refine gk_iload G dL_law_876 18 rfl ?_
                        refine gq_groundAt_ok (Y := (gw_R cI rO nm fo ++ (gw_R cI rA nk ft ++ (gw_R cI rL nk fl ++ (gw_R cZ rI nk fi))))) G gL_law_X1_groundAt hE.1.1 ⟨(Nat.le_of_ble_eq_true rfl), (Nat.le_of_ble_eq_true rfl)⟩ ⟨by show c0 ≤ 600130; omega, by show s0 ≤ 7301080; omega⟩ k wf2 hr851 (by omega) (Nat.le_of_ble_eq_true rfl) dL_law_878 (fun u878 hr878 => ?_)
                        show gk_C p l e room_1 s m ([.ref b] : List Value).toArray below meth c 23 D A Q c0 s0 ((gw_R cI rO nm fo ++ (gw_R cI rA nk ft ++ (gw_R cI rL nk fl ++ (gw_R cZ rI nk fi)))) ++ (gw_X cI cZ g h1 h2 q1 q2 u878 ++ (gp_U cI cJ a v))) [(19, .int (nI ((gp_ct (fun k => gm_hour M 8 k = 0 ∧ gm_hour M 7 k = 0) k) + 0))), (22, .int (nI 1)), (18, .int (nI ((gp_dif M (gm_hour M) k) + (M 5 k - gm_hour M 5 k)))), (21, .int (nI (M 5 k - gm_hour M 5 k))), (0, .ref b), (1, .ref g), (2, .ref a), (3, .int (nI t)), (4, .int x), (5, .int (nI nk)), (6, .int (nI nm)), (7, .ref rI), (10, .ref rL), (11, .ref rA), (12, .ref rO), (9, .int (nI (gm_sum M nk))), (16, .int (nI (M 9 0))), (17, .int (nI (gm_hour M 16 0 - M 16 0))), (20, .int (nI k))] 881 [.int (gm_e (gm_hour M 8 k))]
                        refine gk_iload G dL_law_881 16 rfl ?_
                        refine gk_iconst (v := nI 1) G dL_law_883 (by decide) ?_
                        refine gk_iadd (v := nI ((M 9 0) + 1)) G dL_law_884 (nI_add (M 9 0) 1) ?_
                        refine gk_icmp_ne (tgt := 906) G dL_law_885 (by decide) (fun c_885 => ?_) (fun c_885 => ?_)
                        · exact absurd (by rw [show gm_hour M 8 k = M 9 0 + 2 by have := h8s.2 (by omega); omega, gm_eS]) c_885
                        · refine gk_iload G dL_law_888 1 rfl ?_
                          refine gk_if_eq (tgt := 908) G dL_law_890 (by decide) (fun c_890 => ?_) (fun c_890 => ?_)
                          · exact absurd c_890 (by decide)
                          · refine gk_aload G dL_law_893 13 rfl ?_
                            refine gk_iload G dL_law_895 18 rfl ?_
                            refine gk_iald (v := gm_e (M 8 k)) G (q0 := 1) (t0 := 0) rfl rfl k rfl (by omega) (by omega) (hft k (by omega)) dL_law_897 ?_
                            refine gk_if_ge (tgt := 908) G dL_law_898 (by decide) (fun c_898 => ?_) (fun c_898 => ?_)
                            · replace c_898 := (gp_e_ge (n := M 8 k) (by omega)).mp c_898
                              refine gk_iinc (j := 18) (v := nI (k + 1)) (lv' := [(20, .int (nI (k + 1))), (19, .int (nI ((gp_ct (fun k => gm_hour M 8 k = 0 ∧ gm_hour M 7 k = 0) k) + 0))), (22, .int (nI 1)), (18, .int (nI ((gp_dif M (gm_hour M) k) + (M 5 k - gm_hour M 5 k)))), (21, .int (nI (M 5 k - gm_hour M 5 k))), (0, .ref b), (1, .ref g), (2, .ref a), (3, .int (nI t)), (4, .int x), (5, .int (nI nk)), (6, .int (nI nm)), (7, .ref rI), (10, .ref rL), (11, .ref rA), (12, .ref rO), (9, .int (nI (gm_sum M nk))), (16, .int (nI (M 9 0))), (17, .int (nI (gm_hour M 16 0 - M 16 0)))]) G dL_law_908 rfl (nI_add k 1) (by decide) rfl ?_
                              refine gk_goto (tgt := 760) G dL_law_911 (by decide) ?_
                              have e19 : gp_ct (fun k => gm_hour M 8 k = 0 ∧ gm_hour M 7 k = 0) (k + 1) = (gp_ct (fun k => gm_hour M 8 k = 0 ∧ gm_hour M 7 k = 0) k) + 0 := by
                                show gp_ct (fun k => gm_hour M 8 k = 0 ∧ gm_hour M 7 k = 0) k + (if gm_hour M 8 k = 0 ∧ gm_hour M 7 k = 0 then 1 else 0) = _
                                first
                                | (rw [if_pos ⟨by omega, by omega⟩]; done)
                                | (rw [if_neg (fun q9 => by have := q9.1; have := q9.2; omega)]; done)
                              have t9 := ih (k + 1) u878 (by omega) (by omega) hr878
                              rw [e19] at t9
                              exact gk_lsub (lv' := [(0, .ref b), (1, .ref g), (2, .ref a), (3, .int (nI t)), (4, .int x), (5, .int (nI nk)), (6, .int (nI nm)), (7, .ref rI), (10, .ref rL), (11, .ref rA), (12, .ref rO), (9, .int (nI (gm_sum M nk))), (16, .int (nI (M 9 0))), (17, .int (nI (gm_hour M 16 0 - M 16 0))), (18, .int (nI (gp_dif M (gm_hour M) k + (M 5 k - gm_hour M 5 k)))), (19, .int (nI ((gp_ct (fun k => gm_hour M 8 k = 0 ∧ gm_hour M 7 k = 0) k) + 0))), (20, .int (nI (k + 1)))]) [5,6,7,8,9,10,11,12,13,14,15,16,17,18,3,1,0] rfl t9
                            · replace c_898 := (not_congr (gp_e_ge (n := M 8 k) (by omega))).mp c_898
                              refine gk_iload G dL_law_901 3 rfl ?_
                              refine gk_if_ne (tgt := 908) G dL_law_903 (by decide) (fun c_903 => ?_) (fun c_903 => ?_)
                              · replace c_903 := (not_congr (nI_eq (a := M 5 k - gm_hour M 5 k) (b := 0) (by omega) (by omega))).mp c_903
                                refine gk_iinc (j := 18) (v := nI (k + 1)) (lv' := [(20, .int (nI (k + 1))), (19, .int (nI ((gp_ct (fun k => gm_hour M 8 k = 0 ∧ gm_hour M 7 k = 0) k) + 0))), (22, .int (nI 1)), (18, .int (nI ((gp_dif M (gm_hour M) k) + (M 5 k - gm_hour M 5 k)))), (21, .int (nI (M 5 k - gm_hour M 5 k))), (0, .ref b), (1, .ref g), (2, .ref a), (3, .int (nI t)), (4, .int x), (5, .int (nI nk)), (6, .int (nI nm)), (7, .ref rI), (10, .ref rL), (11, .ref rA), (12, .ref rO), (9, .int (nI (gm_sum M nk))), (16, .int (nI (M 9 0))), (17, .int (nI (gm_hour M 16 0 - M 16 0)))]) G dL_law_908 rfl (nI_add k 1) (by decide) rfl ?_
                                refine gk_goto (tgt := 760) G dL_law_911 (by decide) ?_
                                have e19 : gp_ct (fun k => gm_hour M 8 k = 0 ∧ gm_hour M 7 k = 0) (k + 1) = (gp_ct (fun k => gm_hour M 8 k = 0 ∧ gm_hour M 7 k = 0) k) + 0 := by
                                  show gp_ct (fun k => gm_hour M 8 k = 0 ∧ gm_hour M 7 k = 0) k + (if gm_hour M 8 k = 0 ∧ gm_hour M 7 k = 0 then 1 else 0) = _
                                  first
                                  | (rw [if_pos ⟨by omega, by omega⟩]; done)
                                  | (rw [if_neg (fun q9 => by have := q9.1; have := q9.2; omega)]; done)
                                have t9 := ih (k + 1) u878 (by omega) (by omega) hr878
                                rw [e19] at t9
                                exact gk_lsub (lv' := [(0, .ref b), (1, .ref g), (2, .ref a), (3, .int (nI t)), (4, .int x), (5, .int (nI nk)), (6, .int (nI nm)), (7, .ref rI), (10, .ref rL), (11, .ref rA), (12, .ref rO), (9, .int (nI (gm_sum M nk))), (16, .int (nI (M 9 0))), (17, .int (nI (gm_hour M 16 0 - M 16 0))), (18, .int (nI (gp_dif M (gm_hour M) k + (M 5 k - gm_hour M 5 k)))), (19, .int (nI ((gp_ct (fun k => gm_hour M 8 k = 0 ∧ gm_hour M 7 k = 0) k) + 0))), (20, .int (nI (k + 1)))]) [5,6,7,8,9,10,11,12,13,14,15,16,17,18,3,1,0] rfl t9
                              · replace c_903 := (nI_eq (a := M 5 k - gm_hour M 5 k) (b := 0) (by omega) (by omega)).mp c_903
                                (have := h7k2.2.2.2.2.2.1 (by omega); omega)
          · exact absurd c_808 (by decide)
  refine gk_iconst (v := nI 0) G dL_law_751 (by decide) ?_
  refine gk_istore (lv' := [(18, .int (nI 0)), (0, .ref b), (1, .ref g), (2, .ref a), (3, .int (nI t)), (4, .int x), (5, .int (nI nk)), (6, .int (nI nm)), (7, .ref rI), (10, .ref rL), (11, .ref rA), (12, .ref rO), (9, .int (nI (gm_sum M nk))), (16, .int (nI (M 9 0))), (17, .int (nI (gm_hour M 16 0 - M 16 0)))]) G dL_law_752 (by decide) rfl ?_
  refine gk_iconst (v := nI 0) G dL_law_754 (by decide) ?_
  refine gk_istore (lv' := [(19, .int (nI 0)), (18, .int (nI 0)), (0, .ref b), (1, .ref g), (2, .ref a), (3, .int (nI t)), (4, .int x), (5, .int (nI nk)), (6, .int (nI nm)), (7, .ref rI), (10, .ref rL), (11, .ref rA), (12, .ref rO), (9, .int (nI (gm_sum M nk))), (16, .int (nI (M 9 0))), (17, .int (nI (gm_hour M 16 0 - M 16 0)))]) G dL_law_755 (by decide) rfl ?_
  refine gk_iconst (v := nI 0) G dL_law_757 (by decide) ?_
  refine gk_istore (lv' := [(20, .int (nI 0)), (19, .int (nI 0)), (18, .int (nI 0)), (0, .ref b), (1, .ref g), (2, .ref a), (3, .int (nI t)), (4, .int x), (5, .int (nI nk)), (6, .int (nI nm)), (7, .ref rI), (10, .ref rL), (11, .ref rA), (12, .ref rO), (9, .int (nI (gm_sum M nk))), (16, .int (nI (M 9 0))), (17, .int (nI (gm_hour M 16 0 - M 16 0)))]) G dL_law_758 (by decide) rfl ?_
  exact gk_lsub (lv' := [(0, .ref b), (1, .ref g), (2, .ref a), (3, .int (nI t)), (4, .int x), (5, .int (nI nk)), (6, .int (nI nm)), (7, .ref rI), (10, .ref rL), (11, .ref rA), (12, .ref rO), (9, .int (nI (gm_sum M nk))), (16, .int (nI (M 9 0))), (17, .int (nI (gm_hour M 16 0 - M 16 0))), (18, .int (nI 0)), (19, .int (nI 0)), (20, .int (nI 0))]) [3,4,5,6,7,8,9,10,11,12,13,14,15,16,2,1,0] rfl (L760 (nk + 1) 0 u (by omega) (Nat.zero_le _) hr)
set_option maxRecDepth 100000 in
set_option maxHeartbeats 4000000 in
theorem la_9 {p : Program} {l : Launch} {e : Env} {s : State} {m : MethodId} {below : List Frame} {meth : Method} {c : Code} {D : va_G} {A : Nat → Prop} {Q : State → Prop} {cI cZ cJ : ClassId} {b L : Nat} {xs : Nat → Int32} {g h1 h2 : Nat} {q1 q2 : Nat → Nat} {u : gw_U} {a : Nat} {v : gp_Q} {M : gm_M} {x : Int32} {nm nk c0 s0 t : Nat} (G : gk_G p s m ([.ref b] : List Value).toArray meth c RL 23 cL_law (some .boolean) wsL_law D (g_T cI cZ cJ) A) (wf : gm_wf M) (hrest : gm_rest M) (hm : M 10 0 = nm) (hk : M 11 0 = nk) (hh : M 9 0 < 1900000) (hE : gp_L b L xs A s s.heap) (hc0 : c0 ≤ 100000) (hs0 : s0 ≤ 1000000) (rI rL rA rO : Nat) (fi fl ft fo : Nat → Int32) (hr : gc_rep u.1.1 u.1.2 (gm_hour M)) (K : ∀ u : gw_U, gc_rep u.1.1 u.1.2 (gm_hour M) → gk_C p l e room_1 s m ([.ref b] : List Value).toArray below meth c 23 D A Q c0 s0 ((gw_R cI rO nm fo ++ (gw_R cI rA nk ft ++ (gw_R cI rL nk fl ++ (gw_R cZ rI nk fi)))) ++ (gw_X cI cZ g h1 h2 q1 q2 u ++ (gp_U cI cJ a v))) [(0, .ref b), (1, .ref g), (2, .ref a), (3, .int (nI t)), (4, .int x), (5, .int (nI nk)), (6, .int (nI nm)), (7, .ref rI), (10, .ref rL), (11, .ref rA), (12, .ref rO), (16, .int (nI (M 9 0))), (17, .int (nI (gm_hour M 16 0 - M 16 0))), (18, .int (nI (gp_dif M (gm_hour M) nk))), (19, .int (nI (gp_ct (fun k => gm_hour M 8 k = 0 ∧ gm_hour M 7 k = 0) nk))), (20, .int (nI (gp_ct (fun i => gm_who (gm_hour M) i (M 11 0) = 0) nm))), (21, .int (nI 0))] 955 []) : gk_C p l e room_1 s m ([.ref b] : List Value).toArray below meth c 23 D A Q c0 s0 ((gw_R cI rO nm fo ++ (gw_R cI rA nk ft ++ (gw_R cI rL nk fl ++ (gw_R cZ rI nk fi)))) ++ (gw_X cI cZ g h1 h2 q1 q2 u ++ (gp_U cI cJ a v))) [(0, .ref b), (1, .ref g), (2, .ref a), (3, .int (nI t)), (4, .int x), (5, .int (nI nk)), (6, .int (nI nm)), (7, .ref rI), (10, .ref rL), (11, .ref rA), (12, .ref rO), (9, .int (nI (gm_sum M nk))), (16, .int (nI (M 9 0))), (17, .int (nI (gm_hour M 16 0 - M 16 0))), (18, .int (nI (gp_dif M (gm_hour M) nk))), (19, .int (nI (gp_ct (fun k => gm_hour M 8 k = 0 ∧ gm_hour M 7 k = 0) nk)))] 914 [] := by
  obtain ⟨hz1, hz2, hz3, hz4, hz5, hz6, hz7, hz8⟩ := id wf
  have hun := gp_un_le M nk
  have wf2 := gm_hour_wf wf
  have rest2 := gm_hour_rest wf hrest
  have e11 : gm_hour M 11 0 = M 11 0 := gm_hour_ne M 0 (by decide) (by decide) (by decide) (by decide) (by decide) (by decide) (by decide)
  have e10 : gm_hour M 10 0 = M 10 0 := gm_hour_ne M 0 (by decide) (by decide) (by decide) (by decide) (by decide) (by decide) (by decide)
  have e9h := gm_hour_9 M
  have L923 : ∀ (n : Nat) (k : Nat) (u : gw_U), nm - k < n → (k ≤ nm) → (gc_rep u.1.1 u.1.2 (gm_hour M)) → gk_C p l e room_1 s m ([.ref b] : List Value).toArray below meth c 23 D A Q c0 s0 ((gw_R cI rO nm fo ++ (gw_R cI rA nk ft ++ (gw_R cI rL nk fl ++ (gw_R cZ rI nk fi)))) ++ (gw_X cI cZ g h1 h2 q1 q2 u ++ (gp_U cI cJ a v))) [(0, .ref b), (1, .ref g), (2, .ref a), (3, .int (nI t)), (4, .int x), (5, .int (nI nk)), (6, .int (nI nm)), (7, .ref rI), (10, .ref rL), (11, .ref rA), (12, .ref rO), (16, .int (nI (M 9 0))), (17, .int (nI (gm_hour M 16 0 - M 16 0))), (18, .int (nI (gp_dif M (gm_hour M) nk))), (19, .int (nI (gp_ct (fun k => gm_hour M 8 k = 0 ∧ gm_hour M 7 k = 0) nk))), (20, .int (nI (gp_ct (fun i => gm_who (gm_hour M) i (M 11 0) = 0) k))), (21, .int (nI 0)), (22, .int (nI k))] 923 [] := by
    intro n
    induction n with
    | zero => intro k u h0; exact absurd h0 (Nat.not_lt_zero _)
    | succ n ih =>
      intro k u h0 w0 w1
      refine gk_iload G dL_law_923 17 rfl ?_
      refine gk_iload G dL_law_925 6 rfl ?_
      refine gk_icmp_ge (tgt := 955) G dL_law_927 (by decide) (fun c_927 => ?_) (fun c_927 => ?_)
      · replace c_927 := (nI_leI (a := nm) (b := k) (by omega) (by omega)).mp c_927
        have ek : k = nm := by omega
        exact gk_lsub (lv' := [(0, .ref b), (1, .ref g), (2, .ref a), (3, .int (nI t)), (4, .int x), (5, .int (nI nk)), (6, .int (nI nm)), (7, .ref rI), (10, .ref rL), (11, .ref rA), (12, .ref rO), (16, .int (nI (M 9 0))), (17, .int (nI (gm_hour M 16 0 - M 16 0))), (18, .int (nI (gp_dif M (gm_hour M) nk))), (19, .int (nI (gp_ct (fun k => gm_hour M 8 k = 0 ∧ gm_hour M 7 k = 0) nk))), (20, .int (nI (gp_ct (fun i => gm_who (gm_hour M) i (M 11 0) = 0) k))), (21, .int (nI 0))]) [0,1,2,3,4,5,6,7,8,9,10,11,12,13,14,15,16] rfl (by rw [ek]; exact K u w1)
      · replace c_927 := (not_congr (nI_leI (a := nm) (b := k) (by omega) (by omega))).mp c_927
        have hwl := gm_who_le (gm_hour M) k (M 11 0)
        have hct := gp_ct_le (fun i => gm_who (gm_hour M) i (M 11 0) = 0) k
        refine gk_iload G dL_law_930 15 rfl ?_
        refine gk_aload_n G dL_law_932 1 rfl ?_
        refine gk_iload G dL_law_933 17 rfl ?_
        refine gq_sackOn_ok (Y := (gw_R cI rO nm fo ++ (gw_R cI rA nk ft ++ (gw_R cI rL nk fl ++ (gw_R cZ rI nk fi))))) G gL_law_X1_sackOn hE.1.1 ⟨(Nat.le_of_ble_eq_true rfl), (Nat.le_of_ble_eq_true rfl)⟩ ⟨by show c0 ≤ 600130; omega, by show s0 ≤ 7301080; omega⟩ k wf2 w1 (by omega) (Nat.le_of_ble_eq_true rfl) dL_law_935 (fun u935 hr935 => ?_)
        rw [e11]
        show gk_C p l e room_1 s m ([.ref b] : List Value).toArray below meth c 23 D A Q c0 s0 ((gw_R cI rO nm fo ++ (gw_R cI rA nk ft ++ (gw_R cI rL nk fl ++ (gw_R cZ rI nk fi)))) ++ (gw_X cI cZ g h1 h2 q1 q2 u935 ++ (gp_U cI cJ a v))) [(0, .ref b), (1, .ref g), (2, .ref a), (3, .int (nI t)), (4, .int x), (5, .int (nI nk)), (6, .int (nI nm)), (7, .ref rI), (10, .ref rL), (11, .ref rA), (12, .ref rO), (16, .int (nI (M 9 0))), (17, .int (nI (gm_hour M 16 0 - M 16 0))), (18, .int (nI (gp_dif M (gm_hour M) nk))), (19, .int (nI (gp_ct (fun k => gm_hour M 8 k = 0 ∧ gm_hour M 7 k = 0) nk))), (20, .int (nI (gp_ct (fun i => gm_who (gm_hour M) i (M 11 0) = 0) k))), (21, .int (nI 0)), (22, .int (nI k))] 938 [.int (gm_e (gm_who (gm_hour M) k (M 11 0))), .int (nI (gp_ct (fun i => gm_who (gm_hour M) i (M 11 0) = 0) k))]
        refine gk_if_ge (tgt := 945) G dL_law_938 (by decide) (fun c_938 => ?_) (fun c_938 => ?_)
        · replace c_938 := (gp_e_ge (n := gm_who (gm_hour M) k (M 11 0)) (by omega)).mp c_938
          refine gk_iconst (v := nI 0) G dL_law_945 (by decide) ?_
          refine gk_iadd (v := nI ((gp_ct (fun i => gm_who (gm_hour M) i (M 11 0) = 0) k) + 0)) G dL_law_946 (nI_add (gp_ct (fun i => gm_who (gm_hour M) i (M 11 0) = 0) k) 0) ?_
          refine gk_istore (lv' := [(20, .int (nI ((gp_ct (fun i => gm_who (gm_hour M) i (M 11 0) = 0) k) + 0))), (0, .ref b), (1, .ref g), (2, .ref a), (3, .int (nI t)), (4, .int x), (5, .int (nI nk)), (6, .int (nI nm)), (7, .ref rI), (10, .ref rL), (11, .ref rA), (12, .ref rO), (16, .int (nI (M 9 0))), (17, .int (nI (gm_hour M 16 0 - M 16 0))), (18, .int (nI (gp_dif M (gm_hour M) nk))), (19, .int (nI (gp_ct (fun k => gm_hour M 8 k = 0 ∧ gm_hour M 7 k = 0) nk))), (21, .int (nI 0)), (22, .int (nI k))]) G dL_law_947 (by decide) rfl ?_
          refine gk_iinc (j := 17) (v := nI (k + 1)) (lv' := [(22, .int (nI (k + 1))), (20, .int (nI ((gp_ct (fun i => gm_who (gm_hour M) i (M 11 0) = 0) k) + 0))), (0, .ref b), (1, .ref g), (2, .ref a), (3, .int (nI t)), (4, .int x), (5, .int (nI nk)), (6, .int (nI nm)), (7, .ref rI), (10, .ref rL), (11, .ref rA), (12, .ref rO), (16, .int (nI (M 9 0))), (17, .int (nI (gm_hour M 16 0 - M 16 0))), (18, .int (nI (gp_dif M (gm_hour M) nk))), (19, .int (nI (gp_ct (fun k => gm_hour M 8 k = 0 ∧ gm_hour M 7 k = 0) nk))), (21, .int (nI 0))]) G dL_law_949 rfl (nI_add k 1) (by decide) rfl ?_
          refine gk_goto (tgt := 923) G dL_law_952 (by decide) ?_
          have e20 : gp_ct (fun i => gm_who (gm_hour M) i (M 11 0) = 0) (k + 1) = (gp_ct (fun i => gm_who (gm_hour M) i (M 11 0) = 0) k) + 0 := by
            show gp_ct (fun i => gm_who (gm_hour M) i (M 11 0) = 0) k + (if gm_who (gm_hour M) k (M 11 0) = 0 then 1 else 0) = _
            first
            | (rw [if_pos (by omega)]; done)
            | (rw [if_neg (by omega)]; done)
          have t9 := ih (k + 1) u935 (by omega) (by omega) hr935
          rw [e20] at t9
          exact gk_lsub (lv' := [(0, .ref b), (1, .ref g), (2, .ref a), (3, .int (nI t)), (4, .int x), (5, .int (nI nk)), (6, .int (nI nm)), (7, .ref rI), (10, .ref rL), (11, .ref rA), (12, .ref rO), (16, .int (nI (M 9 0))), (17, .int (nI (gm_hour M 16 0 - M 16 0))), (18, .int (nI (gp_dif M (gm_hour M) nk))), (19, .int (nI (gp_ct (fun k => gm_hour M 8 k = 0 ∧ gm_hour M 7 k = 0) nk))), (20, .int (nI ((gp_ct (fun i => gm_who (gm_hour M) i (M 11 0) = 0) k) + 0))), (21, .int (nI 0)), (22, .int (nI (k + 1)))]) [2,3,4,5,6,7,8,9,10,11,12,13,14,15,16,1,17,0] rfl t9
        · replace c_938 := (not_congr (gp_e_ge (n := gm_who (gm_hour M) k (M 11 0)) (by omega))).mp c_938
          refine gk_iconst (v := nI 1) G dL_law_941 (by decide) ?_
          refine gk_goto (tgt := 946) G dL_law_942 (by decide) ?_
          refine gk_iadd (v := nI ((gp_ct (fun i => gm_who (gm_hour M) i (M 11 0) = 0) k) + 1)) G dL_law_946 (nI_add (gp_ct (fun i => gm_who (gm_hour M) i (M 11 0) = 0) k) 1) ?_
          refine gk_istore (lv' := [(20, .int (nI ((gp_ct (fun i => gm_who (gm_hour M) i (M 11 0) = 0) k) + 1))), (0, .ref b), (1, .ref g), (2, .ref a), (3, .int (nI t)), (4, .int x), (5, .int (nI nk)), (6, .int (nI nm)), (7, .ref rI), (10, .ref rL), (11, .ref rA), (12, .ref rO), (16, .int (nI (M 9 0))), (17, .int (nI (gm_hour M 16 0 - M 16 0))), (18, .int (nI (gp_dif M (gm_hour M) nk))), (19, .int (nI (gp_ct (fun k => gm_hour M 8 k = 0 ∧ gm_hour M 7 k = 0) nk))), (21, .int (nI 0)), (22, .int (nI k))]) G dL_law_947 (by decide) rfl ?_
          refine gk_iinc (j := 17) (v := nI (k + 1)) (lv' := [(22, .int (nI (k + 1))), (20, .int (nI ((gp_ct (fun i => gm_who (gm_hour M) i (M 11 0) = 0) k) + 1))), (0, .ref b), (1, .ref g), (2, .ref a), (3, .int (nI t)), (4, .int x), (5, .int (nI nk)), (6, .int (nI nm)), (7, .ref rI), (10, .ref rL), (11, .ref rA), (12, .ref rO), (16, .int (nI (M 9 0))), (17, .int (nI (gm_hour M 16 0 - M 16 0))), (18, .int (nI (gp_dif M (gm_hour M) nk))), (19, .int (nI (gp_ct (fun k => gm_hour M 8 k = 0 ∧ gm_hour M 7 k = 0) nk))), (21, .int (nI 0))]) G dL_law_949 rfl (nI_add k 1) (by decide) rfl ?_
          refine gk_goto (tgt := 923) G dL_law_952 (by decide) ?_
          have e20 : gp_ct (fun i => gm_who (gm_hour M) i (M 11 0) = 0) (k + 1) = (gp_ct (fun i => gm_who (gm_hour M) i (M 11 0) = 0) k) + 1 := by
            show gp_ct (fun i => gm_who (gm_hour M) i (M 11 0) = 0) k + (if gm_who (gm_hour M) k (M 11 0) = 0 then 1 else 0) = _
            first
            | (rw [if_pos (by omega)]; done)
            | (rw [if_neg (by omega)]; done)
          have t9 := ih (k + 1) u935 (by omega) (by omega) hr935
          rw [e20] at t9
          exact gk_lsub (lv' := [(0, .ref b), (1, .ref g), (2, .ref a), (3, .int (nI t)), (4, .int x), (5, .int (nI nk)), (6, .int (nI nm)), (7, .ref rI), (10, .ref rL), (11, .ref rA), (12, .ref rO), (16, .int (nI (M 9 0))), (17, .int (nI (gm_hour M 16 0 - M 16 0))), (18, .int (nI (gp_dif M (gm_hour M) nk))), (19, .int (nI (gp_ct (fun k => gm_hour M 8 k = 0 ∧ gm_hour M 7 k = 0) nk))), (20, .int (nI ((gp_ct (fun i => gm_who (gm_hour M) i (M 11 0) = 0) k) + 1))), (21, .int (nI 0)), (22, .int (nI (k + 1)))]) [2,3,4,5,6,7,8,9,10,11,12,13,14,15,16,1,17,0] rfl t9
  refine gk_iconst (v := nI 0) G dL_law_914 (by decide) ?_
  refine gk_istore (lv' := [(20, .int (nI 0)), (0, .ref b), (1, .ref g), (2, .ref a), (3, .int (nI t)), (4, .int x), (5, .int (nI nk)), (6, .int (nI nm)), (7, .ref rI), (10, .ref rL), (11, .ref rA), (12, .ref rO), (9, .int (nI (gm_sum M nk))), (16, .int (nI (M 9 0))), (17, .int (nI (gm_hour M 16 0 - M 16 0))), (18, .int (nI (gp_dif M (gm_hour M) nk))), (19, .int (nI (gp_ct (fun k => gm_hour M 8 k = 0 ∧ gm_hour M 7 k = 0) nk)))]) G dL_law_915 (by decide) rfl ?_
  refine gk_iconst (v := nI 0) G dL_law_917 (by decide) ?_
  refine gk_istore (lv' := [(21, .int (nI 0)), (20, .int (nI 0)), (0, .ref b), (1, .ref g), (2, .ref a), (3, .int (nI t)), (4, .int x), (5, .int (nI nk)), (6, .int (nI nm)), (7, .ref rI), (10, .ref rL), (11, .ref rA), (12, .ref rO), (9, .int (nI (gm_sum M nk))), (16, .int (nI (M 9 0))), (17, .int (nI (gm_hour M 16 0 - M 16 0))), (18, .int (nI (gp_dif M (gm_hour M) nk))), (19, .int (nI (gp_ct (fun k => gm_hour M 8 k = 0 ∧ gm_hour M 7 k = 0) nk)))]) G dL_law_918 (by decide) rfl ?_
  refine gk_iconst (v := nI 0) G dL_law_920 (by decide) ?_
  refine gk_istore (lv' := [(22, .int (nI 0)), (21, .int (nI 0)), (20, .int (nI 0)), (0, .ref b), (1, .ref g), (2, .ref a), (3, .int (nI t)), (4, .int x), (5, .int (nI nk)), (6, .int (nI nm)), (7, .ref rI), (10, .ref rL), (11, .ref rA), (12, .ref rO), (9, .int (nI (gm_sum M nk))), (16, .int (nI (M 9 0))), (17, .int (nI (gm_hour M 16 0 - M 16 0))), (18, .int (nI (gp_dif M (gm_hour M) nk))), (19, .int (nI (gp_ct (fun k => gm_hour M 8 k = 0 ∧ gm_hour M 7 k = 0) nk)))]) G dL_law_921 (by decide) rfl ?_
  exact gk_lsub (lv' := [(0, .ref b), (1, .ref g), (2, .ref a), (3, .int (nI t)), (4, .int x), (5, .int (nI nk)), (6, .int (nI nm)), (7, .ref rI), (10, .ref rL), (11, .ref rA), (12, .ref rO), (16, .int (nI (M 9 0))), (17, .int (nI (gm_hour M 16 0 - M 16 0))), (18, .int (nI (gp_dif M (gm_hour M) nk))), (19, .int (nI (gp_ct (fun k => gm_hour M 8 k = 0 ∧ gm_hour M 7 k = 0) nk))), (20, .int (nI 0)), (21, .int (nI 0)), (22, .int (nI 0))]) [3,4,5,6,7,8,9,10,11,12,13,15,16,17,18,2,1,0] rfl (L923 (nm + 1) 0 u (by omega) (Nat.zero_le _) hr)
set_option maxRecDepth 100000 in
set_option maxHeartbeats 4000000 in
theorem la_10 {p : Program} {l : Launch} {e : Env} {s : State} {m : MethodId} {below : List Frame} {meth : Method} {c : Code} {D : va_G} {A : Nat → Prop} {Q : State → Prop} {cI cZ cJ : ClassId} {b L : Nat} {xs : Nat → Int32} {g h1 h2 : Nat} {q1 q2 : Nat → Nat} {u : gw_U} {a : Nat} {v : gp_Q} {M : gm_M} {x : Int32} {nm nk c0 s0 t : Nat} (G : gk_G p s m ([.ref b] : List Value).toArray meth c RL 23 cL_law (some .boolean) wsL_law D (g_T cI cZ cJ) A) (wf : gm_wf M) (hrest : gm_rest M) (hm : M 10 0 = nm) (hk : M 11 0 = nk) (hh : M 9 0 < 1900000) (hE : gp_L b L xs A s s.heap) (hc0 : c0 ≤ 100000) (hs0 : s0 ≤ 1000000) (rI rL rA rO : Nat) (fi fl ft fo : Nat → Int32) (hr : gc_rep u.1.1 u.1.2 (gm_hour M)) (K : ∀ u : gw_U, gc_rep u.1.1 u.1.2 (gm_hour M) → gk_C p l e room_1 s m ([.ref b] : List Value).toArray below meth c 23 D A Q c0 s0 ((gw_R cI rO nm fo ++ (gw_R cI rA nk ft ++ (gw_R cI rL nk fl ++ (gw_R cZ rI nk fi)))) ++ (gw_X cI cZ g h1 h2 q1 q2 u ++ (gp_U cI cJ a v))) [(0, .ref b), (1, .ref g), (2, .ref a), (3, .int (nI t)), (4, .int x), (5, .int (nI nk)), (6, .int (nI nm)), (7, .ref rI), (10, .ref rL), (11, .ref rA), (12, .ref rO), (16, .int (nI (M 9 0))), (17, .int (nI (gm_hour M 16 0 - M 16 0))), (18, .int (nI (gp_dif M (gm_hour M) nk))), (19, .int (nI (gp_ct (fun k => gm_hour M 8 k = 0 ∧ gm_hour M 7 k = 0) nk))), (20, .int (nI (gp_ct (fun i => gm_who (gm_hour M) i (M 11 0) = 0) nm))), (21, .int (nI (gp_ct (fun k => gm_hour M 8 k = M 9 0 + 2) nk)))] 994 []) : gk_C p l e room_1 s m ([.ref b] : List Value).toArray below meth c 23 D A Q c0 s0 ((gw_R cI rO nm fo ++ (gw_R cI rA nk ft ++ (gw_R cI rL nk fl ++ (gw_R cZ rI nk fi)))) ++ (gw_X cI cZ g h1 h2 q1 q2 u ++ (gp_U cI cJ a v))) [(0, .ref b), (1, .ref g), (2, .ref a), (3, .int (nI t)), (4, .int x), (5, .int (nI nk)), (6, .int (nI nm)), (7, .ref rI), (10, .ref rL), (11, .ref rA), (12, .ref rO), (16, .int (nI (M 9 0))), (17, .int (nI (gm_hour M 16 0 - M 16 0))), (18, .int (nI (gp_dif M (gm_hour M) nk))), (19, .int (nI (gp_ct (fun k => gm_hour M 8 k = 0 ∧ gm_hour M 7 k = 0) nk))), (20, .int (nI (gp_ct (fun i => gm_who (gm_hour M) i (M 11 0) = 0) nm))), (21, .int (nI 0))] 955 [] := by
  obtain ⟨hz1, hz2, hz3, hz4, hz5, hz6, hz7, hz8⟩ := id wf
  have hun := gp_un_le M nk
  have wf2 := gm_hour_wf wf
  have rest2 := gm_hour_rest wf hrest
  have e11 : gm_hour M 11 0 = M 11 0 := gm_hour_ne M 0 (by decide) (by decide) (by decide) (by decide) (by decide) (by decide) (by decide)
  have e10 : gm_hour M 10 0 = M 10 0 := gm_hour_ne M 0 (by decide) (by decide) (by decide) (by decide) (by decide) (by decide) (by decide)
  have e9h := gm_hour_9 M
  have L958 : ∀ (n : Nat) (k : Nat) (u : gw_U), nk - k < n → (k ≤ nk) → (gc_rep u.1.1 u.1.2 (gm_hour M)) → gk_C p l e room_1 s m ([.ref b] : List Value).toArray below meth c 23 D A Q c0 s0 ((gw_R cI rO nm fo ++ (gw_R cI rA nk ft ++ (gw_R cI rL nk fl ++ (gw_R cZ rI nk fi)))) ++ (gw_X cI cZ g h1 h2 q1 q2 u ++ (gp_U cI cJ a v))) [(0, .ref b), (1, .ref g), (2, .ref a), (3, .int (nI t)), (4, .int x), (5, .int (nI nk)), (6, .int (nI nm)), (7, .ref rI), (10, .ref rL), (11, .ref rA), (12, .ref rO), (16, .int (nI (M 9 0))), (17, .int (nI (gm_hour M 16 0 - M 16 0))), (18, .int (nI (gp_dif M (gm_hour M) nk))), (19, .int (nI (gp_ct (fun k => gm_hour M 8 k = 0 ∧ gm_hour M 7 k = 0) nk))), (20, .int (nI (gp_ct (fun i => gm_who (gm_hour M) i (M 11 0) = 0) nm))), (21, .int (nI (gp_ct (fun k => gm_hour M 8 k = M 9 0 + 2) k))), (22, .int (nI k))] 958 [] := by
    intro n
    induction n with
    | zero => intro k u h0; exact absurd h0 (Nat.not_lt_zero _)
    | succ n ih =>
      intro k u h0 w0 w1
      refine gk_iload G dL_law_958 17 rfl ?_
      refine gk_iload G dL_law_960 5 rfl ?_
      refine gk_icmp_ge (tgt := 994) G dL_law_962 (by decide) (fun c_962 => ?_) (fun c_962 => ?_)
      · replace c_962 := (nI_leI (a := nk) (b := k) (by omega) (by omega)).mp c_962
        have ek : k = nk := by omega
        exact gk_lsub (lv' := [(0, .ref b), (1, .ref g), (2, .ref a), (3, .int (nI t)), (4, .int x), (5, .int (nI nk)), (6, .int (nI nm)), (7, .ref rI), (10, .ref rL), (11, .ref rA), (12, .ref rO), (16, .int (nI (M 9 0))), (17, .int (nI (gm_hour M 16 0 - M 16 0))), (18, .int (nI (gp_dif M (gm_hour M) nk))), (19, .int (nI (gp_ct (fun k => gm_hour M 8 k = 0 ∧ gm_hour M 7 k = 0) nk))), (20, .int (nI (gp_ct (fun i => gm_who (gm_hour M) i (M 11 0) = 0) nm))), (21, .int (nI (gp_ct (fun k => gm_hour M 8 k = M 9 0 + 2) k)))]) [0,1,2,3,4,5,6,7,8,9,10,11,12,13,14,15,16] rfl (by rw [ek]; exact K u w1)
      · replace c_962 := (not_congr (nI_leI (a := nk) (b := k) (by omega) (by omega))).mp c_962
        have h7k2 := wf2.2.2.2.2.2.2.1 k (by omega)
        have hct := gp_ct_le (fun k => gm_hour M 8 k = M 9 0 + 2) k
        refine gk_iload G dL_law_965 16 rfl ?_
        refine gk_aload_n G dL_law_967 1 rfl ?_
        refine gk_iload G dL_law_968 17 rfl ?_
        refine gq_groundAt_ok (Y := (gw_R cI rO nm fo ++ (gw_R cI rA nk ft ++ (gw_R cI rL nk fl ++ (gw_R cZ rI nk fi))))) G gL_law_X1_groundAt hE.1.1 ⟨(Nat.le_of_ble_eq_true rfl), (Nat.le_of_ble_eq_true rfl)⟩ ⟨by show c0 ≤ 600130; omega, by show s0 ≤ 7301080; omega⟩ k wf2 w1 (by omega) (Nat.le_of_ble_eq_true rfl) dL_law_970 (fun u970 hr970 => ?_)
        show gk_C p l e room_1 s m ([.ref b] : List Value).toArray below meth c 23 D A Q c0 s0 ((gw_R cI rO nm fo ++ (gw_R cI rA nk ft ++ (gw_R cI rL nk fl ++ (gw_R cZ rI nk fi)))) ++ (gw_X cI cZ g h1 h2 q1 q2 u970 ++ (gp_U cI cJ a v))) [(0, .ref b), (1, .ref g), (2, .ref a), (3, .int (nI t)), (4, .int x), (5, .int (nI nk)), (6, .int (nI nm)), (7, .ref rI), (10, .ref rL), (11, .ref rA), (12, .ref rO), (16, .int (nI (M 9 0))), (17, .int (nI (gm_hour M 16 0 - M 16 0))), (18, .int (nI (gp_dif M (gm_hour M) nk))), (19, .int (nI (gp_ct (fun k => gm_hour M 8 k = 0 ∧ gm_hour M 7 k = 0) nk))), (20, .int (nI (gp_ct (fun i => gm_who (gm_hour M) i (M 11 0) = 0) nm))), (21, .int (nI (gp_ct (fun k => gm_hour M 8 k = M 9 0 + 2) k))), (22, .int (nI k))] 973 [.int (gm_e (gm_hour M 8 k)), .int (nI (gp_ct (fun k => gm_hour M 8 k = M 9 0 + 2) k))]
        refine gk_iload G dL_law_973 11 rfl ?_
        refine gk_iconst (v := nI 1) G dL_law_975 (by decide) ?_
        refine gk_iadd (v := nI ((M 9 0) + 1)) G dL_law_976 (nI_add (M 9 0) 1) ?_
        refine gk_icmp_ne (tgt := 984) G dL_law_977 (by decide) (fun c_977 => ?_) (fun c_977 => ?_)
        · have hj : gm_hour M 8 k ≠ M 9 0 + 2 := fun q9 => c_977 (by rw [q9, gm_eS])
          refine gk_iconst (v := nI 0) G dL_law_984 (by decide) ?_
          refine gk_iadd (v := nI ((gp_ct (fun k => gm_hour M 8 k = M 9 0 + 2) k) + 0)) G dL_law_985 (nI_add (gp_ct (fun k => gm_hour M 8 k = M 9 0 + 2) k) 0) ?_
          refine gk_istore (lv' := [(21, .int (nI ((gp_ct (fun k => gm_hour M 8 k = M 9 0 + 2) k) + 0))), (0, .ref b), (1, .ref g), (2, .ref a), (3, .int (nI t)), (4, .int x), (5, .int (nI nk)), (6, .int (nI nm)), (7, .ref rI), (10, .ref rL), (11, .ref rA), (12, .ref rO), (16, .int (nI (M 9 0))), (17, .int (nI (gm_hour M 16 0 - M 16 0))), (18, .int (nI (gp_dif M (gm_hour M) nk))), (19, .int (nI (gp_ct (fun k => gm_hour M 8 k = 0 ∧ gm_hour M 7 k = 0) nk))), (20, .int (nI (gp_ct (fun i => gm_who (gm_hour M) i (M 11 0) = 0) nm))), (22, .int (nI k))]) G dL_law_986 (by decide) rfl ?_
          refine gk_iinc (j := 17) (v := nI (k + 1)) (lv' := [(22, .int (nI (k + 1))), (21, .int (nI ((gp_ct (fun k => gm_hour M 8 k = M 9 0 + 2) k) + 0))), (0, .ref b), (1, .ref g), (2, .ref a), (3, .int (nI t)), (4, .int x), (5, .int (nI nk)), (6, .int (nI nm)), (7, .ref rI), (10, .ref rL), (11, .ref rA), (12, .ref rO), (16, .int (nI (M 9 0))), (17, .int (nI (gm_hour M 16 0 - M 16 0))), (18, .int (nI (gp_dif M (gm_hour M) nk))), (19, .int (nI (gp_ct (fun k => gm_hour M 8 k = 0 ∧ gm_hour M 7 k = 0) nk))), (20, .int (nI (gp_ct (fun i => gm_who (gm_hour M) i (M 11 0) = 0) nm)))]) G dL_law_988 rfl (nI_add k 1) (by decide) rfl ?_
          refine gk_goto (tgt := 958) G dL_law_991 (by decide) ?_
          have e21 : gp_ct (fun k => gm_hour M 8 k = M 9 0 + 2) (k + 1) = (gp_ct (fun k => gm_hour M 8 k = M 9 0 + 2) k) + 0 := by
            show gp_ct (fun k => gm_hour M 8 k = M 9 0 + 2) k + (if gm_hour M 8 k = M 9 0 + 2 then 1 else 0) = _
            first
            | (rw [if_pos hj]; done)
            | (rw [if_neg hj]; done)
          have t9 := ih (k + 1) u970 (by omega) (by omega) hr970
          rw [e21] at t9
          exact gk_lsub (lv' := [(0, .ref b), (1, .ref g), (2, .ref a), (3, .int (nI t)), (4, .int x), (5, .int (nI nk)), (6, .int (nI nm)), (7, .ref rI), (10, .ref rL), (11, .ref rA), (12, .ref rO), (16, .int (nI (M 9 0))), (17, .int (nI (gm_hour M 16 0 - M 16 0))), (18, .int (nI (gp_dif M (gm_hour M) nk))), (19, .int (nI (gp_ct (fun k => gm_hour M 8 k = 0 ∧ gm_hour M 7 k = 0) nk))), (20, .int (nI (gp_ct (fun i => gm_who (gm_hour M) i (M 11 0) = 0) nm))), (21, .int (nI ((gp_ct (fun k => gm_hour M 8 k = M 9 0 + 2) k) + 0))), (22, .int (nI (k + 1)))]) [2,3,4,5,6,7,8,9,10,11,12,13,14,15,16,17,1,0] rfl t9
        · have hj : gm_hour M 8 k = M 9 0 + 2 := (gm_e_inj (by omega) (by omega)).mp (c_977.trans (gm_eS _).symm)
          refine gk_iconst (v := nI 1) G dL_law_980 (by decide) ?_
          refine gk_goto (tgt := 985) G dL_law_981 (by decide) ?_
          refine gk_iadd (v := nI ((gp_ct (fun k => gm_hour M 8 k = M 9 0 + 2) k) + 1)) G dL_law_985 (nI_add (gp_ct (fun k => gm_hour M 8 k = M 9 0 + 2) k) 1) ?_
          refine gk_istore (lv' := [(21, .int (nI ((gp_ct (fun k => gm_hour M 8 k = M 9 0 + 2) k) + 1))), (0, .ref b), (1, .ref g), (2, .ref a), (3, .int (nI t)), (4, .int x), (5, .int (nI nk)), (6, .int (nI nm)), (7, .ref rI), (10, .ref rL), (11, .ref rA), (12, .ref rO), (16, .int (nI (M 9 0))), (17, .int (nI (gm_hour M 16 0 - M 16 0))), (18, .int (nI (gp_dif M (gm_hour M) nk))), (19, .int (nI (gp_ct (fun k => gm_hour M 8 k = 0 ∧ gm_hour M 7 k = 0) nk))), (20, .int (nI (gp_ct (fun i => gm_who (gm_hour M) i (M 11 0) = 0) nm))), (22, .int (nI k))]) G dL_law_986 (by decide) rfl ?_
          refine gk_iinc (j := 17) (v := nI (k + 1)) (lv' := [(22, .int (nI (k + 1))), (21, .int (nI ((gp_ct (fun k => gm_hour M 8 k = M 9 0 + 2) k) + 1))), (0, .ref b), (1, .ref g), (2, .ref a), (3, .int (nI t)), (4, .int x), (5, .int (nI nk)), (6, .int (nI nm)), (7, .ref rI), (10, .ref rL), (11, .ref rA), (12, .ref rO), (16, .int (nI (M 9 0))), (17, .int (nI (gm_hour M 16 0 - M 16 0))), (18, .int (nI (gp_dif M (gm_hour M) nk))), (19, .int (nI (gp_ct (fun k => gm_hour M 8 k = 0 ∧ gm_hour M 7 k = 0) nk))), (20, .int (nI (gp_ct (fun i => gm_who (gm_hour M) i (M 11 0) = 0) nm)))]) G dL_law_988 rfl (nI_add k 1) (by decide) rfl ?_
          refine gk_goto (tgt := 958) G dL_law_991 (by decide) ?_
          have e21 : gp_ct (fun k => gm_hour M 8 k = M 9 0 + 2) (k + 1) = (gp_ct (fun k => gm_hour M 8 k = M 9 0 + 2) k) + 1 := by
            show gp_ct (fun k => gm_hour M 8 k = M 9 0 + 2) k + (if gm_hour M 8 k = M 9 0 + 2 then 1 else 0) = _
            first
            | (rw [if_pos hj]; done)
            | (rw [if_neg hj]; done)
          have t9 := ih (k + 1) u970 (by omega) (by omega) hr970
          rw [e21] at t9
          exact gk_lsub (lv' := [(0, .ref b), (1, .ref g), (2, .ref a), (3, .int (nI t)), (4, .int x), (5, .int (nI nk)), (6, .int (nI nm)), (7, .ref rI), (10, .ref rL), (11, .ref rA), (12, .ref rO), (16, .int (nI (M 9 0))), (17, .int (nI (gm_hour M 16 0 - M 16 0))), (18, .int (nI (gp_dif M (gm_hour M) nk))), (19, .int (nI (gp_ct (fun k => gm_hour M 8 k = 0 ∧ gm_hour M 7 k = 0) nk))), (20, .int (nI (gp_ct (fun i => gm_who (gm_hour M) i (M 11 0) = 0) nm))), (21, .int (nI ((gp_ct (fun k => gm_hour M 8 k = M 9 0 + 2) k) + 1))), (22, .int (nI (k + 1)))]) [2,3,4,5,6,7,8,9,10,11,12,13,14,15,16,17,1,0] rfl t9
  refine gk_iconst (v := nI 0) G dL_law_955 (by decide) ?_
  refine gk_istore (lv' := [(22, .int (nI 0)), (0, .ref b), (1, .ref g), (2, .ref a), (3, .int (nI t)), (4, .int x), (5, .int (nI nk)), (6, .int (nI nm)), (7, .ref rI), (10, .ref rL), (11, .ref rA), (12, .ref rO), (16, .int (nI (M 9 0))), (17, .int (nI (gm_hour M 16 0 - M 16 0))), (18, .int (nI (gp_dif M (gm_hour M) nk))), (19, .int (nI (gp_ct (fun k => gm_hour M 8 k = 0 ∧ gm_hour M 7 k = 0) nk))), (20, .int (nI (gp_ct (fun i => gm_who (gm_hour M) i (M 11 0) = 0) nm))), (21, .int (nI 0))]) G dL_law_956 (by decide) rfl ?_
  exact gk_lsub (lv' := [(0, .ref b), (1, .ref g), (2, .ref a), (3, .int (nI t)), (4, .int x), (5, .int (nI nk)), (6, .int (nI nm)), (7, .ref rI), (10, .ref rL), (11, .ref rA), (12, .ref rO), (16, .int (nI (M 9 0))), (17, .int (nI (gm_hour M 16 0 - M 16 0))), (18, .int (nI (gp_dif M (gm_hour M) nk))), (19, .int (nI (gp_ct (fun k => gm_hour M 8 k = 0 ∧ gm_hour M 7 k = 0) nk))), (20, .int (nI (gp_ct (fun i => gm_who (gm_hour M) i (M 11 0) = 0) nm))), (21, .int (nI 0)), (22, .int (nI 0))]) [1,2,3,4,5,6,7,8,9,10,11,12,13,14,15,16,17,0] rfl (L958 (nk + 1) 0 u (by omega) (Nat.zero_le _) hr)
set_option maxRecDepth 100000 in
set_option maxHeartbeats 4000000 in
theorem la_11 {p : Program} {l : Launch} {e : Env} {s : State} {m : MethodId} {below : List Frame} {meth : Method} {c : Code} {D : va_G} {A : Nat → Prop} {Q : State → Prop} {cI cZ cJ : ClassId} {b L : Nat} {xs : Nat → Int32} {g h1 h2 : Nat} {q1 q2 : Nat → Nat} {u : gw_U} {a : Nat} {v : gp_Q} {M : gm_M} {x : Int32} {nm nk c0 s0 t : Nat} (G : gk_G p s m ([.ref b] : List Value).toArray meth c RL 23 cL_law (some .boolean) wsL_law D (g_T cI cZ cJ) A) (wf : gm_wf M) (hrest : gm_rest M) (hm : M 10 0 = nm) (hk : M 11 0 = nk) (hh : M 9 0 < 1900000) (hE : gp_L b L xs A s s.heap) (hc0 : c0 ≤ 100000) (hs0 : s0 ≤ 1000000) (rI rL rA rO : Nat) (fi fl ft fo : Nat → Int32) (hr : gc_rep u.1.1 u.1.2 (gm_hour M)) (K : gk_C p l e room_1 s m ([.ref b] : List Value).toArray below meth c 23 D A Q c0 s0 (gw_X cI cZ g h1 h2 q1 q2 u ++ (gp_U cI cJ a v)) [(0, .ref b), (1, .ref g), (2, .ref a), (3, .int (nI t))] 1015 []) : gk_C p l e room_1 s m ([.ref b] : List Value).toArray below meth c 23 D A Q c0 s0 ((gw_R cI rO nm fo ++ (gw_R cI rA nk ft ++ (gw_R cI rL nk fl ++ (gw_R cZ rI nk fi)))) ++ (gw_X cI cZ g h1 h2 q1 q2 u ++ (gp_U cI cJ a v))) [(0, .ref b), (1, .ref g), (2, .ref a), (3, .int (nI t)), (4, .int x), (5, .int (nI nk)), (6, .int (nI nm)), (7, .ref rI), (10, .ref rL), (11, .ref rA), (12, .ref rO), (16, .int (nI (M 9 0))), (17, .int (nI (gm_hour M 16 0 - M 16 0))), (18, .int (nI (gp_dif M (gm_hour M) nk))), (19, .int (nI (gp_ct (fun k => gm_hour M 8 k = 0 ∧ gm_hour M 7 k = 0) nk))), (20, .int (nI (gp_ct (fun i => gm_who (gm_hour M) i (M 11 0) = 0) nm))), (21, .int (nI (gp_ct (fun k => gm_hour M 8 k = M 9 0 + 2) nk)))] 994 [] := by
  obtain ⟨hz1, hz2, hz3, hz4, hz5, hz6, hz7, hz8⟩ := id wf
  have hun := gp_un_le M nk
  have wf2 := gm_hour_wf wf
  have rest2 := gm_hour_rest wf hrest
  have e11 : gm_hour M 11 0 = M 11 0 := gm_hour_ne M 0 (by decide) (by decide) (by decide) (by decide) (by decide) (by decide) (by decide)
  have e10 : gm_hour M 10 0 = M 10 0 := gm_hour_ne M 0 (by decide) (by decide) (by decide) (by decide) (by decide) (by decide) (by decide)
  have e9h := gm_hour_9 M
  have hc1 := gp_ct_le (fun k => gm_hour M 8 k = 0 ∧ gm_hour M 7 k = 0) nk
  have hc2 := gp_ct_le (fun i => gm_who (gm_hour M) i (M 11 0) = 0) nm
  have hc3 := gp_ct_le (fun k => gm_hour M 8 k = M 9 0 + 2) nk
  refine gk_iload G dL_law_994 13 rfl ?_
  refine gk_iload G dL_law_996 12 rfl ?_
  refine gk_icmp_ne (tgt := 1013) G dL_law_998 (by decide) (fun c_998 => ?_) (fun c_998 => ?_)
  · exact absurd (congrArg nI (by rw [← hk]; exact gp_dif_hour wf)) c_998
  · refine gk_iload G dL_law_1001 14 rfl ?_
    refine gk_if_le (tgt := 1015) G dL_law_1003 (by decide) (fun c_1003 => ?_) (fun c_1003 => ?_)
    · replace c_1003 := (nI_leI (a := gp_ct (fun k => gm_hour M 8 k = 0 ∧ gm_hour M 7 k = 0) nk) (b := 0) (by omega) (by omega)).mp c_1003
      refine gk_drop (w' := (gw_X cI cZ g h1 h2 q1 q2 u ++ (gp_U cI cJ a v))) (r := (gw_R cI rO nm fo ++ (gw_R cI rA nk ft ++ (gw_R cI rL nk fl ++ (gw_R cZ rI nk fi))))) (gk_pd _ _) ?_
      exact gk_lsub (lv' := [(0, .ref b), (1, .ref g), (2, .ref a), (3, .int (nI t))]) [0,1,2,3] rfl K
    · replace c_1003 := (not_congr (nI_leI (a := gp_ct (fun k => gm_hour M 8 k = 0 ∧ gm_hour M 7 k = 0) nk) (b := 0) (by omega) (by omega))).mp c_1003
      refine gk_iload G dL_law_1006 15 rfl ?_
      refine gk_iload G dL_law_1008 16 rfl ?_
      refine gk_icmp_le (tgt := 1015) G dL_law_1010 (by decide) (fun c_1010 => ?_) (fun c_1010 => ?_)
      · replace c_1010 := (nI_leI (a := gp_ct (fun i => gm_who (gm_hour M) i (M 11 0) = 0) nm) (b := gp_ct (fun k => gm_hour M 8 k = M 9 0 + 2) nk) (by omega) (by omega)).mp c_1010
        refine gk_drop (w' := (gw_X cI cZ g h1 h2 q1 q2 u ++ (gp_U cI cJ a v))) (r := (gw_R cI rO nm fo ++ (gw_R cI rA nk ft ++ (gw_R cI rL nk fl ++ (gw_R cZ rI nk fi))))) (gk_pd _ _) ?_
        exact gk_lsub (lv' := [(0, .ref b), (1, .ref g), (2, .ref a), (3, .int (nI t))]) [0,1,2,3] rfl K
      · replace c_1010 := (not_congr (nI_leI (a := gp_ct (fun i => gm_who (gm_hour M) i (M 11 0) = 0) nm) (b := gp_ct (fun k => gm_hour M 8 k = M 9 0 + 2) nk) (by omega) (by omega))).mp c_1010
        (have h9 := gp_empty wf (by rw [hk]; omega); rw [hm] at h9; have h8 : gp_ct (fun k => gm_hour M 8 k = M 9 0 + 2) (M 11 0) = gp_ct (fun k => gm_hour M 8 k = M 9 0 + 2) nk := congrArg (gp_ct (fun k => gm_hour M 8 k = M 9 0 + 2)) hk; omega)
