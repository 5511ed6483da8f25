set_option maxRecDepth 100000 in
set_option maxHeartbeats 4000000 in
theorem la_2i {p : Program} {l : Launch} {e : Env} {s : State} {m : MethodId} {below : List Frame} {meth : Method} {c : Code} {D : va_G} {A : Nat → Prop} {Q : State → Prop} {cI cZ cJ : ClassId} {b L : Nat} {xs : Nat → Int32} {g h1 h2 : Nat} {q1 q2 : Nat → Nat} {u : gw_U} {a : Nat} {v : gp_Q} {M : gm_M} {x : Int32} {nm nk c0 s0 t : Nat} (G : gk_G p s m ([.ref b] : List Value).toArray meth c RL 23 cL_law (some .boolean) wsL_law D (g_T cI cZ cJ) A) (wf : gm_wf M) (hrest : gm_rest M) (hm : M 10 0 = nm) (hk : M 11 0 = nk) (hh : M 9 0 < 1900000) (hE : gp_L b L xs A s s.heap) (hc0 : c0 ≤ 100000) (hs0 : s0 ≤ 1000000) (rI rL rA rO : Nat) (fi fl ft fo : Nat → Int32) (dn sm : Int32) (k : Nat) (hkn : k < nk) (h8k : M 8 k = 0) (hfl : ∀ j, j < k + 1 → fl j = nI (M 5 j)) (hr : gc_rep u.1.1 u.1.2 M) (K : ∀ u : gw_U, gc_rep u.1.1 u.1.2 M → gk_C p l e room_1 s m ([.ref b] : List Value).toArray below meth c 23 D A Q c0 s0 ((gw_R cI rO nm fo ++ (gw_R cI rA nk ft ++ (gw_R cI rL nk fl ++ (gw_R cZ rI nk fi)))) ++ (gw_X cI cZ g h1 h2 q1 q2 u ++ (gp_U cI cJ a v))) [(0, .ref b), (1, .ref g), (2, .ref a), (3, .int (nI t)), (4, .int x), (5, .int (nI nk)), (6, .int (nI nm)), (7, .ref rI), (10, .ref rL), (11, .ref rA), (12, .ref rO), (8, .int dn), (9, .int sm), (13, .int (nI k))] 461 []) : gk_C p l e room_1 s m ([.ref b] : List Value).toArray below meth c 23 D A Q c0 s0 ((gw_R cI rO nm fo ++ (gw_R cI rA nk ft ++ (gw_R cI rL nk fl ++ (gw_R cZ rI nk fi)))) ++ (gw_X cI cZ g h1 h2 q1 q2 u ++ (gp_U cI cJ a v))) [(0, .ref b), (1, .ref g), (2, .ref a), (3, .int (nI t)), (4, .int x), (5, .int (nI nk)), (6, .int (nI nm)), (7, .ref rI), (10, .ref rL), (11, .ref rA), (12, .ref rO), (8, .int dn), (9, .int sm), (13, .int (nI k)), (14, .int (nI (gm_cnt M k nk)))] 336 [] := by
  obtain ⟨hz1, hz2, hz3, hz4, hz5, hz6, hz7, hz8⟩ := id wf
  have hun := gp_un_le M nk
  have hck := gp_cnt_un M k nk
  have L339 : ∀ (n : Nat) (i : Nat) (u : gw_U), k - i < n → (i ≤ k) → (gc_rep u.1.1 u.1.2 M) → gk_C p l e room_1 s m ([.ref b] : List Value).toArray below meth c 23 D A Q c0 s0 ((gw_R cI rO nm fo ++ (gw_R cI rA nk ft ++ (gw_R cI rL nk fl ++ (gw_R cZ rI nk fi)))) ++ (gw_X cI cZ g h1 h2 q1 q2 u ++ (gp_U cI cJ a v))) [(0, .ref b), (1, .ref g), (2, .ref a), (3, .int (nI t)), (4, .int x), (5, .int (nI nk)), (6, .int (nI nm)), (7, .ref rI), (10, .ref rL), (11, .ref rA), (12, .ref rO), (8, .int dn), (9, .int sm), (13, .int (nI k)), (14, .int (nI (gm_cnt M k nk))), (17, .int (nI i))] 339 [] := by
    intro n
    induction n with
    | zero => intro i u h0; exact absurd h0 (Nat.not_lt_zero _)
    | succ n ih =>
      intro i u h0 w0 w1
      refine gk_iload G dL_law_339 15 rfl ?_
      refine gk_iload G dL_law_341 13 rfl ?_
      refine gk_icmp_ge (tgt := 461) G dL_law_343 (by decide) (fun c_343 => ?_) (fun c_343 => ?_)
      · replace c_343 := (nI_leI (a := k) (b := i) (by omega) (by omega)).mp c_343
        exact gk_lsub (lv' := [(0, .ref b), (1, .ref g), (2, .ref a), (3, .int (nI t)), (4, .int x), (5, .int (nI nk)), (6, .int (nI nm)), (7, .ref rI), (10, .ref rL), (11, .ref rA), (12, .ref rO), (8, .int dn), (9, .int sm), (13, .int (nI k))]) [0,1,2,3,4,5,6,7,8,9,10,11,12,13] rfl (K u w1)
      · replace c_343 := (not_congr (nI_leI (a := k) (b := i) (by omega) (by omega))).mp c_343
        have h7i := hz7 i (by omega)
        have hci := gp_cnt_un M i nk
        have hci2 := gp_cnt_un M i (M 11 0)
        have hun2 := gp_un_le M (M 11 0)
        refine gk_aload_n G dL_law_346 1 rfl ?_
        refine gk_iload G dL_law_347 15 rfl ?_
        refine gq_placeOf_ok (Y := (gw_R cI rO nm fo ++ (gw_R cI rA nk ft ++ (gw_R cI rL nk fl ++ (gw_R cZ rI nk fi))))) G gL_law_X1_placeOf hE.1.1 ⟨(Nat.le_of_ble_eq_true rfl), (Nat.le_of_ble_eq_true rfl)⟩ ⟨by show c0 ≤ 600130; omega, by show s0 ≤ 7301080; omega⟩ i wf w1 hrest (by omega) (Nat.le_of_ble_eq_true rfl) dL_law_349 (fun u349 hr349 => ?_)
        show gk_C p l e room_1 s m ([.ref b] : List Value).toArray below meth c 23 D A Q c0 s0 ((gw_R cI rO nm fo ++ (gw_R cI rA nk ft ++ (gw_R cI rL nk fl ++ (gw_R cZ rI nk fi)))) ++ (gw_X cI cZ g h1 h2 q1 q2 u349 ++ (gp_U cI cJ a v))) [(0, .ref b), (1, .ref g), (2, .ref a), (3, .int (nI t)), (4, .int x), (5, .int (nI nk)), (6, .int (nI nm)), (7, .ref rI), (10, .ref rL), (11, .ref rA), (12, .ref rO), (8, .int dn), (9, .int sm), (13, .int (nI k)), (14, .int (nI (gm_cnt M k nk))), (17, .int (nI i))] 352 [.int (gm_plc M i)]
        refine gk_if_ge (tgt := 358) G dL_law_352 (by decide) (fun c_352 => ?_) (fun c_352 => ?_)
        · have h8i := (gp_plc_ge (by omega)).mp c_352
          have hah := gp_ahead hz3 (show i < k by omega) hkn (by omega) h8i h8k
          refine gk_aload_n G dL_law_358 1 rfl ?_
          refine gq_rule (Y := (gw_R cI rO nm fo ++ (gw_R cI rA nk ft ++ (gw_R cI rL nk fl ++ (gw_R cZ rI nk fi))))) G gL_law_X1_rule hE.1.1 ⟨(Nat.le_of_ble_eq_true rfl), (Nat.le_of_ble_eq_true rfl)⟩ ⟨by show c0 ≤ 600130; omega, by show s0 ≤ 7301080; omega⟩ wf hr349 (Nat.le_of_ble_eq_true rfl) dL_law_359 (fun u359 hr359 => ?_)
          show gk_C p l e room_1 s m ([.ref b] : List Value).toArray below meth c 23 D A Q c0 s0 ((gw_R cI rO nm fo ++ (gw_R cI rA nk ft ++ (gw_R cI rL nk fl ++ (gw_R cZ rI nk fi)))) ++ (gw_X cI cZ g h1 h2 q1 q2 u359 ++ (gp_U cI cJ a v))) [(0, .ref b), (1, .ref g), (2, .ref a), (3, .int (nI t)), (4, .int x), (5, .int (nI nk)), (6, .int (nI nm)), (7, .ref rI), (10, .ref rL), (11, .ref rA), (12, .ref rO), (8, .int dn), (9, .int sm), (13, .int (nI k)), (14, .int (nI (gm_cnt M k nk))), (17, .int (nI i))] 362 [.int (nI (M 14 0))]
          refine gk_iconst (v := nI 1) G dL_law_362 (by decide) ?_
          refine gk_icmp_ne (tgt := 404) G dL_law_363 (by decide) (fun c_363 => ?_) (fun c_363 => ?_)
          · replace c_363 := (not_congr (nI_eq (a := M 14 0) (b := 1) (by omega) (by omega))).mp c_363
            refine gk_aload_n G dL_law_404 1 rfl ?_
            refine gq_rule (Y := (gw_R cI rO nm fo ++ (gw_R cI rA nk ft ++ (gw_R cI rL nk fl ++ (gw_R cZ rI nk fi))))) G gL_law_X1_rule hE.1.1 ⟨(Nat.le_of_ble_eq_true rfl), (Nat.le_of_ble_eq_true rfl)⟩ ⟨by show c0 ≤ 600130; omega, by show s0 ≤ 7301080; omega⟩ wf hr359 (Nat.le_of_ble_eq_true rfl) dL_law_405 (fun u405 hr405 => ?_)
            show gk_C p l e room_1 s m ([.ref b] : List Value).toArray below meth c 23 D A Q c0 s0 ((gw_R cI rO nm fo ++ (gw_R cI rA nk ft ++ (gw_R cI rL nk fl ++ (gw_R cZ rI nk fi)))) ++ (gw_X cI cZ g h1 h2 q1 q2 u405 ++ (gp_U cI cJ a v))) [(0, .ref b), (1, .ref g), (2, .ref a), (3, .int (nI t)), (4, .int x), (5, .int (nI nk)), (6, .int (nI nm)), (7, .ref rI), (10, .ref rL), (11, .ref rA), (12, .ref rO), (8, .int dn), (9, .int sm), (13, .int (nI k)), (14, .int (nI (gm_cnt M k nk))), (17, .int (nI i))] 408 [.int (nI (M 14 0))]
            refine gk_iconst (v := nI 2) G dL_law_408 (by decide) ?_
            refine gk_icmp_ne (tgt := 425) G dL_law_409 (by decide) (fun c_409 => ?_) (fun c_409 => ?_)
            · replace c_409 := (not_congr (nI_eq (a := M 14 0) (b := 2) (by omega) (by omega))).mp c_409
              refine gk_iconst (v := nI 1) G dL_law_425 (by decide) ?_
              refine gk_goto (tgt := 430) G dL_law_426 (by decide) ?_
              refine gk_istore (lv' := [(18, .int (nI 1)), (0, .ref b), (1, .ref g), (2, .ref a), (3, .int (nI t)), (4, .int x), (5, .int (nI nk)), (6, .int (nI nm)), (7, .ref rI), (10, .ref rL), (11, .ref rA), (12, .ref rO), (8, .int dn), (9, .int sm), (13, .int (nI k)), (14, .int (nI (gm_cnt M k nk))), (17, .int (nI i))]) G dL_law_430 (by decide) rfl ?_
              refine gk_iload G dL_law_432 0 rfl ?_
              refine gk_aload_n G dL_law_434 2 rfl ?_
              refine gk_iload G dL_law_435 16 rfl ?_
              refine gq_placeOf_ok (Y := (gw_R cI rO nm fo ++ (gw_R cI rA nk ft ++ (gw_R cI rL nk fl ++ (gw_R cZ rI nk fi))))) G gL_law_X1_placeOf hE.1.1 ⟨(Nat.le_of_ble_eq_true rfl), (Nat.le_of_ble_eq_true rfl)⟩ ⟨by show c0 ≤ 600130; omega, by show s0 ≤ 7301080; omega⟩ i wf hr405 hrest (by omega) (Nat.le_of_ble_eq_true rfl) dL_law_437 (fun u437 hr437 => ?_)
              rw [show gm_plc M i = nI (gm_cnt M i nk) by unfold gm_plc; rw [if_pos h8i, hk]]
              show gk_C p l e room_1 s m ([.ref b] : List Value).toArray below meth c 23 D A Q c0 s0 ((gw_R cI rO nm fo ++ (gw_R cI rA nk ft ++ (gw_R cI rL nk fl ++ (gw_R cZ rI nk fi)))) ++ (gw_X cI cZ g h1 h2 q1 q2 u437 ++ (gp_U cI cJ a v))) [(18, .int (nI 1)), (0, .ref b), (1, .ref g), (2, .ref a), (3, .int (nI t)), (4, .int x), (5, .int (nI nk)), (6, .int (nI nm)), (7, .ref rI), (10, .ref rL), (11, .ref rA), (12, .ref rO), (8, .int dn), (9, .int sm), (13, .int (nI k)), (14, .int (nI (gm_cnt M k nk))), (17, .int (nI i))] 440 [.int (nI (gm_cnt M i nk)), .int (nI 1)]
              refine gk_iload G dL_law_440 15 rfl ?_
              refine gk_icmp_ge (tgt := 449) G dL_law_442 (by decide) (fun c_442 => ?_) (fun c_442 => ?_)
              · replace c_442 := (nI_leI (a := gm_cnt M k nk) (b := gm_cnt M i nk) (by omega) (by omega)).mp c_442
                refine gk_iconst (v := nI 0) G dL_law_449 (by decide) ?_
                refine gk_icmp_eq (tgt := 455) G dL_law_450 (by decide) (fun c_450 => ?_) (fun c_450 => ?_)
                · exact absurd c_450 (by decide)
                · (exfalso; split at hah <;> omega)
              · replace c_442 := (not_congr (nI_leI (a := gm_cnt M k nk) (b := gm_cnt M i nk) (by omega) (by omega))).mp c_442
                refine gk_iconst (v := nI 1) G dL_law_445 (by decide) ?_
                refine gk_goto (tgt := 450) G dL_law_446 (by decide) ?_
                refine gk_icmp_eq (tgt := 455) G dL_law_450 (by decide) (fun c_450 => ?_) (fun c_450 => ?_)
                · refine gk_iinc (j := 16) (v := nI (i + 1)) (lv' := [(17, .int (nI (i + 1))), (18, .int (nI 1)), (0, .ref b), (1, .ref g), (2, .ref a), (3, .int (nI t)), (4, .int x), (5, .int (nI nk)), (6, .int (nI nm)), (7, .ref rI), (10, .ref rL), (11, .ref rA), (12, .ref rO), (8, .int dn), (9, .int sm), (13, .int (nI k)), (14, .int (nI (gm_cnt M k nk)))]) G dL_law_455 rfl (nI_add i 1) (by decide) rfl ?_
                  refine gk_goto (tgt := 339) G dL_law_458 (by decide) ?_
                  exact gk_lsub (lv' := [(0, .ref b), (1, .ref g), (2, .ref a), (3, .int (nI t)), (4, .int x), (5, .int (nI nk)), (6, .int (nI nm)), (7, .ref rI), (10, .ref rL), (11, .ref rA), (12, .ref rO), (8, .int dn), (9, .int sm), (13, .int (nI k)), (14, .int (nI (gm_cnt M k nk))), (17, .int (nI (i + 1)))]) [2,3,4,5,6,7,8,9,10,11,12,13,14,15,16,0] rfl (ih (i + 1) u437 (by omega) (by omega) hr437)
                · exact absurd c_450 (by decide)
            · replace c_409 := (nI_eq (a := M 14 0) (b := 2) (by omega) (by omega)).mp c_409
              have h7k := hz7 k (by omega)
              refine gk_aload G dL_law_412 8 rfl ?_
              refine gk_iload G dL_law_414 15 rfl ?_
              refine gk_iald (v := nI (M 5 i)) G (q0 := 2) (t0 := 0) rfl rfl i rfl (by omega) (by omega) (hfl i (by omega)) dL_law_416 ?_
              refine gk_aload G dL_law_417 8 rfl ?_
              refine gk_iload G dL_law_419 13 rfl ?_
              refine gk_iald (v := nI (M 5 k)) G (q0 := 2) (t0 := 0) rfl rfl k rfl (by omega) (by omega) (hfl k (by omega)) dL_law_421 ?_
              refine gk_icmp_gt (tgt := 429) G dL_law_422 (by decide) (fun c_422 => ?_) (fun c_422 => ?_)
              · replace c_422 := (nI_ltI (a := M 5 k) (b := M 5 i) (by omega) (by omega)).mp c_422
                refine gk_iconst (v := nI 0) G dL_law_429 (by decide) ?_
                refine gk_istore (lv' := [(18, .int (nI 0)), (0, .ref b), (1, .ref g), (2, .ref a), (3, .int (nI t)), (4, .int x), (5, .int (nI nk)), (6, .int (nI nm)), (7, .ref rI), (10, .ref rL), (11, .ref rA), (12, .ref rO), (8, .int dn), (9, .int sm), (13, .int (nI k)), (14, .int (nI (gm_cnt M k nk))), (17, .int (nI i))]) G dL_law_430 (by decide) rfl ?_
                refine gk_iload G dL_law_432 0 rfl ?_
                refine gk_aload_n G dL_law_434 2 rfl ?_
                refine gk_iload G dL_law_435 16 rfl ?_
                refine gq_placeOf_ok (Y := (gw_R cI rO nm fo ++ (gw_R cI rA nk ft ++ (gw_R cI rL nk fl ++ (gw_R cZ rI nk fi))))) G gL_law_X1_placeOf hE.1.1 ⟨(Nat.le_of_ble_eq_true rfl), (Nat.le_of_ble_eq_true rfl)⟩ ⟨by show c0 ≤ 600130; omega, by show s0 ≤ 7301080; omega⟩ i wf hr405 hrest (by omega) (Nat.le_of_ble_eq_true rfl) dL_law_437 (fun u437 hr437 => ?_)
                rw [show gm_plc M i = nI (gm_cnt M i nk) by unfold gm_plc; rw [if_pos h8i, hk]]
                show gk_C p l e room_1 s m ([.ref b] : List Value).toArray below meth c 23 D A Q c0 s0 ((gw_R cI rO nm fo ++ (gw_R cI rA nk ft ++ (gw_R cI rL nk fl ++ (gw_R cZ rI nk fi)))) ++ (gw_X cI cZ g h1 h2 q1 q2 u437 ++ (gp_U cI cJ a v))) [(18, .int (nI 0)), (0, .ref b), (1, .ref g), (2, .ref a), (3, .int (nI t)), (4, .int x), (5, .int (nI nk)), (6, .int (nI nm)), (7, .ref rI), (10, .ref rL), (11, .ref rA), (12, .ref rO), (8, .int dn), (9, .int sm), (13, .int (nI k)), (14, .int (nI (gm_cnt M k nk))), (17, .int (nI i))] 440 [.int (nI (gm_cnt M i nk)), .int (nI 0)]
                refine gk_iload G dL_law_440 15 rfl ?_
                refine gk_icmp_ge (tgt := 449) G dL_law_442 (by decide) (fun c_442 => ?_) (fun c_442 => ?_)
                · replace c_442 := (nI_leI (a := gm_cnt M k nk) (b := gm_cnt M i nk) (by omega) (by omega)).mp c_442
                  refine gk_iconst (v := nI 0) G dL_law_449 (by decide) ?_
                  refine gk_icmp_eq (tgt := 455) G dL_law_450 (by decide) (fun c_450 => ?_) (fun c_450 => ?_)
                  · refine gk_iinc (j := 16) (v := nI (i + 1)) (lv' := [(17, .int (nI (i + 1))), (18, .int (nI 0)), (0, .ref b), (1, .ref g), (2, .ref a), (3, .int (nI t)), (4, .int x), (5, .int (nI nk)), (6, .int (nI nm)), (7, .ref rI), (10, .ref rL), (11, .ref rA), (12, .ref rO), (8, .int dn), (9, .int sm), (13, .int (nI k)), (14, .int (nI (gm_cnt M k nk)))]) G dL_law_455 rfl (nI_add i 1) (by decide) rfl ?_
                    refine gk_goto (tgt := 339) G dL_law_458 (by decide) ?_
                    exact gk_lsub (lv' := [(0, .ref b), (1, .ref g), (2, .ref a), (3, .int (nI t)), (4, .int x), (5, .int (nI nk)), (6, .int (nI nm)), (7, .ref rI), (10, .ref rL), (11, .ref rA), (12, .ref rO), (8, .int dn), (9, .int sm), (13, .int (nI k)), (14, .int (nI (gm_cnt M k nk))), (17, .int (nI (i + 1)))]) [2,3,4,5,6,7,8,9,10,11,12,13,14,15,16,0] rfl (ih (i + 1) u437 (by omega) (by omega) hr437)
                  · exact absurd c_450 (by decide)
                · replace c_442 := (not_congr (nI_leI (a := gm_cnt M k nk) (b := gm_cnt M i nk) (by omega) (by omega))).mp c_442
                  refine gk_iconst (v := nI 1) G dL_law_445 (by decide) ?_
                  refine gk_goto (tgt := 450) G dL_law_446 (by decide) ?_
                  refine gk_icmp_eq (tgt := 455) G dL_law_450 (by decide) (fun c_450 => ?_) (fun c_450 => ?_)
                  · exact absurd c_450 (by decide)
                  · (exfalso; split at hah <;> omega)
              · replace c_422 := (not_congr (nI_ltI (a := M 5 k) (b := M 5 i) (by omega) (by omega))).mp c_422
                refine gk_iconst (v := nI 1) G dL_law_425 (by decide) ?_
                refine gk_goto (tgt := 430) G dL_law_426 (by decide) ?_
                refine gk_istore (lv' := [(18, .int (nI 1)), (0, .ref b), (1, .ref g), (2, .ref a), (3, .int (nI t)), (4, .int x), (5, .int (nI nk)), (6, .int (nI nm)), (7, .ref rI), (10, .ref rL), (11, .ref rA), (12, .ref rO), (8, .int dn), (9, .int sm), (13, .int (nI k)), (14, .int (nI (gm_cnt M k nk))), (17, .int (nI i))]) G dL_law_430 (by decide) rfl ?_
                refine gk_iload G dL_law_432 0 rfl ?_
                refine gk_aload_n G dL_law_434 2 rfl ?_
                refine gk_iload G dL_law_435 16 rfl ?_
                refine gq_placeOf_ok (Y := (gw_R cI rO nm fo ++ (gw_R cI rA nk ft ++ (gw_R cI rL nk fl ++ (gw_R cZ rI nk fi))))) G gL_law_X1_placeOf hE.1.1 ⟨(Nat.le_of_ble_eq_true rfl), (Nat.le_of_ble_eq_true rfl)⟩ ⟨by show c0 ≤ 600130; omega, by show s0 ≤ 7301080; omega⟩ i wf hr405 hrest (by omega) (Nat.le_of_ble_eq_true rfl) dL_law_437 (fun u437 hr437 => ?_)
                rw [show gm_plc M i = nI (gm_cnt M i nk) by unfold gm_plc; rw [if_pos h8i, hk]]
                show gk_C p l e room_1 s m ([.ref b] : List Value).toArray below meth c 23 D A Q c0 s0 ((gw_R cI rO nm fo ++ (gw_R cI rA nk ft ++ (gw_R cI rL nk fl ++ (gw_R cZ rI nk fi)))) ++ (gw_X cI cZ g h1 h2 q1 q2 u437 ++ (gp_U cI cJ a v))) [(18, .int (nI 1)), (0, .ref b), (1, .ref g), (2, .ref a), (3, .int (nI t)), (4, .int x), (5, .int (nI nk)), (6, .int (nI nm)), (7, .ref rI), (10, .ref rL), (11, .ref rA), (12, .ref rO), (8, .int dn), (9, .int sm), (13, .int (nI k)), (14, .int (nI (gm_cnt M k nk))), (17, .int (nI i))] 440 [.int (nI (gm_cnt M i nk)), .int (nI 1)]
                refine gk_iload G dL_law_440 15 rfl ?_
                refine gk_icmp_ge (tgt := 449) G dL_law_442 (by decide) (fun c_442 => ?_) (fun c_442 => ?_)
                · replace c_442 := (nI_leI (a := gm_cnt M k nk) (b := gm_cnt M i nk) (by omega) (by omega)).mp c_442
                  refine gk_iconst (v := nI 0) G dL_law_449 (by decide) ?_
                  refine gk_icmp_eq (tgt := 455) G dL_law_450 (by decide) (fun c_450 => ?_) (fun c_450 => ?_)
                  · exact absurd c_450 (by decide)
                  · (exfalso; split at hah <;> omega)
                · replace c_442 := (not_congr (nI_leI (a := gm_cnt M k nk) (b := gm_cnt M i nk) (by omega) (by omega))).mp c_442
                  refine gk_iconst (v := nI 1) G dL_law_445 (by decide) ?_
                  refine gk_goto (tgt := 450) G dL_law_446 (by decide) ?_
                  refine gk_icmp_eq (tgt := 455) G dL_law_450 (by decide) (fun c_450 => ?_) (fun c_450 => ?_)
                  · refine gk_iinc (j := 16) (v := nI (i + 1)) (lv' := [(17, .int (nI (i + 1))), (18, .int (nI 1)), (0, .ref b), (1, .ref g), (2, .ref a), (3, .int (nI t)), (4, .int x), (5, .int (nI nk)), (6, .int (nI nm)), (7, .ref rI), (10, .ref rL), (11, .ref rA), (12, .ref rO), (8, .int dn), (9, .int sm), (13, .int (nI k)), (14, .int (nI (gm_cnt M k nk)))]) G dL_law_455 rfl (nI_add i 1) (by decide) rfl ?_
                    refine gk_goto (tgt := 339) G dL_law_458 (by decide) ?_
                    exact gk_lsub (lv' := [(0, .ref b), (1, .ref g), (2, .ref a), (3, .int (nI t)), (4, .int x), (5, .int (nI nk)), (6, .int (nI nm)), (7, .ref rI), (10, .ref rL), (11, .ref rA), (12, .ref rO), (8, .int dn), (9, .int sm), (13, .int (nI k)), (14, .int (nI (gm_cnt M k nk))), (17, .int (nI (i + 1)))]) [2,3,4,5,6,7,8,9,10,11,12,13,14,15,16,0] rfl (ih (i + 1) u437 (by omega) (by omega) hr437)
                  · exact absurd c_450 (by decide)
          · replace c_363 := (nI_eq (a := M 14 0) (b := 1) (by omega) (by omega)).mp c_363
            have h7k := hz7 k (by omega)
            refine gk_aload_n G dL_law_366 1 rfl ?_
            refine gk_iload G dL_law_367 15 rfl ?_
            refine gq_untilOf_ok (Y := (gw_R cI rO nm fo ++ (gw_R cI rA nk ft ++ (gw_R cI rL nk fl ++ (gw_R cZ rI nk fi))))) G gL_law_X1_untilOf hE.1.1 ⟨(Nat.le_of_ble_eq_true rfl), (Nat.le_of_ble_eq_true rfl)⟩ ⟨by show c0 ≤ 600130; omega, by show s0 ≤ 7301080; omega⟩ i wf hr359 (by omega) (Nat.le_of_ble_eq_true rfl) dL_law_369 (fun u369 hr369 => ?_)
            show gk_C p l e room_1 s m ([.ref b] : List Value).toArray below meth c 23 D A Q c0 s0 ((gw_R cI rO nm fo ++ (gw_R cI rA nk ft ++ (gw_R cI rL nk fl ++ (gw_R cZ rI nk fi)))) ++ (gw_X cI cZ g h1 h2 q1 q2 u369 ++ (gp_U cI cJ a v))) [(0, .ref b), (1, .ref g), (2, .ref a), (3, .int (nI t)), (4, .int x), (5, .int (nI nk)), (6, .int (nI nm)), (7, .ref rI), (10, .ref rL), (11, .ref rA), (12, .ref rO), (8, .int dn), (9, .int sm), (13, .int (nI k)), (14, .int (nI (gm_cnt M k nk))), (17, .int (nI i))] 372 [.int (nI (M 6 i))]
            refine gk_aload_n G dL_law_372 1 rfl ?_
            refine gk_iload G dL_law_373 13 rfl ?_
            refine gq_untilOf_ok (Y := (gw_R cI rO nm fo ++ (gw_R cI rA nk ft ++ (gw_R cI rL nk fl ++ (gw_R cZ rI nk fi))))) G gL_law_X1_untilOf hE.1.1 ⟨(Nat.le_of_ble_eq_true rfl), (Nat.le_of_ble_eq_true rfl)⟩ ⟨by show c0 ≤ 600130; omega, by show s0 ≤ 7301080; omega⟩ k wf hr369 (by omega) (Nat.le_of_ble_eq_true rfl) dL_law_375 (fun u375 hr375 => ?_)
            show gk_C p l e room_1 s m ([.ref b] : List Value).toArray below meth c 23 D A Q c0 s0 ((gw_R cI rO nm fo ++ (gw_R cI rA nk ft ++ (gw_R cI rL nk fl ++ (gw_R cZ rI nk fi)))) ++ (gw_X cI cZ g h1 h2 q1 q2 u375 ++ (gp_U cI cJ a v))) [(0, .ref b), (1, .ref g), (2, .ref a), (3, .int (nI t)), (4, .int x), (5, .int (nI nk)), (6, .int (nI nm)), (7, .ref rI), (10, .ref rL), (11, .ref rA), (12, .ref rO), (8, .int dn), (9, .int sm), (13, .int (nI k)), (14, .int (nI (gm_cnt M k nk))), (17, .int (nI i))] 378 [.int (nI (M 6 k)), .int (nI (M 6 i))]
            refine gk_icmp_eq (tgt := 404) G dL_law_378 (by decide) (fun c_378 => ?_) (fun c_378 => ?_)
            · replace c_378 := (nI_eq (a := M 6 i) (b := M 6 k) (by omega) (by omega)).mp c_378
              refine gk_aload_n G dL_law_404 1 rfl ?_
              refine gq_rule (Y := (gw_R cI rO nm fo ++ (gw_R cI rA nk ft ++ (gw_R cI rL nk fl ++ (gw_R cZ rI nk fi))))) G gL_law_X1_rule hE.1.1 ⟨(Nat.le_of_ble_eq_true rfl), (Nat.le_of_ble_eq_true rfl)⟩ ⟨by show c0 ≤ 600130; omega, by show s0 ≤ 7301080; omega⟩ wf hr375 (Nat.le_of_ble_eq_true rfl) dL_law_405 (fun u405 hr405 => ?_)
              show gk_C p l e room_1 s m ([.ref b] : List Value).toArray below meth c 23 D A Q c0 s0 ((gw_R cI rO nm fo ++ (gw_R cI rA nk ft ++ (gw_R cI rL nk fl ++ (gw_R cZ rI nk fi)))) ++ (gw_X cI cZ g h1 h2 q1 q2 u405 ++ (gp_U cI cJ a v))) [(0, .ref b), (1, .ref g), (2, .ref a), (3, .int (nI t)), (4, .int x), (5, .int (nI nk)), (6, .int (nI nm)), (7, .ref rI), (10, .ref rL), (11, .ref rA), (12, .ref rO), (8, .int dn), (9, .int sm), (13, .int (nI k)), (14, .int (nI (gm_cnt M k nk))), (17, .int (nI i))] 408 [.int (nI (M 14 0))]
              refine gk_iconst (v := nI 2) G dL_law_408 (by decide) ?_
              refine gk_icmp_ne (tgt := 425) G dL_law_409 (by decide) (fun c_409 => ?_) (fun c_409 => ?_)
              · replace c_409 := (not_congr (nI_eq (a := M 14 0) (b := 2) (by omega) (by omega))).mp c_409
                refine gk_iconst (v := nI 1) G dL_law_425 (by decide) ?_
                refine gk_goto (tgt := 430) G dL_law_426 (by decide) ?_
                refine gk_istore (lv' := [(18, .int (nI 1)), (0, .ref b), (1, .ref g), (2, .ref a), (3, .int (nI t)), (4, .int x), (5, .int (nI nk)), (6, .int (nI nm)), (7, .ref rI), (10, .ref rL), (11, .ref rA), (12, .ref rO), (8, .int dn), (9, .int sm), (13, .int (nI k)), (14, .int (nI (gm_cnt M k nk))), (17, .int (nI i))]) G dL_law_430 (by decide) rfl ?_
                refine gk_iload G dL_law_432 0 rfl ?_
                refine gk_aload_n G dL_law_434 2 rfl ?_
                refine gk_iload G dL_law_435 16 rfl ?_
                refine gq_placeOf_ok (Y := (gw_R cI rO nm fo ++ (gw_R cI rA nk ft ++ (gw_R cI rL nk fl ++ (gw_R cZ rI nk fi))))) G gL_law_X1_placeOf hE.1.1 ⟨(Nat.le_of_ble_eq_true rfl), (Nat.le_of_ble_eq_true rfl)⟩ ⟨by show c0 ≤ 600130; omega, by show s0 ≤ 7301080; omega⟩ i wf hr405 hrest (by omega) (Nat.le_of_ble_eq_true rfl) dL_law_437 (fun u437 hr437 => ?_)
                rw [show gm_plc M i = nI (gm_cnt M i nk) by unfold gm_plc; rw [if_pos h8i, hk]]
                show gk_C p l e room_1 s m ([.ref b] : List Value).toArray below meth c 23 D A Q c0 s0 ((gw_R cI rO nm fo ++ (gw_R cI rA nk ft ++ (gw_R cI rL nk fl ++ (gw_R cZ rI nk fi)))) ++ (gw_X cI cZ g h1 h2 q1 q2 u437 ++ (gp_U cI cJ a v))) [(18, .int (nI 1)), (0, .ref b), (1, .ref g), (2, .ref a), (3, .int (nI t)), (4, .int x), (5, .int (nI nk)), (6, .int (nI nm)), (7, .ref rI), (10, .ref rL), (11, .ref rA), (12, .ref rO), (8, .int dn), (9, .int sm), (13, .int (nI k)), (14, .int (nI (gm_cnt M k nk))), (17, .int (nI i))] 440 [.int (nI (gm_cnt M i nk)), .int (nI 1)]
                refine gk_iload G dL_law_440 15 rfl ?_
                refine gk_icmp_ge (tgt := 449) G dL_law_442 (by decide) (fun c_442 => ?_) (fun c_442 => ?_)
                · replace c_442 := (nI_leI (a := gm_cnt M k nk) (b := gm_cnt M i nk) (by omega) (by omega)).mp c_442
                  refine gk_iconst (v := nI 0) G dL_law_449 (by decide) ?_
                  refine gk_icmp_eq (tgt := 455) G dL_law_450 (by decide) (fun c_450 => ?_) (fun c_450 => ?_)
                  · exact absurd c_450 (by decide)
                  · (exfalso; split at hah <;> omega)
                · replace c_442 := (not_congr (nI_leI (a := gm_cnt M k nk) (b := gm_cnt M i nk) (by omega) (by omega))).mp c_442
                  refine gk_iconst (v := nI 1) G dL_law_445 (by decide) ?_
                  refine gk_goto (tgt := 450) G dL_law_446 (by decide) ?_
                  refine gk_icmp_eq (tgt := 455) G dL_law_450 (by decide) (fun c_450 => ?_) (fun c_450 => ?_)
                  · refine gk_iinc (j := 16) (v := nI (i + 1)) (lv' := [(17, .int (nI (i + 1))), (18, .int (nI 1)), (0, .ref b), (1, .ref g), (2, .ref a), (3, .int (nI t)), (4, .int x), (5, .int (nI nk)), (6, .int (nI nm)), (7, .ref rI), (10, .ref rL), (11, .ref rA), (12, .ref rO), (8, .int dn), (9, .int sm), (13, .int (nI k)), (14, .int (nI (gm_cnt M k nk)))]) G dL_law_455 rfl (nI_add i 1) (by decide) rfl ?_
                    refine gk_goto (tgt := 339) G dL_law_458 (by decide) ?_
                    exact gk_lsub (lv' := [(0, .ref b), (1, .ref g), (2, .ref a), (3, .int (nI t)), (4, .int x), (5, .int (nI nk)), (6, .int (nI nm)), (7, .ref rI), (10, .ref rL), (11, .ref rA), (12, .ref rO), (8, .int dn), (9, .int sm), (13, .int (nI k)), (14, .int (nI (gm_cnt M k nk))), (17, .int (nI (i + 1)))]) [2,3,4,5,6,7,8,9,10,11,12,13,14,15,16,0] rfl (ih (i + 1) u437 (by omega) (by omega) hr437)
                  · exact absurd c_450 (by decide)
              · replace c_409 := (nI_eq (a := M 14 0) (b := 2) (by omega) (by omega)).mp c_409
                have h7k := hz7 k (by omega)
                refine gk_aload G dL_law_412 8 rfl ?_
                refine gk_iload G dL_law_414 15 rfl ?_
                refine gk_iald (v := nI (M 5 i)) G (q0 := 2) (t0 := 0) rfl rfl i rfl (by omega) (by omega) (hfl i (by omega)) dL_law_416 ?_
                refine gk_aload G dL_law_417 8 rfl ?_
                refine gk_iload G dL_law_419 13 rfl ?_
                refine gk_iald (v := nI (M 5 k)) G (q0 := 2) (t0 := 0) rfl rfl k rfl (by omega) (by omega) (hfl k (by omega)) dL_law_421 ?_
                refine gk_icmp_gt (tgt := 429) G dL_law_422 (by decide) (fun c_422 => ?_) (fun c_422 => ?_)
                · replace c_422 := (nI_ltI (a := M 5 k) (b := M 5 i) (by omega) (by omega)).mp c_422
                  refine gk_iconst (v := nI 0) G dL_law_429 (by decide) ?_
                  refine gk_istore (lv' := [(18, .int (nI 0)), (0, .ref b), (1, .ref g), (2, .ref a), (3, .int (nI t)), (4, .int x), (5, .int (nI nk)), (6, .int (nI nm)), (7, .ref rI), (10, .ref rL), (11, .ref rA), (12, .ref rO), (8, .int dn), (9, .int sm), (13, .int (nI k)), (14, .int (nI (gm_cnt M k nk))), (17, .int (nI i))]) G dL_law_430 (by decide) rfl ?_
                  refine gk_iload G dL_law_432 0 rfl ?_
                  refine gk_aload_n G dL_law_434 2 rfl ?_
                  refine gk_iload G dL_law_435 16 rfl ?_
                  refine gq_placeOf_ok (Y := (gw_R cI rO nm fo ++ (gw_R cI rA nk ft ++ (gw_R cI rL nk fl ++ (gw_R cZ rI nk fi))))) G gL_law_X1_placeOf hE.1.1 ⟨(Nat.le_of_ble_eq_true rfl), (Nat.le_of_ble_eq_true rfl)⟩ ⟨by show c0 ≤ 600130; omega, by show s0 ≤ 7301080; omega⟩ i wf hr405 hrest (by omega) (Nat.le_of_ble_eq_true rfl) dL_law_437 (fun u437 hr437 => ?_)
                  rw [show gm_plc M i = nI (gm_cnt M i nk) by unfold gm_plc; rw [if_pos h8i, hk]]
                  show gk_C p l e room_1 s m ([.ref b] : List Value).toArray below meth c 23 D A Q c0 s0 ((gw_R cI rO nm fo ++ (gw_R cI rA nk ft ++ (gw_R cI rL nk fl ++ (gw_R cZ rI nk fi)))) ++ (gw_X cI cZ g h1 h2 q1 q2 u437 ++ (gp_U cI cJ a v))) [(18, .int (nI 0)), (0, .ref b), (1, .ref g), (2, .ref a), (3, .int (nI t)), (4, .int x), (5, .int (nI nk)), (6, .int (nI nm)), (7, .ref rI), (10, .ref rL), (11, .ref rA), (12, .ref rO), (8, .int dn), (9, .int sm), (13, .int (nI k)), (14, .int (nI (gm_cnt M k nk))), (17, .int (nI i))] 440 [.int (nI (gm_cnt M i nk)), .int (nI 0)]
                  refine gk_iload G dL_law_440 15 rfl ?_
                  refine gk_icmp_ge (tgt := 449) G dL_law_442 (by decide) (fun c_442 => ?_) (fun c_442 => ?_)
                  · replace c_442 := (nI_leI (a := gm_cnt M k nk) (b := gm_cnt M i nk) (by omega) (by omega)).mp c_442
                    refine gk_iconst (v := nI 0) G dL_law_449 (by decide) ?_
                    refine gk_icmp_eq (tgt := 455) G dL_law_450 (by decide) (fun c_450 => ?_) (fun c_450 => ?_)
                    · refine gk_iinc (j := 16) (v := nI (i + 1)) (lv' := [(17, .int (nI (i + 1))), (18, .int (nI 0)), (0, .ref b), (1, .ref g), (2, .ref a), (3, .int (nI t)), (4, .int x), (5, .int (nI nk)), (6, .int (nI nm)), (7, .ref rI), (10, .ref rL), (11, .ref rA), (12, .ref rO), (8, .int dn), (9, .int sm), (13, .int (nI k)), (14, .int (nI (gm_cnt M k nk)))]) G dL_law_455 rfl (nI_add i 1) (by decide) rfl ?_
                      refine gk_goto (tgt := 339) G dL_law_458 (by decide) ?_
                      exact gk_lsub (lv' := [(0, .ref b), (1, .ref g), (2, .ref a), (3, .int (nI t)), (4, .int x), (5, .int (nI nk)), (6, .int (nI nm)), (7, .ref rI), (10, .ref rL), (11, .ref rA), (12, .ref rO), (8, .int dn), (9, .int sm), (13, .int (nI k)), (14, .int (nI (gm_cnt M k nk))), (17, .int (nI (i + 1)))]) [2,3,4,5,6,7,8,9,10,11,12,13,14,15,16,0] rfl (ih (i + 1) u437 (by omega) (by omega) hr437)
                    · exact absurd c_450 (by decide)
                  · replace c_442 := (not_congr (nI_leI (a := gm_cnt M k nk) (b := gm_cnt M i nk) (by omega) (by omega))).mp c_442
                    refine gk_iconst (v := nI 1) G dL_law_445 (by decide) ?_
                    refine gk_goto (tgt := 450) G dL_law_446 (by decide) ?_
                    refine gk_icmp_eq (tgt := 455) G dL_law_450 (by decide) (fun c_450 => ?_) (fun c_450 => ?_)
                    · exact absurd c_450 (by decide)
                    · (exfalso; split at hah <;> omega)
                · replace c_422 := (not_congr (nI_ltI (a := M 5 k) (b := M 5 i) (by omega) (by omega))).mp c_422
                  refine gk_iconst (v := nI 1) G dL_law_425 (by decide) ?_
                  refine gk_goto (tgt := 430) G dL_law_426 (by decide) ?_
                  refine gk_istore (lv' := [(18, .int (nI 1)), (0, .ref b), (1, .ref g), (2, .ref a), (3, .int (nI t)), (4, .int x), (5, .int (nI nk)), (6, .int (nI nm)), (7, .ref rI), (10, .ref rL), (11, .ref rA), (12, .ref rO), (8, .int dn), (9, .int sm), (13, .int (nI k)), (14, .int (nI (gm_cnt M k nk))), (17, .int (nI i))]) G dL_law_430 (by decide) rfl ?_
                  refine gk_iload G dL_law_432 0 rfl ?_
                  refine gk_aload_n G dL_law_434 2 rfl ?_
                  refine gk_iload G dL_law_435 16 rfl ?_
                  refine gq_placeOf_ok (Y := (gw_R cI rO nm fo ++ (gw_R cI rA nk ft ++ (gw_R cI rL nk fl ++ (gw_R cZ rI nk fi))))) G gL_law_X1_placeOf hE.1.1 ⟨(Nat.le_of_ble_eq_true rfl), (Nat.le_of_ble_eq_true rfl)⟩ ⟨by show c0 ≤ 600130; omega, by show s0 ≤ 7301080; omega⟩ i wf hr405 hrest (by omega) (Nat.le_of_ble_eq_true rfl) dL_law_437 (fun u437 hr437 => ?_)
                  rw [show gm_plc M i = nI (gm_cnt M i nk) by unfold gm_plc; rw [if_pos h8i, hk]]
                  show gk_C p l e room_1 s m ([.ref b] : List Value).toArray below meth c 23 D A Q c0 s0 ((gw_R cI rO nm fo ++ (gw_R cI rA nk ft ++ (gw_R cI rL nk fl ++ (gw_R cZ rI nk fi)))) ++ (gw_X cI cZ g h1 h2 q1 q2 u437 ++ (gp_U cI cJ a v))) [(18, .int (nI 1)), (0, .ref b), (1, .ref g), (2, .ref a), (3, .int (nI t)), (4, .int x), (5, .int (nI nk)), (6, .int (nI nm)), (7, .ref rI), (10, .ref rL), (11, .ref rA), (12, .ref rO), (8, .int dn), (9, .int sm), (13, .int (nI k)), (14, .int (nI (gm_cnt M k nk))), (17, .int (nI i))] 440 [.int (nI (gm_cnt M i nk)), .int (nI 1)]
                  refine gk_iload G dL_law_440 15 rfl ?_
                  refine gk_icmp_ge (tgt := 449) G dL_law_442 (by decide) (fun c_442 => ?_) (fun c_442 => ?_)
                  · replace c_442 := (nI_leI (a := gm_cnt M k nk) (b := gm_cnt M i nk) (by omega) (by omega)).mp c_442
                    refine gk_iconst (v := nI 0) G dL_law_449 (by decide) ?_
                    refine gk_icmp_eq (tgt := 455) G dL_law_450 (by decide) (fun c_450 => ?_) (fun c_450 => ?_)
                    · exact absurd c_450 (by decide)
                    · (exfalso; split at hah <;> omega)
                  · replace c_442 := (not_congr (nI_leI (a := gm_cnt M k nk) (b := gm_cnt M i nk) (by omega) (by omega))).mp c_442
                    refine gk_iconst (v := nI 1) G dL_law_445 (by decide) ?_
                    refine gk_goto (tgt := 450) G dL_law_446 (by decide) ?_
                    refine gk_icmp_eq (tgt := 455) G dL_law_450 (by decide) (fun c_450 => ?_) (fun c_450 => ?_)
                    · refine gk_iinc (j := 16) (v := nI (i + 1)) (lv' := [(17, .int (nI (i + 1))), (18, .int (nI 1)), (0, .ref b), (1, .ref g), (2, .ref a), (3, .int (nI t)), (4, .int x), (5, .int (nI nk)), (6, .int (nI nm)), (7, .ref rI), (10, .ref rL), (11, .ref rA), (12, .ref rO), (8, .int dn), (9, .int sm), (13, .int (nI k)), (14, .int (nI (gm_cnt M k nk)))]) G dL_law_455 rfl (nI_add i 1) (by decide) rfl ?_
                      refine gk_goto (tgt := 339) G dL_law_458 (by decide) ?_
                      exact gk_lsub (lv' := [(0, .ref b), (1, .ref g), (2, .ref a), (3, .int (nI t)), (4, .int x), (5, .int (nI nk)), (6, .int (nI nm)), (7, .ref rI), (10, .ref rL), (11, .ref rA), (12, .ref rO), (8, .int dn), (9, .int sm), (13, .int (nI k)), (14, .int (nI (gm_cnt M k nk))), (17, .int (nI (i + 1)))]) [2,3,4,5,6,7,8,9,10,11,12,13,14,15,16,0] rfl (ih (i + 1) u437 (by omega) (by omega) hr437)
                    · exact absurd c_450 (by decide)
            · replace c_378 := (not_congr (nI_eq (a := M 6 i) (b := M 6 k) (by omega) (by omega))).mp c_378
              refine gk_aload_n G dL_law_381 1 rfl ?_
              refine gk_iload G dL_law_382 15 rfl ?_
              refine gq_untilOf_ok (Y := (gw_R cI rO nm fo ++ (gw_R cI rA nk ft ++ (gw_R cI rL nk fl ++ (gw_R cZ rI nk fi))))) G gL_law_X1_untilOf hE.1.1 ⟨(Nat.le_of_ble_eq_true rfl), (Nat.le_of_ble_eq_true rfl)⟩ ⟨by show c0 ≤ 600130; omega, by show s0 ≤ 7301080; omega⟩ i wf hr375 (by omega) (Nat.le_of_ble_eq_true rfl) dL_law_384 (fun u384 hr384 => ?_)
              show gk_C p l e room_1 s m ([.ref b] : List Value).toArray below meth c 23 D A Q c0 s0 ((gw_R cI rO nm fo ++ (gw_R cI rA nk ft ++ (gw_R cI rL nk fl ++ (gw_R cZ rI nk fi)))) ++ (gw_X cI cZ g h1 h2 q1 q2 u384 ++ (gp_U cI cJ a v))) [(0, .ref b), (1, .ref g), (2, .ref a), (3, .int (nI t)), (4, .int x), (5, .int (nI nk)), (6, .int (nI nm)), (7, .ref rI), (10, .ref rL), (11, .ref rA), (12, .ref rO), (8, .int dn), (9, .int sm), (13, .int (nI k)), (14, .int (nI (gm_cnt M k nk))), (17, .int (nI i))] 387 [.int (nI (M 6 i))]
              refine gk_aload_n G dL_law_387 1 rfl ?_
              refine gk_iload G dL_law_388 13 rfl ?_
              refine gq_untilOf_ok (Y := (gw_R cI rO nm fo ++ (gw_R cI rA nk ft ++ (gw_R cI rL nk fl ++ (gw_R cZ rI nk fi))))) G gL_law_X1_untilOf hE.1.1 ⟨(Nat.le_of_ble_eq_true rfl), (Nat.le_of_ble_eq_true rfl)⟩ ⟨by show c0 ≤ 600130; omega, by show s0 ≤ 7301080; omega⟩ k wf hr384 (by omega) (Nat.le_of_ble_eq_true rfl) dL_law_390 (fun u390 hr390 => ?_)
              show gk_C p l e room_1 s m ([.ref b] : List Value).toArray below meth c 23 D A Q c0 s0 ((gw_R cI rO nm fo ++ (gw_R cI rA nk ft ++ (gw_R cI rL nk fl ++ (gw_R cZ rI nk fi)))) ++ (gw_X cI cZ g h1 h2 q1 q2 u390 ++ (gp_U cI cJ a v))) [(0, .ref b), (1, .ref g), (2, .ref a), (3, .int (nI t)), (4, .int x), (5, .int (nI nk)), (6, .int (nI nm)), (7, .ref rI), (10, .ref rL), (11, .ref rA), (12, .ref rO), (8, .int dn), (9, .int sm), (13, .int (nI k)), (14, .int (nI (gm_cnt M k nk))), (17, .int (nI i))] 393 [.int (nI (M 6 k)), .int (nI (M 6 i))]
              refine gk_icmp_ge (tgt := 400) G dL_law_393 (by decide) (fun c_393 => ?_) (fun c_393 => ?_)
              · replace c_393 := (nI_leI (a := M 6 k) (b := M 6 i) (by omega) (by omega)).mp c_393
                refine gk_iconst (v := nI 0) G dL_law_400 (by decide) ?_
                refine gk_goto (tgt := 430) G dL_law_401 (by decide) ?_
                refine gk_istore (lv' := [(18, .int (nI 0)), (0, .ref b), (1, .ref g), (2, .ref a), (3, .int (nI t)), (4, .int x), (5, .int (nI nk)), (6, .int (nI nm)), (7, .ref rI), (10, .ref rL), (11, .ref rA), (12, .ref rO), (8, .int dn), (9, .int sm), (13, .int (nI k)), (14, .int (nI (gm_cnt M k nk))), (17, .int (nI i))]) G dL_law_430 (by decide) rfl ?_
                refine gk_iload G dL_law_432 0 rfl ?_
                refine gk_aload_n G dL_law_434 2 rfl ?_
                refine gk_iload G dL_law_435 16 rfl ?_
                refine gq_placeOf_ok (Y := (gw_R cI rO nm fo ++ (gw_R cI rA nk ft ++ (gw_R cI rL nk fl ++ (gw_R cZ rI nk fi))))) G gL_law_X1_placeOf hE.1.1 ⟨(Nat.le_of_ble_eq_true rfl), (Nat.le_of_ble_eq_true rfl)⟩ ⟨by show c0 ≤ 600130; omega, by show s0 ≤ 7301080; omega⟩ i wf hr390 hrest (by omega) (Nat.le_of_ble_eq_true rfl) dL_law_437 (fun u437 hr437 => ?_)
                rw [show gm_plc M i = nI (gm_cnt M i nk) by unfold gm_plc; rw [if_pos h8i, hk]]
                show gk_C p l e room_1 s m ([.ref b] : List Value).toArray below meth c 23 D A Q c0 s0 ((gw_R cI rO nm fo ++ (gw_R cI rA nk ft ++ (gw_R cI rL nk fl ++ (gw_R cZ rI nk fi)))) ++ (gw_X cI cZ g h1 h2 q1 q2 u437 ++ (gp_U cI cJ a v))) [(18, .int (nI 0)), (0, .ref b), (1, .ref g), (2, .ref a), (3, .int (nI t)), (4, .int x), (5, .int (nI nk)), (6, .int (nI nm)), (7, .ref rI), (10, .ref rL), (11, .ref rA), (12, .ref rO), (8, .int dn), (9, .int sm), (13, .int (nI k)), (14, .int (nI (gm_cnt M k nk))), (17, .int (nI i))] 440 [.int (nI (gm_cnt M i nk)), .int (nI 0)]
                refine gk_iload G dL_law_440 15 rfl ?_
                refine gk_icmp_ge (tgt := 449) G dL_law_442 (by decide) (fun c_442 => ?_) (fun c_442 => ?_)
                · replace c_442 := (nI_leI (a := gm_cnt M k nk) (b := gm_cnt M i nk) (by omega) (by omega)).mp c_442
                  refine gk_iconst (v := nI 0) G dL_law_449 (by decide) ?_
                  refine gk_icmp_eq (tgt := 455) G dL_law_450 (by decide) (fun c_450 => ?_) (fun c_450 => ?_)
                  · refine gk_iinc (j := 16) (v := nI (i + 1)) (lv' := [(17, .int (nI (i + 1))), (18, .int (nI 0)), (0, .ref b), (1, .ref g), (2, .ref a), (3, .int (nI t)), (4, .int x), (5, .int (nI nk)), (6, .int (nI nm)), (7, .ref rI), (10, .ref rL), (11, .ref rA), (12, .ref rO), (8, .int dn), (9, .int sm), (13, .int (nI k)), (14, .int (nI (gm_cnt M k nk)))]) G dL_law_455 rfl (nI_add i 1) (by decide) rfl ?_
                    refine gk_goto (tgt := 339) G dL_law_458 (by decide) ?_
                    exact gk_lsub (lv' := [(0, .ref b), (1, .ref g), (2, .ref a), (3, .int (nI t)), (4, .int x), (5, .int (nI nk)), (6, .int (nI nm)), (7, .ref rI), (10, .ref rL), (11, .ref rA), (12, .ref rO), (8, .int dn), (9, .int sm), (13, .int (nI k)), (14, .int (nI (gm_cnt M k nk))), (17, .int (nI (i + 1)))]) [2,3,4,5,6,7,8,9,10,11,12,13,14,15,16,0] rfl (ih (i + 1) u437 (by omega) (by omega) hr437)
                  · exact absurd c_450 (by decide)
                · replace c_442 := (not_congr (nI_leI (a := gm_cnt M k nk) (b := gm_cnt M i nk) (by omega) (by omega))).mp c_442
                  refine gk_iconst (v := nI 1) G dL_law_445 (by decide) ?_
                  refine gk_goto (tgt := 450) G dL_law_446 (by decide) ?_
                  refine gk_icmp_eq (tgt := 455) G dL_law_450 (by decide) (fun c_450 => ?_) (fun c_450 => ?_)
                  · exact absurd c_450 (by decide)
                  · (exfalso; split at hah <;> omega)
              · replace c_393 := (not_congr (nI_leI (a := M 6 k) (b := M 6 i) (by omega) (by omega))).mp c_393
                refine gk_iconst (v := nI 1) G dL_law_396 (by decide) ?_
                refine gk_goto (tgt := 430) G dL_law_397 (by decide) ?_
                refine gk_istore (lv' := [(18, .int (nI 1)), (0, .ref b), (1, .ref g), (2, .ref a), (3, .int (nI t)), (4, .int x), (5, .int (nI nk)), (6, .int (nI nm)), (7, .ref rI), (10, .ref rL), (11, .ref rA), (12, .ref rO), (8, .int dn), (9, .int sm), (13, .int (nI k)), (14, .int (nI (gm_cnt M k nk))), (17, .int (nI i))]) G dL_law_430 (by decide) rfl ?_
                refine gk_iload G dL_law_432 0 rfl ?_
                refine gk_aload_n G dL_law_434 2 rfl ?_
                refine gk_iload G dL_law_435 16 rfl ?_
                refine gq_placeOf_ok (Y := (gw_R cI rO nm fo ++ (gw_R cI rA nk ft ++ (gw_R cI rL nk fl ++ (gw_R cZ rI nk fi))))) G gL_law_X1_placeOf hE.1.1 ⟨(Nat.le_of_ble_eq_true rfl), (Nat.le_of_ble_eq_true rfl)⟩ ⟨by show c0 ≤ 600130; omega, by show s0 ≤ 7301080; omega⟩ i wf hr390 hrest (by omega) (Nat.le_of_ble_eq_true rfl) dL_law_437 (fun u437 hr437 => ?_)
                rw [show gm_plc M i = nI (gm_cnt M i nk) by unfold gm_plc; rw [if_pos h8i, hk]]
                show gk_C p l e room_1 s m ([.ref b] : List Value).toArray below meth c 23 D A Q c0 s0 ((gw_R cI rO nm fo ++ (gw_R cI rA nk ft ++ (gw_R cI rL nk fl ++ (gw_R cZ rI nk fi)))) ++ (gw_X cI cZ g h1 h2 q1 q2 u437 ++ (gp_U cI cJ a v))) [(18, .int (nI 1)), (0, .ref b), (1, .ref g), (2, .ref a), (3, .int (nI t)), (4, .int x), (5, .int (nI nk)), (6, .int (nI nm)), (7, .ref rI), (10, .ref rL), (11, .ref rA), (12, .ref rO), (8, .int dn), (9, .int sm), (13, .int (nI k)), (14, .int (nI (gm_cnt M k nk))), (17, .int (nI i))] 440 [.int (nI (gm_cnt M i nk)), .int (nI 1)]
                refine gk_iload G dL_law_440 15 rfl ?_
                refine gk_icmp_ge (tgt := 449) G dL_law_442 (by decide) (fun c_442 => ?_) (fun c_442 => ?_)
                · replace c_442 := (nI_leI (a := gm_cnt M k nk) (b := gm_cnt M i nk) (by omega) (by omega)).mp c_442
                  refine gk_iconst (v := nI 0) G dL_law_449 (by decide) ?_
                  refine gk_icmp_eq (tgt := 455) G dL_law_450 (by decide) (fun c_450 => ?_) (fun c_450 => ?_)
                  · exact absurd c_450 (by decide)
                  · (exfalso; split at hah <;> omega)
                · replace c_442 := (not_congr (nI_leI (a := gm_cnt M k nk) (b := gm_cnt M i nk) (by omega) (by omega))).mp c_442
                  refine gk_iconst (v := nI 1) G dL_law_445 (by decide) ?_
                  refine gk_goto (tgt := 450) G dL_law_446 (by decide) ?_
                  refine gk_icmp_eq (tgt := 455) G dL_law_450 (by decide) (fun c_450 => ?_) (fun c_450 => ?_)
                  · refine gk_iinc (j := 16) (v := nI (i + 1)) (lv' := [(17, .int (nI (i + 1))), (18, .int (nI 1)), (0, .ref b), (1, .ref g), (2, .ref a), (3, .int (nI t)), (4, .int x), (5, .int (nI nk)), (6, .int (nI nm)), (7, .ref rI), (10, .ref rL), (11, .ref rA), (12, .ref rO), (8, .int dn), (9, .int sm), (13, .int (nI k)), (14, .int (nI (gm_cnt M k nk)))]) G dL_law_455 rfl (nI_add i 1) (by decide) rfl ?_
                    refine gk_goto (tgt := 339) G dL_law_458 (by decide) ?_
                    exact gk_lsub (lv' := [(0, .ref b), (1, .ref g), (2, .ref a), (3, .int (nI t)), (4, .int x), (5, .int (nI nk)), (6, .int (nI nm)), (7, .ref rI), (10, .ref rL), (11, .ref rA), (12, .ref rO), (8, .int dn), (9, .int sm), (13, .int (nI k)), (14, .int (nI (gm_cnt M k nk))), (17, .int (nI (i + 1)))]) [2,3,4,5,6,7,8,9,10,11,12,13,14,15,16,0] rfl (ih (i + 1) u437 (by omega) (by omega) hr437)
                  · exact absurd c_450 (by decide)
        · refine gk_goto (tgt := 455) G dL_law_355 (by decide) ?_
          refine gk_iinc (j := 15) (v := nI (i + 1)) (lv' := [(17, .int (nI (i + 1))), (0, .ref b), (1, .ref g), (2, .ref a), (3, .int (nI t)), (4, .int x), (5, .int (nI nk)), (6, .int (nI nm)), (7, .ref rI), (10, .ref rL), (11, .ref rA), (12, .ref rO), (8, .int dn), (9, .int sm), (13, .int (nI k)), (14, .int (nI (gm_cnt M k nk)))]) G dL_law_455 rfl (nI_add i 1) (by decide) rfl ?_
          refine gk_goto (tgt := 339) G dL_law_458 (by decide) ?_
          exact gk_lsub (lv' := [(0, .ref b), (1, .ref g), (2, .ref a), (3, .int (nI t)), (4, .int x), (5, .int (nI nk)), (6, .int (nI nm)), (7, .ref rI), (10, .ref rL), (11, .ref rA), (12, .ref rO), (8, .int dn), (9, .int sm), (13, .int (nI k)), (14, .int (nI (gm_cnt M k nk))), (17, .int (nI (i + 1)))]) [1,2,3,4,5,6,7,8,9,10,11,12,13,14,15,0] rfl (ih (i + 1) u349 (by omega) (by omega) hr349)
  refine gk_iconst (v := nI 0) G dL_law_336 (by decide) ?_
  refine gk_istore (lv' := [(17, .int (nI 0)), (0, .ref b), (1, .ref g), (2, .ref a), (3, .int (nI t)), (4, .int x), (5, .int (nI nk)), (6, .int (nI nm)), (7, .ref rI), (10, .ref rL), (11, .ref rA), (12, .ref rO), (8, .int dn), (9, .int sm), (13, .int (nI k)), (14, .int (nI (gm_cnt M k nk)))]) G dL_law_337 (by decide) rfl ?_
  exact gk_lsub (lv' := [(0, .ref b), (1, .ref g), (2, .ref a), (3, .int (nI t)), (4, .int x), (5, .int (nI nk)), (6, .int (nI nm)), (7, .ref rI), (10, .ref rL), (11, .ref rA), (12, .ref rO), (8, .int dn), (9, .int sm), (13, .int (nI k)), (14, .int (nI (gm_cnt M k nk))), (17, .int (nI 0))]) [1,2,3,4,5,6,7,8,9,10,11,12,13,14,15,0] rfl (L339 (k + 1) 0 u (by omega) (Nat.zero_le _) hr)
