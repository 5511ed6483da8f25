set_option maxRecDepth 100000 in
set_option maxHeartbeats 4000000 in
theorem la_3 {p : Program} {l : Launch} {e : Env} {s : State} {m : MethodId} {below : List Frame} {meth : Method} {c : Code} {D : va_G} {A : Nat → Prop} {Q : State → Prop} {cI cZ cJ : ClassId} {b L : Nat} {xs : Nat → Int32} {g h1 h2 : Nat} {q1 q2 : Nat → Nat} {u : gw_U} {a : Nat} {v : gp_Q} {M : gm_M} {x : Int32} {nm nk c0 s0 t : Nat} (G : gk_G p s m ([.ref b] : List Value).toArray meth c RL 23 cL_law (some .boolean) wsL_law D (g_T cI cZ cJ) A) (wf : gm_wf M) (hrest : gm_rest M) (hm : M 10 0 = nm) (hk : M 11 0 = nk) (hh : M 9 0 < 1900000) (hE : gp_L b L xs A s s.heap) (hc0 : c0 ≤ 100000) (hs0 : s0 ≤ 1000000) (rI rL rA rO : Nat) (fi fl ft fo : Nat → Int32) (hr : gc_rep u.1.1 u.1.2 M) (K : ∀ u : gw_U, gc_rep u.1.1 u.1.2 M → gk_C p l e room_1 s m ([.ref b] : List Value).toArray below meth c 23 D A Q c0 s0 ((gw_R cI rO nm fo ++ (gw_R cI rA nk ft ++ (gw_R cI rL nk fl ++ (gw_R cZ rI nk fi)))) ++ (gw_X cI cZ g h1 h2 q1 q2 u ++ (gp_U cI cJ a v))) [(0, .ref b), (1, .ref g), (2, .ref a), (3, .int (nI t)), (4, .int x), (5, .int (nI nk)), (6, .int (nI nm)), (7, .ref rI), (10, .ref rL), (11, .ref rA), (12, .ref rO), (9, .int (nI (gm_sum M nk)))] 534 []) : gk_C p l e room_1 s m ([.ref b] : List Value).toArray below meth c 23 D A Q c0 s0 ((gw_R cI rO nm fo ++ (gw_R cI rA nk ft ++ (gw_R cI rL nk fl ++ (gw_R cZ rI nk fi)))) ++ (gw_X cI cZ g h1 h2 q1 q2 u ++ (gp_U cI cJ a v))) [(0, .ref b), (1, .ref g), (2, .ref a), (3, .int (nI t)), (4, .int x), (5, .int (nI nk)), (6, .int (nI nm)), (7, .ref rI), (10, .ref rL), (11, .ref rA), (12, .ref rO), (8, .int (nI (gm_gct M nk))), (9, .int (nI (gm_sum M nk)))] 467 [] := by
  obtain ⟨hz1, hz2, hz3, hz4, hz5, hz6, hz7, hz8⟩ := id wf
  have hun := gp_un_le M nk
  have hgl := gm_gct_le M nk
  have hfn : gm_nxt M 0 (M 11 0) = 0 ↔ gm_gct M nk = nk := by rw [hk]; exact gp_first_no nk
  have hnl := gm_nxt_le M 0 (M 11 0)
  have hsl := gm_sum_le wf nk (by omega)
  refine gk_iload G dL_law_467 11 rfl ?_
  refine gk_aload_n G dL_law_469 1 rfl ?_
  refine gq_ground (Y := (gw_R cI rO nm fo ++ (gw_R cI rA nk ft ++ (gw_R cI rL nk fl ++ (gw_R cZ rI nk fi))))) G gL_law_X1_ground hE.1.1 ⟨(Nat.le_of_ble_eq_true rfl), (Nat.le_of_ble_eq_true rfl)⟩ ⟨by show c0 ≤ 600130; omega, by show s0 ≤ 7301080; omega⟩ wf hr (Nat.le_of_ble_eq_true rfl) dL_law_470 (fun u470 hr470 => ?_)
  rw [hk]
  show gk_C p l e room_1 s m ([.ref b] : List Value).toArray below meth c 23 D A Q c0 s0 ((gw_R cI rO nm fo ++ (gw_R cI rA nk ft ++ (gw_R cI rL nk fl ++ (gw_R cZ rI nk fi)))) ++ (gw_X cI cZ g h1 h2 q1 q2 u470 ++ (gp_U cI cJ a v))) [(0, .ref b), (1, .ref g), (2, .ref a), (3, .int (nI t)), (4, .int x), (5, .int (nI nk)), (6, .int (nI nm)), (7, .ref rI), (10, .ref rL), (11, .ref rA), (12, .ref rO), (8, .int (nI (gm_gct M nk))), (9, .int (nI (gm_sum M nk)))] 473 [.int (nI (gm_gct M nk)), .int (nI (gm_gct M nk))]
  refine gk_icmp_ne (tgt := 532) G dL_law_473 (by decide) (fun c_473 => ?_) (fun c_473 => ?_)
  · exact absurd rfl c_473
  · refine gk_aload_n G dL_law_476 1 rfl ?_
    refine gq_first (Y := (gw_R cI rO nm fo ++ (gw_R cI rA nk ft ++ (gw_R cI rL nk fl ++ (gw_R cZ rI nk fi))))) G gL_law_X1_first hE.1.1 ⟨(Nat.le_of_ble_eq_true rfl), (Nat.le_of_ble_eq_true rfl)⟩ ⟨by show c0 ≤ 600130; omega, by show s0 ≤ 7301080; omega⟩ wf hr470 hrest (Nat.le_of_ble_eq_true rfl) dL_law_477 (fun u477 hr477 => ?_)
    show gk_C p l e room_1 s m ([.ref b] : List Value).toArray below meth c 23 D A Q c0 s0 ((gw_R cI rO nm fo ++ (gw_R cI rA nk ft ++ (gw_R cI rL nk fl ++ (gw_R cZ rI nk fi)))) ++ (gw_X cI cZ g h1 h2 q1 q2 u477 ++ (gp_U cI cJ a v))) [(0, .ref b), (1, .ref g), (2, .ref a), (3, .int (nI t)), (4, .int x), (5, .int (nI nk)), (6, .int (nI nm)), (7, .ref rI), (10, .ref rL), (11, .ref rA), (12, .ref rO), (8, .int (nI (gm_gct M nk))), (9, .int (nI (gm_sum M nk)))] 480 [.int (gm_e (gm_nxt M 0 (M 11 0)))]
    refine gk_if_ge (tgt := 487) G dL_law_480 (by decide) (fun c_480 => ?_) (fun c_480 => ?_)
    · replace c_480 := (gp_e_ge (n := gm_nxt M 0 (M 11 0)) (by omega)).mp c_480
      refine gk_iconst (v := nI 0) G dL_law_487 (by decide) ?_
      refine gk_iload G dL_law_488 11 rfl ?_
      refine gk_iload G dL_law_490 5 rfl ?_
      refine gk_icmp_ne (tgt := 499) G dL_law_492 (by decide) (fun c_492 => ?_) (fun c_492 => ?_)
      · replace c_492 := (not_congr (nI_eq (a := gm_gct M nk) (b := nk) (by omega) (by omega))).mp c_492
        refine gk_iconst (v := nI 0) G dL_law_499 (by decide) ?_
        refine gk_icmp_ne (tgt := 532) G dL_law_500 (by decide) (fun c_500 => ?_) (fun c_500 => ?_)
        · exact absurd c_500 (by decide)
        · refine gk_aload_n G dL_law_503 1 rfl ?_
          refine gq_meanLeft (Y := (gw_R cI rO nm fo ++ (gw_R cI rA nk ft ++ (gw_R cI rL nk fl ++ (gw_R cZ rI nk fi))))) G gL_law_X1_meanLeft hE.1.1 ⟨(Nat.le_of_ble_eq_true rfl), (Nat.le_of_ble_eq_true rfl)⟩ ⟨by show c0 ≤ 600130; omega, by show s0 ≤ 7301080; omega⟩ wf hr477 (Nat.le_of_ble_eq_true rfl) dL_law_504 (fun u504 hr504 => ?_)
          show gk_C p l e room_1 s m ([.ref b] : List Value).toArray below meth c 23 D A Q c0 s0 ((gw_R cI rO nm fo ++ (gw_R cI rA nk ft ++ (gw_R cI rL nk fl ++ (gw_R cZ rI nk fi)))) ++ (gw_X cI cZ g h1 h2 q1 q2 u504 ++ (gp_U cI cJ a v))) [(0, .ref b), (1, .ref g), (2, .ref a), (3, .int (nI t)), (4, .int x), (5, .int (nI nk)), (6, .int (nI nm)), (7, .ref rI), (10, .ref rL), (11, .ref rA), (12, .ref rO), (8, .int (nI (gm_gct M nk))), (9, .int (nI (gm_sum M nk)))] 507 [.double (gm_ml M)]
          refine gk_iload G dL_law_507 11 rfl ?_
          refine gk_iload G dL_law_509 5 rfl ?_
          refine gk_icmp_ne (tgt := 518) G dL_law_511 (by decide) (fun c_511 => ?_) (fun c_511 => ?_)
          · replace c_511 := (not_congr (nI_eq (a := gm_gct M nk) (b := nk) (by omega) (by omega))).mp c_511
            refine gk_iload G dL_law_518 12 rfl ?_
            refine gk_i2d G dL_law_520 ?_
            refine gk_iload G dL_law_521 5 rfl ?_
            refine gk_iload G dL_law_523 11 rfl ?_
            refine gk_isub (v := nI (nk - gm_gct M nk)) G dL_law_525 (pk_sub (by omega)) ?_
            refine gk_i2d G dL_law_526 ?_
            refine gk_ddiv G dL_law_527 (gm_mean_nn (fun q9 => by rw [gm_0 (by omega)] at q9; omega)) ?_
            refine gk_dcmp G dL_law_528 ?_
            rw [show Op.cmpValue (FP.dcmp (gm_ml M) (FP.ddiv (FP.i2d (nI (gm_sum M nk))) (FP.i2d (nI (nk - gm_gct M nk))))) .l = nI 0 from (gl_dc rfl (by unfold gm_ml; rw [hk]; first | (rw [if_pos (by omega)]; done) | (rw [if_neg (by omega)])) (by omega))]
            refine gk_if_eq (tgt := 534) G dL_law_529 (by decide) (fun c_529 => ?_) (fun c_529 => ?_)
            · exact gk_lsub (lv' := [(0, .ref b), (1, .ref g), (2, .ref a), (3, .int (nI t)), (4, .int x), (5, .int (nI nk)), (6, .int (nI nm)), (7, .ref rI), (10, .ref rL), (11, .ref rA), (12, .ref rO), (9, .int (nI (gm_sum M nk)))]) [0,1,2,3,4,5,6,7,8,9,10,12] rfl (K u504 hr504)
            · exact absurd c_529 (by decide)
          · replace c_511 := (nI_eq (a := gm_gct M nk) (b := nk) (by omega) (by omega)).mp c_511
            refine gk_dconst0 G dL_law_514 ?_
            refine gk_goto (tgt := 528) G dL_law_515 (by decide) ?_
            refine gk_dcmp G dL_law_528 ?_
            rw [show Op.cmpValue (FP.dcmp (gm_ml M) FP.dconst0) .l = nI 0 from (gl_dc rfl (by unfold gm_ml; rw [hk]; first | (rw [if_pos (by omega)]; done) | (rw [if_neg (by omega)])) (by omega))]
            refine gk_if_eq (tgt := 534) G dL_law_529 (by decide) (fun c_529 => ?_) (fun c_529 => ?_)
            · exact gk_lsub (lv' := [(0, .ref b), (1, .ref g), (2, .ref a), (3, .int (nI t)), (4, .int x), (5, .int (nI nk)), (6, .int (nI nm)), (7, .ref rI), (10, .ref rL), (11, .ref rA), (12, .ref rO), (9, .int (nI (gm_sum M nk)))]) [0,1,2,3,4,5,6,7,8,9,10,12] rfl (K u504 hr504)
            · exact absurd c_529 (by decide)
      · replace c_492 := (nI_eq (a := gm_gct M nk) (b := nk) (by omega) (by omega)).mp c_492
        refine gk_iconst (v := nI 1) G dL_law_495 (by decide) ?_
        refine gk_goto (tgt := 500) G dL_law_496 (by decide) ?_
        refine gk_icmp_ne (tgt := 532) G dL_law_500 (by decide) (fun c_500 => ?_) (fun c_500 => ?_)
        · omega
        · exact absurd c_500 (by decide)
    · replace c_480 := (not_congr (gp_e_ge (n := gm_nxt M 0 (M 11 0)) (by omega))).mp c_480
      refine gk_iconst (v := nI 1) G dL_law_483 (by decide) ?_
      refine gk_goto (tgt := 488) G dL_law_484 (by decide) ?_
      refine gk_iload G dL_law_488 11 rfl ?_
      refine gk_iload G dL_law_490 5 rfl ?_
      refine gk_icmp_ne (tgt := 499) G dL_law_492 (by decide) (fun c_492 => ?_) (fun c_492 => ?_)
      · replace c_492 := (not_congr (nI_eq (a := gm_gct M nk) (b := nk) (by omega) (by omega))).mp c_492
        refine gk_iconst (v := nI 0) G dL_law_499 (by decide) ?_
        refine gk_icmp_ne (tgt := 532) G dL_law_500 (by decide) (fun c_500 => ?_) (fun c_500 => ?_)
        · omega
        · exact absurd c_500 (by decide)
      · replace c_492 := (nI_eq (a := gm_gct M nk) (b := nk) (by omega) (by omega)).mp c_492
        refine gk_iconst (v := nI 1) G dL_law_495 (by decide) ?_
        refine gk_goto (tgt := 500) G dL_law_496 (by decide) ?_
        refine gk_icmp_ne (tgt := 532) G dL_law_500 (by decide) (fun c_500 => ?_) (fun c_500 => ?_)
        · exact absurd c_500 (by decide)
        · refine gk_aload_n G dL_law_503 1 rfl ?_
          refine gq_meanLeft (Y := (gw_R cI rO nm fo ++ (gw_R cI rA nk ft ++ (gw_R cI rL nk fl ++ (gw_R cZ rI nk fi))))) G gL_law_X1_meanLeft hE.1.1 ⟨(Nat.le_of_ble_eq_true rfl), (Nat.le_of_ble_eq_true rfl)⟩ ⟨by show c0 ≤ 600130; omega, by show s0 ≤ 7301080; omega⟩ wf hr477 (Nat.le_of_ble_eq_true rfl) dL_law_504 (fun u504 hr504 => ?_)
          show gk_C p l e room_1 s m ([.ref b] : List Value).toArray below meth c 23 D A Q c0 s0 ((gw_R cI rO nm fo ++ (gw_R cI rA nk ft ++ (gw_R cI rL nk fl ++ (gw_R cZ rI nk fi)))) ++ (gw_X cI cZ g h1 h2 q1 q2 u504 ++ (gp_U cI cJ a v))) [(0, .ref b), (1, .ref g), (2, .ref a), (3, .int (nI t)), (4, .int x), (5, .int (nI nk)), (6, .int (nI nm)), (7, .ref rI), (10, .ref rL), (11, .ref rA), (12, .ref rO), (8, .int (nI (gm_gct M nk))), (9, .int (nI (gm_sum M nk)))] 507 [.double (gm_ml M)]
          refine gk_iload G dL_law_507 11 rfl ?_
          refine gk_iload G dL_law_509 5 rfl ?_
          refine gk_icmp_ne (tgt := 518) G dL_law_511 (by decide) (fun c_511 => ?_) (fun c_511 => ?_)
          · replace c_511 := (not_congr (nI_eq (a := gm_gct M nk) (b := nk) (by omega) (by omega))).mp c_511
            refine gk_iload G dL_law_518 12 rfl ?_
            refine gk_i2d G dL_law_520 ?_
            refine gk_iload G dL_law_521 5 rfl ?_
            refine gk_iload G dL_law_523 11 rfl ?_
            refine gk_isub (v := nI (nk - gm_gct M nk)) G dL_law_525 (pk_sub (by omega)) ?_
            refine gk_i2d G dL_law_526 ?_
            refine gk_ddiv G dL_law_527 (gm_mean_nn (fun q9 => by rw [gm_0 (by omega)] at q9; omega)) ?_
            refine gk_dcmp G dL_law_528 ?_
            rw [show Op.cmpValue (FP.dcmp (gm_ml M) (FP.ddiv (FP.i2d (nI (gm_sum M nk))) (FP.i2d (nI (nk - gm_gct M nk))))) .l = nI 0 from (gl_dc rfl (by unfold gm_ml; rw [hk]; first | (rw [if_pos (by omega)]; done) | (rw [if_neg (by omega)])) (by omega))]
            refine gk_if_eq (tgt := 534) G dL_law_529 (by decide) (fun c_529 => ?_) (fun c_529 => ?_)
            · exact gk_lsub (lv' := [(0, .ref b), (1, .ref g), (2, .ref a), (3, .int (nI t)), (4, .int x), (5, .int (nI nk)), (6, .int (nI nm)), (7, .ref rI), (10, .ref rL), (11, .ref rA), (12, .ref rO), (9, .int (nI (gm_sum M nk)))]) [0,1,2,3,4,5,6,7,8,9,10,12] rfl (K u504 hr504)
            · exact absurd c_529 (by decide)
          · replace c_511 := (nI_eq (a := gm_gct M nk) (b := nk) (by omega) (by omega)).mp c_511
            refine gk_dconst0 G dL_law_514 ?_
            refine gk_goto (tgt := 528) G dL_law_515 (by decide) ?_
            refine gk_dcmp G dL_law_528 ?_
            rw [show Op.cmpValue (FP.dcmp (gm_ml M) FP.dconst0) .l = nI 0 from (gl_dc rfl (by unfold gm_ml; rw [hk]; first | (rw [if_pos (by omega)]; done) | (rw [if_neg (by omega)])) (by omega))]
            refine gk_if_eq (tgt := 534) G dL_law_529 (by decide) (fun c_529 => ?_) (fun c_529 => ?_)
            · exact gk_lsub (lv' := [(0, .ref b), (1, .ref g), (2, .ref a), (3, .int (nI t)), (4, .int x), (5, .int (nI nk)), (6, .int (nI nm)), (7, .ref rI), (10, .ref rL), (11, .ref rA), (12, .ref rO), (9, .int (nI (gm_sum M nk)))]) [0,1,2,3,4,5,6,7,8,9,10,12] rfl (K u504 hr504)
            · exact absurd c_529 (by decide)
set_option maxRecDepth 100000 in
set_option maxHeartbeats 4000000 in
theorem la_4 {p : Program} {l : Launch} {e : Env} {s : State} {m : MethodId} {below : List Frame} {meth : Method} {c : Code} {D : va_G} {A : Nat → Prop} {Q : State → Prop} {cI cZ cJ : ClassId} {b L : Nat} {xs : Nat → Int32} {g h1 h2 : Nat} {q1 q2 : Nat → Nat} {u : gw_U} {a : Nat} {v : gp_Q} {M : gm_M} {x : Int32} {nm nk c0 s0 t : Nat} (G : gk_G p s m ([.ref b] : List Value).toArray meth c RL 23 cL_law (some .boolean) wsL_law D (g_T cI cZ cJ) A) (wf : gm_wf M) (hrest : gm_rest M) (hm : M 10 0 = nm) (hk : M 11 0 = nk) (hh : M 9 0 < 1900000) (hE : gp_L b L xs A s s.heap) (hc0 : c0 ≤ 100000) (hs0 : s0 ≤ 1000000) (rI rL rA rO : Nat) (fi fl ft fo : Nat → Int32) (hr : gc_rep u.1.1 u.1.2 M) (K : ∀ (fo : Nat → Int32) (u : gw_U), gc_rep u.1.1 u.1.2 M → gk_C p l e room_1 s m ([.ref b] : List Value).toArray below meth c 23 D A Q c0 s0 ((gw_R cI rO nm fo ++ (gw_R cI rA nk ft ++ (gw_R cI rL nk fl ++ (gw_R cZ rI nk fi)))) ++ (gw_X cI cZ g h1 h2 q1 q2 u ++ (gp_U cI cJ a v))) [(0, .ref b), (1, .ref g), (2, .ref a), (3, .int (nI t)), (4, .int x), (5, .int (nI nk)), (6, .int (nI nm)), (7, .ref rI), (10, .ref rL), (11, .ref rA), (12, .ref rO), (9, .int (nI (gm_sum M nk)))] 585 []) : gk_C p l e room_1 s m ([.ref b] : List Value).toArray below meth c 23 D A Q c0 s0 ((gw_R cI rO nm fo ++ (gw_R cI rA nk ft ++ (gw_R cI rL nk fl ++ (gw_R cZ rI nk fi)))) ++ (gw_X cI cZ g h1 h2 q1 q2 u ++ (gp_U cI cJ a v))) [(0, .ref b), (1, .ref g), (2, .ref a), (3, .int (nI t)), (4, .int x), (5, .int (nI nk)), (6, .int (nI nm)), (7, .ref rI), (10, .ref rL), (11, .ref rA), (12, .ref rO), (9, .int (nI (gm_sum M nk)))] 534 [] := by
  obtain ⟨hz1, hz2, hz3, hz4, hz5, hz6, hz7, hz8⟩ := id wf
  have hun := gp_un_le M nk
  have L537 : ∀ (n : Nat) (k : Nat) (u : gw_U) (fo : Nat → Int32), nm - k < n → (k ≤ nm) → (gc_rep u.1.1 u.1.2 M) → gk_C p l e room_1 s m ([.ref b] : List Value).toArray below meth c 23 D A Q c0 s0 ((gw_R cI rO nm fo ++ (gw_R cI rA nk ft ++ (gw_R cI rL nk fl ++ (gw_R cZ rI nk fi)))) ++ (gw_X cI cZ g h1 h2 q1 q2 u ++ (gp_U cI cJ a v))) [(0, .ref b), (1, .ref g), (2, .ref a), (3, .int (nI t)), (4, .int x), (5, .int (nI nk)), (6, .int (nI nm)), (7, .ref rI), (10, .ref rL), (11, .ref rA), (12, .ref rO), (9, .int (nI (gm_sum M nk))), (13, .int (nI k))] 537 [] := by
    intro n
    induction n with
    | zero => intro k u fo h0; exact absurd h0 (Nat.not_lt_zero _)
    | succ n ih =>
      intro k u fo h0 w0 w1
      refine gk_iload G dL_law_537 12 rfl ?_
      refine gk_iload G dL_law_539 6 rfl ?_
      refine gk_icmp_ge (tgt := 585) G dL_law_541 (by decide) (fun c_541 => ?_) (fun c_541 => ?_)
      · replace c_541 := (nI_leI (a := nm) (b := k) (by omega) (by omega)).mp c_541
        exact gk_lsub (lv' := [(0, .ref b), (1, .ref g), (2, .ref a), (3, .int (nI t)), (4, .int x), (5, .int (nI nk)), (6, .int (nI nm)), (7, .ref rI), (10, .ref rL), (11, .ref rA), (12, .ref rO), (9, .int (nI (gm_sum M nk)))]) [0,1,2,3,4,5,6,7,8,9,10,11] rfl (K fo u w1)
      · replace c_541 := (not_congr (nI_leI (a := nm) (b := k) (by omega) (by omega))).mp c_541
        have hwl := gm_who_le M k (M 11 0)
        refine gk_aload G dL_law_544 10 rfl ?_
        refine gk_iload G dL_law_546 12 rfl ?_
        refine gk_aload_n G dL_law_548 1 rfl ?_
        refine gk_iload G dL_law_549 12 rfl ?_
        refine gq_sackOn_ok (Y := (gw_R cI rO nm fo ++ (gw_R cI rA nk ft ++ (gw_R cI rL nk fl ++ (gw_R cZ rI nk fi))))) G gL_law_X1_sackOn hE.1.1 ⟨(Nat.le_of_ble_eq_true rfl), (Nat.le_of_ble_eq_true rfl)⟩ ⟨by show c0 ≤ 600130; omega, by show s0 ≤ 7301080; omega⟩ k wf w1 (by omega) (Nat.le_of_ble_eq_true rfl) dL_law_551 (fun u551 hr551 => ?_)
        show gk_C p l e room_1 s m ([.ref b] : List Value).toArray below meth c 23 D A Q c0 s0 ((gw_R cI rO nm fo ++ (gw_R cI rA nk ft ++ (gw_R cI rL nk fl ++ (gw_R cZ rI nk fi)))) ++ (gw_X cI cZ g h1 h2 q1 q2 u551 ++ (gp_U cI cJ a v))) [(0, .ref b), (1, .ref g), (2, .ref a), (3, .int (nI t)), (4, .int x), (5, .int (nI nk)), (6, .int (nI nm)), (7, .ref rI), (10, .ref rL), (11, .ref rA), (12, .ref rO), (9, .int (nI (gm_sum M nk))), (13, .int (nI k))] 554 [.int (gm_e (gm_who M k (M 11 0))), .int (nI k), .ref rO]
        refine gk_topi (fun v554 ev554 => ?_)
        refine gk_iast (w' := ((gw_R cI rO nm (upd fo k v554) ++ (gw_R cI rA nk ft ++ (gw_R cI rL nk fl ++ (gw_R cZ rI nk fi)))) ++ (gw_X cI cZ g h1 h2 q1 q2 u551 ++ (gp_U cI cJ a v)))) G (q0 := 0) (t0 := 0) rfl rfl k rfl (by omega) (by omega) rfl dL_law_554 ?_
        refine gk_aload G dL_law_555 10 rfl ?_
        refine gk_iload G dL_law_557 12 rfl ?_
        refine gk_iald (v := gm_e (gm_who M k (M 11 0))) G (q0 := 0) (t0 := 0) rfl rfl k rfl (by omega) (by omega) (pk_us.trans ev554) dL_law_559 ?_
        refine gk_if_lt (tgt := 579) G dL_law_560 (by decide) (fun c_560 => ?_) (fun c_560 => ?_)
        · replace c_560 := (gp_e_lt (n := gm_who M k (M 11 0)) (by omega)).mp c_560
          refine gk_iinc (j := 12) (v := nI (k + 1)) (lv' := [(13, .int (nI (k + 1))), (0, .ref b), (1, .ref g), (2, .ref a), (3, .int (nI t)), (4, .int x), (5, .int (nI nk)), (6, .int (nI nm)), (7, .ref rI), (10, .ref rL), (11, .ref rA), (12, .ref rO), (9, .int (nI (gm_sum M nk)))]) G dL_law_579 rfl (nI_add k 1) (by decide) rfl ?_
          refine gk_goto (tgt := 537) G dL_law_582 (by decide) ?_
          exact gk_lsub (lv' := [(0, .ref b), (1, .ref g), (2, .ref a), (3, .int (nI t)), (4, .int x), (5, .int (nI nk)), (6, .int (nI nm)), (7, .ref rI), (10, .ref rL), (11, .ref rA), (12, .ref rO), (9, .int (nI (gm_sum M nk))), (13, .int (nI (k + 1)))]) [1,2,3,4,5,6,7,8,9,10,11,12,0] rfl (ih (k + 1) u551 _ (by omega) (by omega) hr551)
        · replace c_560 := (not_congr (gp_e_lt (n := gm_who M k (M 11 0)) (by omega))).mp c_560
          refine gk_aload_n G dL_law_563 1 rfl ?_
          refine gk_aload G dL_law_564 10 rfl ?_
          refine gk_iload G dL_law_566 12 rfl ?_
          refine gk_iald (v := gm_e (gm_who M k (M 11 0))) G (q0 := 0) (t0 := 0) rfl rfl k rfl (by omega) (by omega) (pk_us.trans ev554) dL_law_568 ?_
          refine gk_steq (st' := [.int (nI (gm_who M k (M 11 0) - 1)), .ref g]) (by rw [gm_e_pred (show gm_who M k (M 11 0) ≠ 0 by omega)]) ?_
          refine gq_stoneOf_ok (Y := (gw_R cI rO nm (upd fo k v554) ++ (gw_R cI rA nk ft ++ (gw_R cI rL nk fl ++ (gw_R cZ rI nk fi))))) G gL_law_X1_stoneOf hE.1.1 ⟨(Nat.le_of_ble_eq_true rfl), (Nat.le_of_ble_eq_true rfl)⟩ ⟨by show c0 ≤ 600130; omega, by show s0 ≤ 7301080; omega⟩ (gm_who M k (M 11 0) - 1) wf hr551 (by omega) (Nat.le_of_ble_eq_true rfl) dL_law_569 (fun u569 hr569 => ?_)
          show gk_C p l e room_1 s m ([.ref b] : List Value).toArray below meth c 23 D A Q c0 s0 ((gw_R cI rO nm (upd fo k v554) ++ (gw_R cI rA nk ft ++ (gw_R cI rL nk fl ++ (gw_R cZ rI nk fi)))) ++ (gw_X cI cZ g h1 h2 q1 q2 u569 ++ (gp_U cI cJ a v))) [(0, .ref b), (1, .ref g), (2, .ref a), (3, .int (nI t)), (4, .int x), (5, .int (nI nk)), (6, .int (nI nm)), (7, .ref rI), (10, .ref rL), (11, .ref rA), (12, .ref rO), (9, .int (nI (gm_sum M nk))), (13, .int (nI k))] 572 [.int (gm_e (M 7 (gm_who M k (M 11 0) - 1)))]
          refine gk_iload G dL_law_572 12 rfl ?_
          refine gk_icmp_eq (tgt := 579) G dL_law_574 (by decide) (fun c_574 => ?_) (fun c_574 => ?_)
          · refine gk_iinc (j := 12) (v := nI (k + 1)) (lv' := [(13, .int (nI (k + 1))), (0, .ref b), (1, .ref g), (2, .ref a), (3, .int (nI t)), (4, .int x), (5, .int (nI nk)), (6, .int (nI nm)), (7, .ref rI), (10, .ref rL), (11, .ref rA), (12, .ref rO), (9, .int (nI (gm_sum M nk)))]) G dL_law_579 rfl (nI_add k 1) (by decide) rfl ?_
            refine gk_goto (tgt := 537) G dL_law_582 (by decide) ?_
            exact gk_lsub (lv' := [(0, .ref b), (1, .ref g), (2, .ref a), (3, .int (nI t)), (4, .int x), (5, .int (nI nk)), (6, .int (nI nm)), (7, .ref rI), (10, .ref rL), (11, .ref rA), (12, .ref rO), (9, .int (nI (gm_sum M nk))), (13, .int (nI (k + 1)))]) [1,2,3,4,5,6,7,8,9,10,11,12,0] rfl (ih (k + 1) u569 _ (by omega) (by omega) hr569)
          · exact absurd (by rw [gm_who_on (M := M) (m := k) (M 11 0) (by omega), gm_eS]) c_574
  refine gk_iconst (v := nI 0) G dL_law_534 (by decide) ?_
  refine gk_istore (lv' := [(13, .int (nI 0)), (0, .ref b), (1, .ref g), (2, .ref a), (3, .int (nI t)), (4, .int x), (5, .int (nI nk)), (6, .int (nI nm)), (7, .ref rI), (10, .ref rL), (11, .ref rA), (12, .ref rO), (9, .int (nI (gm_sum M nk)))]) G dL_law_535 (by decide) rfl ?_
  exact gk_lsub (lv' := [(0, .ref b), (1, .ref g), (2, .ref a), (3, .int (nI t)), (4, .int x), (5, .int (nI nk)), (6, .int (nI nm)), (7, .ref rI), (10, .ref rL), (11, .ref rA), (12, .ref rO), (9, .int (nI (gm_sum M nk))), (13, .int (nI 0))]) [1,2,3,4,5,6,7,8,9,10,11,12,0] rfl (L537 (nm + 1) 0 u fo (by omega) (Nat.zero_le _) hr)
set_option maxRecDepth 100000 in
set_option maxHeartbeats 4000000 in
theorem la_5 {p : Program} {l : Launch} {e : Env} {s : State} {m : MethodId} {below : List Frame} {meth : Method} {c : Code} {D : va_G} {A : Nat → Prop} {Q : State → Prop} {cI cZ cJ : ClassId} {b L : Nat} {xs : Nat → Int32} {g h1 h2 : Nat} {q1 q2 : Nat → Nat} {u : gw_U} {a : Nat} {v : gp_Q} {M : gm_M} {x : Int32} {nm nk c0 s0 t : Nat} (G : gk_G p s m ([.ref b] : List Value).toArray meth c RL 23 cL_law (some .boolean) wsL_law D (g_T cI cZ cJ) A) (wf : gm_wf M) (hrest : gm_rest M) (hm : M 10 0 = nm) (hk : M 11 0 = nk) (hh : M 9 0 < 1900000) (hE : gp_L b L xs A s s.heap) (hc0 : c0 ≤ 100000) (hs0 : s0 ≤ 1000000) (rI rL rA rO : Nat) (fi fl ft fo : Nat → Int32) (hr : gc_rep u.1.1 u.1.2 M) (K : ∀ u : gw_U, gc_rep u.1.1 u.1.2 M → gk_C p l e room_1 s m ([.ref b] : List Value).toArray below meth c 23 D A Q c0 s0 ((gw_R cI rO nm fo ++ (gw_R cI rA nk ft ++ (gw_R cI rL nk fl ++ (gw_R cZ rI nk fi)))) ++ (gw_X cI cZ g h1 h2 q1 q2 u ++ (gp_U cI cJ a v))) [(0, .ref b), (1, .ref g), (2, .ref a), (3, .int (nI t)), (4, .int x), (5, .int (nI nk)), (6, .int (nI nm)), (7, .ref rI), (10, .ref rL), (11, .ref rA), (12, .ref rO), (9, .int (nI (gm_sum M nk))), (13, .int (nI (gp_bk M nk 8)))] 615 []) : gk_C p l e room_1 s m ([.ref b] : List Value).toArray below meth c 23 D A Q c0 s0 ((gw_R cI rO nm fo ++ (gw_R cI rA nk ft ++ (gw_R cI rL nk fl ++ (gw_R cZ rI nk fi)))) ++ (gw_X cI cZ g h1 h2 q1 q2 u ++ (gp_U cI cJ a v))) [(0, .ref b), (1, .ref g), (2, .ref a), (3, .int (nI t)), (4, .int x), (5, .int (nI nk)), (6, .int (nI nm)), (7, .ref rI), (10, .ref rL), (11, .ref rA), (12, .ref rO), (9, .int (nI (gm_sum M nk)))] 585 [] := by
  obtain ⟨hz1, hz2, hz3, hz4, hz5, hz6, hz7, hz8⟩ := id wf
  have hun := gp_un_le M nk
  have L591 : ∀ (n : Nat) (k : Nat) (u : gw_U), 8 - k < n → (k ≤ 8) → (gc_rep u.1.1 u.1.2 M) → gk_C p l e room_1 s m ([.ref b] : List Value).toArray below meth c 23 D A Q c0 s0 ((gw_R cI rO nm fo ++ (gw_R cI rA nk ft ++ (gw_R cI rL nk fl ++ (gw_R cZ rI nk fi)))) ++ (gw_X cI cZ g h1 h2 q1 q2 u ++ (gp_U cI cJ a v))) [(0, .ref b), (1, .ref g), (2, .ref a), (3, .int (nI t)), (4, .int x), (5, .int (nI nk)), (6, .int (nI nm)), (7, .ref rI), (10, .ref rL), (11, .ref rA), (12, .ref rO), (9, .int (nI (gm_sum M nk))), (13, .int (nI (gp_bk M nk k))), (14, .int (nI k))] 591 [] := by
    intro n
    induction n with
    | zero => intro k u h0; exact absurd h0 (Nat.not_lt_zero _)
    | succ n ih =>
      intro k u h0 w0 w1
      refine gk_iload G dL_law_591 13 rfl ?_
      refine gk_bipush (v := nI 8) G dL_law_593 (by decide) ?_
      refine gk_icmp_ge (tgt := 615) G dL_law_595 (by decide) (fun c_595 => ?_) (fun c_595 => ?_)
      · replace c_595 := (nI_leI (a := 8) (b := k) (by omega) (by omega)).mp c_595
        have ek : k = 8 := by omega
        subst ek
        exact gk_lsub (lv' := [(0, .ref b), (1, .ref g), (2, .ref a), (3, .int (nI t)), (4, .int x), (5, .int (nI nk)), (6, .int (nI nm)), (7, .ref rI), (10, .ref rL), (11, .ref rA), (12, .ref rO), (9, .int (nI (gm_sum M nk))), (13, .int (nI (gp_bk M nk 8)))]) [0,1,2,3,4,5,6,7,8,9,10,11,12] rfl (K u w1)
      · replace c_595 := (not_congr (nI_leI (a := 8) (b := k) (by omega) (by omega))).mp c_595
        refine gk_iload G dL_law_598 12 rfl ?_
        refine gk_aload_n G dL_law_600 1 rfl ?_
        refine gk_iload G dL_law_601 13 rfl ?_
        refine gq_leftFor_ok (Y := (gw_R cI rO nm fo ++ (gw_R cI rA nk ft ++ (gw_R cI rL nk fl ++ (gw_R cZ rI nk fi))))) G gL_law_X1_leftFor hE.1.1 ⟨(Nat.le_of_ble_eq_true rfl), (Nat.le_of_ble_eq_true rfl)⟩ ⟨by show c0 ≤ 600130; omega, by show s0 ≤ 7301080; omega⟩ k wf w1 (by omega) (Nat.le_of_ble_eq_true rfl) dL_law_603 (fun u603 hr603 => ?_)
        rw [hk]
        show gk_C p l e room_1 s m ([.ref b] : List Value).toArray below meth c 23 D A Q c0 s0 ((gw_R cI rO nm fo ++ (gw_R cI rA nk ft ++ (gw_R cI rL nk fl ++ (gw_R cZ rI nk fi)))) ++ (gw_X cI cZ g h1 h2 q1 q2 u603 ++ (gp_U cI cJ a v))) [(0, .ref b), (1, .ref g), (2, .ref a), (3, .int (nI t)), (4, .int x), (5, .int (nI nk)), (6, .int (nI nm)), (7, .ref rI), (10, .ref rL), (11, .ref rA), (12, .ref rO), (9, .int (nI (gm_sum M nk))), (13, .int (nI (gp_bk M nk k))), (14, .int (nI k))] 606 [.int (nI (gm_rst M k nk)), .int (nI (gp_bk M nk k))]
        refine gk_iadd (v := nI ((gp_bk M nk k) + (gm_rst M k nk))) G dL_law_606 (nI_add (gp_bk M nk k) (gm_rst M k nk)) ?_
        refine gk_istore (lv' := [(13, .int (nI ((gp_bk M nk k) + (gm_rst M k nk)))), (0, .ref b), (1, .ref g), (2, .ref a), (3, .int (nI t)), (4, .int x), (5, .int (nI nk)), (6, .int (nI nm)), (7, .ref rI), (10, .ref rL), (11, .ref rA), (12, .ref rO), (9, .int (nI (gm_sum M nk))), (14, .int (nI k))]) G dL_law_607 (by decide) rfl ?_
        refine gk_iinc (j := 13) (v := nI (k + 1)) (lv' := [(14, .int (nI (k + 1))), (13, .int (nI ((gp_bk M nk k) + (gm_rst M k nk)))), (0, .ref b), (1, .ref g), (2, .ref a), (3, .int (nI t)), (4, .int x), (5, .int (nI nk)), (6, .int (nI nm)), (7, .ref rI), (10, .ref rL), (11, .ref rA), (12, .ref rO), (9, .int (nI (gm_sum M nk)))]) G dL_law_609 rfl (nI_add k 1) (by decide) rfl ?_
        refine gk_goto (tgt := 591) G dL_law_612 (by decide) ?_
        exact gk_lsub (lv' := [(0, .ref b), (1, .ref g), (2, .ref a), (3, .int (nI t)), (4, .int x), (5, .int (nI nk)), (6, .int (nI nm)), (7, .ref rI), (10, .ref rL), (11, .ref rA), (12, .ref rO), (9, .int (nI (gm_sum M nk))), (13, .int (nI (gp_bk M nk (k + 1)))), (14, .int (nI (k + 1)))]) [2,3,4,5,6,7,8,9,10,11,12,13,1,0] rfl (ih (k + 1) u603 (by omega) (by omega) hr603)
  refine gk_iconst (v := nI 0) G dL_law_585 (by decide) ?_
  refine gk_istore (lv' := [(13, .int (nI 0)), (0, .ref b), (1, .ref g), (2, .ref a), (3, .int (nI t)), (4, .int x), (5, .int (nI nk)), (6, .int (nI nm)), (7, .ref rI), (10, .ref rL), (11, .ref rA), (12, .ref rO), (9, .int (nI (gm_sum M nk)))]) G dL_law_586 (by decide) rfl ?_
  refine gk_iconst (v := nI 0) G dL_law_588 (by decide) ?_
  refine gk_istore (lv' := [(14, .int (nI 0)), (13, .int (nI 0)), (0, .ref b), (1, .ref g), (2, .ref a), (3, .int (nI t)), (4, .int x), (5, .int (nI nk)), (6, .int (nI nm)), (7, .ref rI), (10, .ref rL), (11, .ref rA), (12, .ref rO), (9, .int (nI (gm_sum M nk)))]) G dL_law_589 (by decide) rfl ?_
  exact gk_lsub (lv' := [(0, .ref b), (1, .ref g), (2, .ref a), (3, .int (nI t)), (4, .int x), (5, .int (nI nk)), (6, .int (nI nm)), (7, .ref rI), (10, .ref rL), (11, .ref rA), (12, .ref rO), (9, .int (nI (gm_sum M nk))), (13, .int (nI (gp_bk M nk 0))), (14, .int (nI 0))]) [2,3,4,5,6,7,8,9,10,11,12,13,1,0] rfl (L591 9 0 u (by omega) (by omega) hr)
set_option maxRecDepth 100000 in
set_option maxHeartbeats 4000000 in
theorem la_6 {p : Program} {l : Launch} {e : Env} {s : State} {m : MethodId} {below : List Frame} {meth : Method} {c : Code} {D : va_G} {A : Nat → Prop} {Q : State → Prop} {cI cZ cJ : ClassId} {b L : Nat} {xs : Nat → Int32} {g h1 h2 : Nat} {q1 q2 : Nat → Nat} {u : gw_U} {a : Nat} {v : gp_Q} {M : gm_M} {x : Int32} {nm nk c0 s0 t : Nat} (G : gk_G p s m ([.ref b] : List Value).toArray meth c RL 23 cL_law (some .boolean) wsL_law D (g_T cI cZ cJ) A) (wf : gm_wf M) (hrest : gm_rest M) (hm : M 10 0 = nm) (hk : M 11 0 = nk) (hh : M 9 0 < 1900000) (hE : gp_L b L xs A s s.heap) (hc0 : c0 ≤ 100000) (hs0 : s0 ≤ 1000000) (rI rL rA rO : Nat) (fi fl ft fo : Nat → Int32) (hr : gc_rep u.1.1 u.1.2 M) (K : ∀ u : gw_U, gc_rep u.1.1 u.1.2 M → gk_C p l e room_1 s m ([.ref b] : List Value).toArray below meth c 23 D A Q c0 s0 ((gw_R cI rO nm fo ++ (gw_R cI rA nk ft ++ (gw_R cI rL nk fl ++ (gw_R cZ rI nk fi)))) ++ (gw_X cI cZ g h1 h2 q1 q2 u ++ (gp_U cI cJ a v))) [(0, .ref b), (1, .ref g), (2, .ref a), (3, .int (nI t)), (4, .int x), (5, .int (nI nk)), (6, .int (nI nm)), (7, .ref rI), (10, .ref rL), (11, .ref rA), (12, .ref rO), (9, .int (nI (gm_sum M nk))), (13, .int (nI (gp_bk M nk 8)))] 659 []) : gk_C p l e room_1 s m ([.ref b] : List Value).toArray below meth c 23 D A Q c0 s0 ((gw_R cI rO nm fo ++ (gw_R cI rA nk ft ++ (gw_R cI rL nk fl ++ (gw_R cZ rI nk fi)))) ++ (gw_X cI cZ g h1 h2 q1 q2 u ++ (gp_U cI cJ a v))) [(0, .ref b), (1, .ref g), (2, .ref a), (3, .int (nI t)), (4, .int x), (5, .int (nI nk)), (6, .int (nI nm)), (7, .ref rI), (10, .ref rL), (11, .ref rA), (12, .ref rO), (9, .int (nI (gm_sum M nk))), (13, .int (nI (gp_bk M nk 8)))] 615 [] := by
  obtain ⟨hz1, hz2, hz3, hz4, hz5, hz6, hz7, hz8⟩ := id wf
  have hun := gp_un_le M nk
  have hb2 := gp_bel_lt (x >>> (nI 2 &&& 31)) (show 0 < 2 by decide)
  have hb2x := gp_bel_lt x (show 0 < 2 by decide)
  have L618 : ∀ (n : Nat) (k : Nat) (u : gw_U), 3 - k < n → (k ≤ 3) → (gc_rep u.1.1 u.1.2 M) → gk_C p l e room_1 s m ([.ref b] : List Value).toArray below meth c 23 D A Q c0 s0 ((gw_R cI rO nm fo ++ (gw_R cI rA nk ft ++ (gw_R cI rL nk fl ++ (gw_R cZ rI nk fi)))) ++ (gw_X cI cZ g h1 h2 q1 q2 u ++ (gp_U cI cJ a v))) [(0, .ref b), (1, .ref g), (2, .ref a), (3, .int (nI t)), (4, .int x), (5, .int (nI nk)), (6, .int (nI nm)), (7, .ref rI), (10, .ref rL), (11, .ref rA), (12, .ref rO), (9, .int (nI (gm_sum M nk))), (13, .int (nI (gp_bk M nk 8))), (14, .int (nI k))] 618 [] := by
    intro n
    induction n with
    | zero => intro k u h0; exact absurd h0 (Nat.not_lt_zero _)
    | succ n ih =>
      intro k u h0 w0 w1
      refine gk_iload G dL_law_618 13 rfl ?_
      refine gk_iconst (v := nI 3) G dL_law_620 (by decide) ?_
      refine gk_icmp_ge (tgt := 659) G dL_law_621 (by decide) (fun c_621 => ?_) (fun c_621 => ?_)
      · replace c_621 := (nI_leI (a := 3) (b := k) (by omega) (by omega)).mp c_621
        exact gk_lsub (lv' := [(0, .ref b), (1, .ref g), (2, .ref a), (3, .int (nI t)), (4, .int x), (5, .int (nI nk)), (6, .int (nI nm)), (7, .ref rI), (10, .ref rL), (11, .ref rA), (12, .ref rO), (9, .int (nI (gm_sum M nk))), (13, .int (nI (gp_bk M nk 8)))]) [0,1,2,3,4,5,6,7,8,9,10,11,12] rfl (K u w1)
      · replace c_621 := (not_congr (nI_leI (a := 3) (b := k) (by omega) (by omega))).mp c_621
        refine gk_aload_n G dL_law_624 1 rfl ?_
        refine gk_iload G dL_law_625 13 rfl ?_
        refine gk_iload G dL_law_627 4 rfl ?_
        refine gk_iconst (v := nI 2) G dL_law_629 (by decide) ?_
        refine gp_below (n := 2) (v := x) G gL_law_L_below ⟨(Nat.le_of_ble_eq_true rfl), (Nat.le_of_ble_eq_true rfl)⟩ ⟨by show c0 ≤ 600130; omega, by show s0 ≤ 7301080; omega⟩ (by omega) (by omega) (Nat.le_of_ble_eq_true rfl) dL_law_630 ?_
        show gk_C p l e room_1 s m ([.ref b] : List Value).toArray below meth c 23 D A Q c0 s0 ((gw_R cI rO nm fo ++ (gw_R cI rA nk ft ++ (gw_R cI rL nk fl ++ (gw_R cZ rI nk fi)))) ++ (gw_X cI cZ g h1 h2 q1 q2 u ++ (gp_U cI cJ a v))) [(0, .ref b), (1, .ref g), (2, .ref a), (3, .int (nI t)), (4, .int x), (5, .int (nI nk)), (6, .int (nI nm)), (7, .ref rI), (10, .ref rL), (11, .ref rA), (12, .ref rO), (9, .int (nI (gm_sum M nk))), (13, .int (nI (gp_bk M nk 8))), (14, .int (nI k))] 633 [.int (nI (gp_bel x 2)), .int (nI k), .ref g]
        refine gk_if_ne (tgt := 640) G dL_law_633 (by decide) (fun c_633 => ?_) (fun c_633 => ?_)
        · replace c_633 := (not_congr (nI_eq (a := gp_bel x 2) (b := 0) (by omega) (by omega))).mp c_633
          refine gk_iconst (v := nI 0) G dL_law_640 (by decide) ?_
          have hlw := gp_late_lw wf (show k ≤ 2 by omega) (show 0 ≤ 1 by decide)
          have hll := gm_lw_lt (r := k) (o := 0) wf (by omega) (by decide) (by omega)
          refine gq_lateWith_ok (Y := (gw_R cI rO nm fo ++ (gw_R cI rA nk ft ++ (gw_R cI rL nk fl ++ (gw_R cZ rI nk fi))))) G gL_law_X1_lateWith hE.1.1 ⟨(Nat.le_of_ble_eq_true rfl), (Nat.le_of_ble_eq_true rfl)⟩ ⟨by show c0 ≤ 600130; omega, by show s0 ≤ 7301080; omega⟩ k 0 wf w1 hrest (by omega) (by omega) (by decide) (Nat.le_of_ble_eq_true rfl) dL_law_641 (fun u641 hr641 => ?_)
          show gk_C p l e room_1 s m ([.ref b] : List Value).toArray below meth c 23 D A Q c0 s0 ((gw_R cI rO nm fo ++ (gw_R cI rA nk ft ++ (gw_R cI rL nk fl ++ (gw_R cZ rI nk fi)))) ++ (gw_X cI cZ g h1 h2 q1 q2 u641 ++ (gp_U cI cJ a v))) [(0, .ref b), (1, .ref g), (2, .ref a), (3, .int (nI t)), (4, .int x), (5, .int (nI nk)), (6, .int (nI nm)), (7, .ref rI), (10, .ref rL), (11, .ref rA), (12, .ref rO), (9, .int (nI (gm_sum M nk))), (13, .int (nI (gp_bk M nk 8))), (14, .int (nI k))] 644 [.int (nI (gm_lw M k 0))]
          refine gk_aload_n G dL_law_644 1 rfl ?_
          refine gq_late (Y := (gw_R cI rO nm fo ++ (gw_R cI rA nk ft ++ (gw_R cI rL nk fl ++ (gw_R cZ rI nk fi))))) G gL_law_X1_late hE.1.1 ⟨(Nat.le_of_ble_eq_true rfl), (Nat.le_of_ble_eq_true rfl)⟩ ⟨by show c0 ≤ 600130; omega, by show s0 ≤ 7301080; omega⟩ wf hr641 hrest (by omega) (Nat.le_of_ble_eq_true rfl) dL_law_645 (fun u645 hr645 => ?_)
          show gk_C p l e room_1 s m ([.ref b] : List Value).toArray below meth c 23 D A Q c0 s0 ((gw_R cI rO nm fo ++ (gw_R cI rA nk ft ++ (gw_R cI rL nk fl ++ (gw_R cZ rI nk fi)))) ++ (gw_X cI cZ g h1 h2 q1 q2 u645 ++ (gp_U cI cJ a v))) [(0, .ref b), (1, .ref g), (2, .ref a), (3, .int (nI t)), (4, .int x), (5, .int (nI nk)), (6, .int (nI nm)), (7, .ref rI), (10, .ref rL), (11, .ref rA), (12, .ref rO), (9, .int (nI (gm_sum M nk))), (13, .int (nI (gp_bk M nk 8))), (14, .int (nI k))] 648 [.int (nI (gm_late M 0 (M 11 0))), .int (nI (gm_lw M k 0))]
          refine gk_icmp_ge (tgt := 653) G dL_law_648 (by decide) (fun c_648 => ?_) (fun c_648 => ?_)
          · replace c_648 := (nI_leI (a := gm_late M 0 (M 11 0)) (b := gm_lw M k 0) (by omega) (by omega)).mp c_648
            refine gk_iinc (j := 13) (v := nI (k + 1)) (lv' := [(14, .int (nI (k + 1))), (0, .ref b), (1, .ref g), (2, .ref a), (3, .int (nI t)), (4, .int x), (5, .int (nI nk)), (6, .int (nI nm)), (7, .ref rI), (10, .ref rL), (11, .ref rA), (12, .ref rO), (9, .int (nI (gm_sum M nk))), (13, .int (nI (gp_bk M nk 8)))]) G dL_law_653 rfl (nI_add k 1) (by decide) rfl ?_
            refine gk_goto (tgt := 618) G dL_law_656 (by decide) ?_
            exact gk_lsub (lv' := [(0, .ref b), (1, .ref g), (2, .ref a), (3, .int (nI t)), (4, .int x), (5, .int (nI nk)), (6, .int (nI nm)), (7, .ref rI), (10, .ref rL), (11, .ref rA), (12, .ref rO), (9, .int (nI (gm_sum M nk))), (13, .int (nI (gp_bk M nk 8))), (14, .int (nI (k + 1)))]) [1,2,3,4,5,6,7,8,9,10,11,12,13,0] rfl (ih (k + 1) u645 (by omega) (by omega) hr645)
          · replace c_648 := (not_congr (nI_leI (a := gm_late M 0 (M 11 0)) (b := gm_lw M k 0) (by omega) (by omega))).mp c_648
            omega
        · replace c_633 := (nI_eq (a := gp_bel x 2) (b := 0) (by omega) (by omega)).mp c_633
          refine gk_iconst (v := nI 1) G dL_law_636 (by decide) ?_
          refine gk_goto (tgt := 641) G dL_law_637 (by decide) ?_
          have hlw := gp_late_lw wf (show k ≤ 2 by omega) (show 1 ≤ 1 by decide)
          have hll := gm_lw_lt (r := k) (o := 1) wf (by omega) (by decide) (by omega)
          refine gq_lateWith_ok (Y := (gw_R cI rO nm fo ++ (gw_R cI rA nk ft ++ (gw_R cI rL nk fl ++ (gw_R cZ rI nk fi))))) G gL_law_X1_lateWith hE.1.1 ⟨(Nat.le_of_ble_eq_true rfl), (Nat.le_of_ble_eq_true rfl)⟩ ⟨by show c0 ≤ 600130; omega, by show s0 ≤ 7301080; omega⟩ k 1 wf w1 hrest (by omega) (by omega) (by decide) (Nat.le_of_ble_eq_true rfl) dL_law_641 (fun u641 hr641 => ?_)
          show gk_C p l e room_1 s m ([.ref b] : List Value).toArray below meth c 23 D A Q c0 s0 ((gw_R cI rO nm fo ++ (gw_R cI rA nk ft ++ (gw_R cI rL nk fl ++ (gw_R cZ rI nk fi)))) ++ (gw_X cI cZ g h1 h2 q1 q2 u641 ++ (gp_U cI cJ a v))) [(0, .ref b), (1, .ref g), (2, .ref a), (3, .int (nI t)), (4, .int x), (5, .int (nI nk)), (6, .int (nI nm)), (7, .ref rI), (10, .ref rL), (11, .ref rA), (12, .ref rO), (9, .int (nI (gm_sum M nk))), (13, .int (nI (gp_bk M nk 8))), (14, .int (nI k))] 644 [.int (nI (gm_lw M k 1))]
          refine gk_aload_n G dL_law_644 1 rfl ?_
          refine gq_late (Y := (gw_R cI rO nm fo ++ (gw_R cI rA nk ft ++ (gw_R cI rL nk fl ++ (gw_R cZ rI nk fi))))) G gL_law_X1_late hE.1.1 ⟨(Nat.le_of_ble_eq_true rfl), (Nat.le_of_ble_eq_true rfl)⟩ ⟨by show c0 ≤ 600130; omega, by show s0 ≤ 7301080; omega⟩ wf hr641 hrest (by omega) (Nat.le_of_ble_eq_true rfl) dL_law_645 (fun u645 hr645 => ?_)
          show gk_C p l e room_1 s m ([.ref b] : List Value).toArray below meth c 23 D A Q c0 s0 ((gw_R cI rO nm fo ++ (gw_R cI rA nk ft ++ (gw_R cI rL nk fl ++ (gw_R cZ rI nk fi)))) ++ (gw_X cI cZ g h1 h2 q1 q2 u645 ++ (gp_U cI cJ a v))) [(0, .ref b), (1, .ref g), (2, .ref a), (3, .int (nI t)), (4, .int x), (5, .int (nI nk)), (6, .int (nI nm)), (7, .ref rI), (10, .ref rL), (11, .ref rA), (12, .ref rO), (9, .int (nI (gm_sum M nk))), (13, .int (nI (gp_bk M nk 8))), (14, .int (nI k))] 648 [.int (nI (gm_late M 0 (M 11 0))), .int (nI (gm_lw M k 1))]
          refine gk_icmp_ge (tgt := 653) G dL_law_648 (by decide) (fun c_648 => ?_) (fun c_648 => ?_)
          · replace c_648 := (nI_leI (a := gm_late M 0 (M 11 0)) (b := gm_lw M k 1) (by omega) (by omega)).mp c_648
            refine gk_iinc (j := 13) (v := nI (k + 1)) (lv' := [(14, .int (nI (k + 1))), (0, .ref b), (1, .ref g), (2, .ref a), (3, .int (nI t)), (4, .int x), (5, .int (nI nk)), (6, .int (nI nm)), (7, .ref rI), (10, .ref rL), (11, .ref rA), (12, .ref rO), (9, .int (nI (gm_sum M nk))), (13, .int (nI (gp_bk M nk 8)))]) G dL_law_653 rfl (nI_add k 1) (by decide) rfl ?_
            refine gk_goto (tgt := 618) G dL_law_656 (by decide) ?_
            exact gk_lsub (lv' := [(0, .ref b), (1, .ref g), (2, .ref a), (3, .int (nI t)), (4, .int x), (5, .int (nI nk)), (6, .int (nI nm)), (7, .ref rI), (10, .ref rL), (11, .ref rA), (12, .ref rO), (9, .int (nI (gm_sum M nk))), (13, .int (nI (gp_bk M nk 8))), (14, .int (nI (k + 1)))]) [1,2,3,4,5,6,7,8,9,10,11,12,13,0] rfl (ih (k + 1) u645 (by omega) (by omega) hr645)
          · replace c_648 := (not_congr (nI_leI (a := gm_late M 0 (M 11 0)) (b := gm_lw M k 1) (by omega) (by omega))).mp c_648
            omega
  refine gk_iconst (v := nI 0) G dL_law_615 (by decide) ?_
  refine gk_istore (lv' := [(14, .int (nI 0)), (0, .ref b), (1, .ref g), (2, .ref a), (3, .int (nI t)), (4, .int x), (5, .int (nI nk)), (6, .int (nI nm)), (7, .ref rI), (10, .ref rL), (11, .ref rA), (12, .ref rO), (9, .int (nI (gm_sum M nk))), (13, .int (nI (gp_bk M nk 8)))]) G dL_law_616 (by decide) rfl ?_
  exact gk_lsub (lv' := [(0, .ref b), (1, .ref g), (2, .ref a), (3, .int (nI t)), (4, .int x), (5, .int (nI nk)), (6, .int (nI nm)), (7, .ref rI), (10, .ref rL), (11, .ref rA), (12, .ref rO), (9, .int (nI (gm_sum M nk))), (13, .int (nI (gp_bk M nk 8))), (14, .int (nI 0))]) [1,2,3,4,5,6,7,8,9,10,11,12,13,0] rfl (L618 4 0 u (by omega) (Nat.zero_le _) hr)
set_option maxRecDepth 100000 in
set_option maxHeartbeats 4000000 in
theorem la_7 {p : Program} {l : Launch} {e : Env} {s : State} {m : MethodId} {below : List Frame} {meth : Method} {c : Code} {D : va_G} {A : Nat → Prop} {Q : State → Prop} {cI cZ cJ : ClassId} {b L : Nat} {xs : Nat → Int32} {g h1 h2 : Nat} {q1 q2 : Nat → Nat} {u : gw_U} {a : Nat} {v : gp_Q} {M : gm_M} {x : Int32} {nm nk c0 s0 t : Nat} (G : gk_G p s m ([.ref b] : List Value).toArray meth c RL 23 cL_law (some .boolean) wsL_law D (g_T cI cZ cJ) A) (wf : gm_wf M) (hrest : gm_rest M) (hm : M 10 0 = nm) (hk : M 11 0 = nk) (hh : M 9 0 < 1900000) (hE : gp_L b L xs A s s.heap) (hc0 : c0 ≤ 100000) (hs0 : s0 ≤ 1000000) (rI rL rA rO : Nat) (fi fl ft fo : Nat → Int32) (hr : gc_rep u.1.1 u.1.2 M) (hs : gp_ok v M) (h13b : M 13 0 ≤ 1000000) (K : ∀ (u : gw_U) (v9 : gp_Q), gc_rep u.1.1 u.1.2 (gm_hour M) → gp_ok v9 (gm_hour M) → gk_C p l e room_1 s m ([.ref b] : List Value).toArray below meth c 23 D A Q (c0 + 2) (s0 + 20) ((gw_R cI rO nm fo ++ (gw_R cI rA nk ft ++ (gw_R cI rL nk fl ++ (gw_R cZ rI nk fi)))) ++ (gw_X cI cZ g h1 h2 q1 q2 u ++ (gp_U cI cJ a v9))) [(0, .ref b), (1, .ref g), (2, .ref a), (3, .int (nI t)), (4, .int x), (5, .int (nI nk)), (6, .int (nI nm)), (7, .ref rI), (10, .ref rL), (11, .ref rA), (12, .ref rO), (9, .int (nI (gm_sum M nk))), (16, .int (nI (M 9 0))), (17, .int (nI (gm_hour M 16 0 - M 16 0)))] 751 []) : gk_C p l e room_1 s m ([.ref b] : List Value).toArray below meth c 23 D A Q c0 s0 ((gw_R cI rO nm fo ++ (gw_R cI rA nk ft ++ (gw_R cI rL nk fl ++ (gw_R cZ rI nk fi)))) ++ (gw_X cI cZ g h1 h2 q1 q2 u ++ (gp_U cI cJ a v))) [(0, .ref b), (1, .ref g), (2, .ref a), (3, .int (nI t)), (4, .int x), (5, .int (nI nk)), (6, .int (nI nm)), (7, .ref rI), (10, .ref rL), (11, .ref rA), (12, .ref rO), (9, .int (nI (gm_sum M nk))), (13, .int (nI (gp_bk M nk 8)))] 659 [] := by
  obtain ⟨hz1, hz2, hz3, hz4, hz5, hz6, hz7, hz8⟩ := id wf
  have hun := gp_un_le M nk
  have wf2 := gm_hour_wf wf
  have h16 := gm_h2_16 M
  have h16b := gm_hour_16 M
  have h16c := gp_ground9 wf
  have h13 := gp_hour_13 M
  have hwnd : gm_wnd M ≤ 20 := hz5 _ (Nat.mod_lt _ (by decide))
  have hsl := gm_sum_le wf nk (by omega)
  have hbk := gp_bk_le M nk 8
  refine gk_aload_n G dL_law_659 1 rfl ?_
  refine gq_wind (Y := (gw_R cI rO nm fo ++ (gw_R cI rA nk ft ++ (gw_R cI rL nk fl ++ (gw_R cZ rI nk fi))))) G gL_law_X1_wind hE.1.1 ⟨(Nat.le_of_ble_eq_true rfl), (Nat.le_of_ble_eq_true rfl)⟩ ⟨by show c0 ≤ 600130; omega, by show s0 ≤ 7301080; omega⟩ wf hr (by omega) (Nat.le_of_ble_eq_true rfl) dL_law_660 (fun u660 hr660 => ?_)
  show gk_C p l e room_1 s m ([.ref b] : List Value).toArray below meth c 23 D A Q c0 s0 ((gw_R cI rO nm fo ++ (gw_R cI rA nk ft ++ (gw_R cI rL nk fl ++ (gw_R cZ rI nk fi)))) ++ (gw_X cI cZ g h1 h2 q1 q2 u660 ++ (gp_U cI cJ a v))) [(0, .ref b), (1, .ref g), (2, .ref a), (3, .int (nI t)), (4, .int x), (5, .int (nI nk)), (6, .int (nI nm)), (7, .ref rI), (10, .ref rL), (11, .ref rA), (12, .ref rO), (9, .int (nI (gm_sum M nk))), (13, .int (nI (gp_bk M nk 8)))] 663 [.int (nI (gm_wnd M))]
  refine gk_istore (lv' := [(14, .int (nI (gm_wnd M))), (0, .ref b), (1, .ref g), (2, .ref a), (3, .int (nI t)), (4, .int x), (5, .int (nI nk)), (6, .int (nI nm)), (7, .ref rI), (10, .ref rL), (11, .ref rA), (12, .ref rO), (9, .int (nI (gm_sum M nk))), (13, .int (nI (gp_bk M nk 8)))]) G dL_law_663 (by decide) rfl ?_
  refine gk_aload_n G dL_law_665 2 rfl ?_
  refine gq_changes (Y := (gw_R cI rO nm fo ++ (gw_R cI rA nk ft ++ (gw_R cI rL nk fl ++ (gw_R cZ rI nk fi))))) G gL_law_X1_changes hE.1.1 ⟨(Nat.le_of_ble_eq_true rfl), (Nat.le_of_ble_eq_true rfl)⟩ ⟨by show c0 ≤ 600130; omega, by show s0 ≤ 7301080; omega⟩ wf hr660 (Nat.le_of_ble_eq_true rfl) dL_law_666 (fun u666 hr666 => ?_)
  show gk_C p l e room_1 s m ([.ref b] : List Value).toArray below meth c 23 D A Q c0 s0 ((gw_R cI rO nm fo ++ (gw_R cI rA nk ft ++ (gw_R cI rL nk fl ++ (gw_R cZ rI nk fi)))) ++ (gw_X cI cZ g h1 h2 q1 q2 u666 ++ (gp_U cI cJ a v))) [(14, .int (nI (gm_wnd M))), (0, .ref b), (1, .ref g), (2, .ref a), (3, .int (nI t)), (4, .int x), (5, .int (nI nk)), (6, .int (nI nm)), (7, .ref rI), (10, .ref rL), (11, .ref rA), (12, .ref rO), (9, .int (nI (gm_sum M nk))), (13, .int (nI (gp_bk M nk 8)))] 669 [.int (nI (M 13 0))]
  refine gk_istore (lv' := [(15, .int (nI (M 13 0))), (14, .int (nI (gm_wnd M))), (0, .ref b), (1, .ref g), (2, .ref a), (3, .int (nI t)), (4, .int x), (5, .int (nI nk)), (6, .int (nI nm)), (7, .ref rI), (10, .ref rL), (11, .ref rA), (12, .ref rO), (9, .int (nI (gm_sum M nk))), (13, .int (nI (gp_bk M nk 8)))]) G dL_law_669 (by decide) rfl ?_
  refine gk_aload_n G dL_law_671 3 rfl ?_
  refine gq_hour (Y := (gw_R cI rO nm fo ++ (gw_R cI rA nk ft ++ (gw_R cI rL nk fl ++ (gw_R cZ rI nk fi))))) G gL_law_X1_hour hE.1.1 ⟨(Nat.le_of_ble_eq_true rfl), (Nat.le_of_ble_eq_true rfl)⟩ ⟨by show c0 ≤ 600130; omega, by show s0 ≤ 7301080; omega⟩ wf hr666 (Nat.le_of_ble_eq_true rfl) dL_law_672 (fun u672 hr672 => ?_)
  show gk_C p l e room_1 s m ([.ref b] : List Value).toArray below meth c 23 D A Q c0 s0 ((gw_R cI rO nm fo ++ (gw_R cI rA nk ft ++ (gw_R cI rL nk fl ++ (gw_R cZ rI nk fi)))) ++ (gw_X cI cZ g h1 h2 q1 q2 u672 ++ (gp_U cI cJ a v))) [(15, .int (nI (M 13 0))), (14, .int (nI (gm_wnd M))), (0, .ref b), (1, .ref g), (2, .ref a), (3, .int (nI t)), (4, .int x), (5, .int (nI nk)), (6, .int (nI nm)), (7, .ref rI), (10, .ref rL), (11, .ref rA), (12, .ref rO), (9, .int (nI (gm_sum M nk))), (13, .int (nI (gp_bk M nk 8)))] 675 [.int (nI (M 9 0))]
  refine gk_istore (lv' := [(16, .int (nI (M 9 0))), (15, .int (nI (M 13 0))), (14, .int (nI (gm_wnd M))), (0, .ref b), (1, .ref g), (2, .ref a), (3, .int (nI t)), (4, .int x), (5, .int (nI nk)), (6, .int (nI nm)), (7, .ref rI), (10, .ref rL), (11, .ref rA), (12, .ref rO), (9, .int (nI (gm_sum M nk))), (13, .int (nI (gp_bk M nk 8)))]) G dL_law_675 (by decide) rfl ?_
  refine gk_aload_n G dL_law_677 4 rfl ?_
  refine gk_iconst (v := nI 1) G dL_law_678 (by decide) ?_
  refine gq_pass_ok (Y := (gw_R cI rO nm fo ++ (gw_R cI rA nk ft ++ (gw_R cI rL nk fl ++ (gw_R cZ rI nk fi))))) G gL_law_X1_pass hE.1.1 ⟨(Nat.le_of_ble_eq_true rfl), (Nat.le_of_ble_eq_true rfl)⟩ ⟨by show c0 ≤ 600130; omega, by show s0 ≤ 7301080; omega⟩ 1 wf hr672 hrest (by omega) (by decide) (by decide) (Nat.le_of_ble_eq_true rfl) dL_law_679 (fun u679 hr679 => ?_)
  show gk_C p l e room_1 s m ([.ref b] : List Value).toArray below meth c 23 D A Q c0 s0 ((gw_R cI rO nm fo ++ (gw_R cI rA nk ft ++ (gw_R cI rL nk fl ++ (gw_R cZ rI nk fi)))) ++ (gw_X cI cZ g h1 h2 q1 q2 u679 ++ (gp_U cI cJ a v))) [(16, .int (nI (M 9 0))), (15, .int (nI (M 13 0))), (14, .int (nI (gm_wnd M))), (0, .ref b), (1, .ref g), (2, .ref a), (3, .int (nI t)), (4, .int x), (5, .int (nI nk)), (6, .int (nI nm)), (7, .ref rI), (10, .ref rL), (11, .ref rA), (12, .ref rO), (9, .int (nI (gm_sum M nk))), (13, .int (nI (gp_bk M nk 8)))] 682 [.int (nI (gm_hour M 16 0 - M 16 0))]
  refine gk_istore (lv' := [(17, .int (nI (gm_hour M 16 0 - M 16 0))), (16, .int (nI (M 9 0))), (15, .int (nI (M 13 0))), (14, .int (nI (gm_wnd M))), (0, .ref b), (1, .ref g), (2, .ref a), (3, .int (nI t)), (4, .int x), (5, .int (nI nk)), (6, .int (nI nm)), (7, .ref rI), (10, .ref rL), (11, .ref rA), (12, .ref rO), (9, .int (nI (gm_sum M nk))), (13, .int (nI (gp_bk M nk 8)))]) G dL_law_682 (by decide) rfl ?_
  refine gk_aload_n G dL_law_684 6 rfl ?_
  refine gp_callVV (wr := (gw_R cI rO nm fo ++ (gw_R cI rA nk ft ++ (gw_R cI rL nk fl ++ (gw_R cZ rI nk fi)))) ++ gw_X cI cZ g h1 h2 q1 q2 u679) G (c2_pass l D cI cZ cJ a v.1 v.2.1 v.2.2.1 v.2.2.2.1 v.2.2.2.2.1 v.2.2.2.2.2.1 v.2.2.2.2.2.2.1 v.2.2.2.2.2.2.2.1 v.2.2.2.2.2.2.2.2.1 v.2.2.2.2.2.2.2.2.2.1 v.2.2.2.2.2.2.2.2.2.2 M wf hs.1 hs.2.1 hs.2.2.1 hs.2.2.2.1 hs.2.2.2.2 (by omega)) gL_law_X2_pass rfl 0 (by decide +kernel) rfl rfl ⟨(Nat.le_of_ble_eq_true rfl), (Nat.le_of_ble_eq_true rfl)⟩ rfl (q0 := 0) rfl (T := TX2) (N := 8) rfl gk_ok0 trivial (gk_pa3 _ _ _) rfl (Nat.le_of_ble_eq_true rfl) dL_law_685 ⟨by show c0 + 2 ≤ 600130; omega, by show s0 + 20 ≤ 7301080; omega⟩ (fun w9 hp9 => ?_)
  obtain ⟨F9, T9, V9⟩ := w9
  refine gk_perm (gk_pa3' _ _ _) ?_
  show gk_C p l e room_1 s m ([.ref b] : List Value).toArray below meth c 23 D A Q (c0 + 2) (s0 + 20) ((gw_R cI rO nm fo ++ (gw_R cI rA nk ft ++ (gw_R cI rL nk fl ++ (gw_R cZ rI nk fi)))) ++ (gw_X cI cZ g h1 h2 q1 q2 u679 ++ (gp_U cI cJ a (v.1, F9, v.2.2.1, v.2.2.2.1, v.2.2.2.2.1, v.2.2.2.2.2.1, v.2.2.2.2.2.2.1, v.2.2.2.2.2.2.2.1, v.2.2.2.2.2.2.2.2.1, T9, V9)))) [(17, .int (nI (gm_hour M 16 0 - M 16 0))), (16, .int (nI (M 9 0))), (15, .int (nI (M 13 0))), (14, .int (nI (gm_wnd M))), (0, .ref b), (1, .ref g), (2, .ref a), (3, .int (nI t)), (4, .int x), (5, .int (nI nk)), (6, .int (nI nm)), (7, .ref rI), (10, .ref rL), (11, .ref rA), (12, .ref rO), (9, .int (nI (gm_sum M nk))), (13, .int (nI (gp_bk M nk 8)))] 688 []
  refine gk_iload G dL_law_688 16 rfl ?_
  refine gk_iload G dL_law_690 15 rfl ?_
  refine gk_icmp_ne (tgt := 749) G dL_law_692 (by decide) (fun c_692 => ?_) (fun c_692 => ?_)
  · exact absurd (congrArg nI (gp_bk_all nk (fun k9 hk9 => (hz7 k9 (by omega)).1))) c_692
  · refine gk_iload G dL_law_695 0 rfl ?_
    refine gk_if_lt (tgt := 749) G dL_law_697 (by decide) (fun c_697 => ?_) (fun c_697 => ?_)
    · replace c_697 := (nI_ltI (a := gm_hour M 16 0 - M 16 0) (b := 0) (by omega) (by omega)).mp c_697
      omega
    · replace c_697 := (not_congr (nI_ltI (a := gm_hour M 16 0 - M 16 0) (b := 0) (by omega) (by omega))).mp c_697
      refine gk_iload G dL_law_700 0 rfl ?_
      refine gk_iload G dL_law_702 3 rfl ?_
      refine gk_icmp_gt (tgt := 749) G dL_law_704 (by decide) (fun c_704 => ?_) (fun c_704 => ?_)
      · replace c_704 := (nI_ltI (a := gm_wnd M) (b := gm_hour M 16 0 - M 16 0) (by omega) (by omega)).mp c_704
        omega
      · replace c_704 := (not_congr (nI_ltI (a := gm_wnd M) (b := gm_hour M 16 0 - M 16 0) (by omega) (by omega))).mp c_704
        refine gk_iload G dL_law_707 0 rfl ?_
        refine gk_bipush (v := nI 9) G dL_law_709 (by decide) ?_
        refine gk_iload G dL_law_711 10 rfl ?_
        refine gk_imul (v := nI (9 * nm)) G dL_law_713 (pk_mul 9 nm) ?_
        refine gk_icmp_gt (tgt := 749) G dL_law_714 (by decide) (fun c_714 => ?_) (fun c_714 => ?_)
        · replace c_714 := (nI_ltI (a := 9 * nm) (b := gm_hour M 16 0 - M 16 0) (by omega) (by omega)).mp c_714
          omega
        · replace c_714 := (not_congr (nI_ltI (a := 9 * nm) (b := gm_hour M 16 0 - M 16 0) (by omega) (by omega))).mp c_714
          refine gk_aload_n G dL_law_717 5 rfl ?_
          refine gq_hour (Y := (gw_R cI rO nm fo ++ (gw_R cI rA nk ft ++ (gw_R cI rL nk fl ++ (gw_R cZ rI nk fi))))) G gL_law_X1_hour hE.1.1 ⟨(Nat.le_of_ble_eq_true rfl), (Nat.le_of_ble_eq_true rfl)⟩ ⟨by show (c0 + 2) ≤ 600130; omega, by show (s0 + 20) ≤ 7301080; omega⟩ wf2 hr679 (Nat.le_of_ble_eq_true rfl) dL_law_718 (fun u718 hr718 => ?_)
          rw [gm_hour_9 M]
          show gk_C p l e room_1 s m ([.ref b] : List Value).toArray below meth c 23 D A Q (c0 + 2) (s0 + 20) ((gw_R cI rO nm fo ++ (gw_R cI rA nk ft ++ (gw_R cI rL nk fl ++ (gw_R cZ rI nk fi)))) ++ (gw_X cI cZ g h1 h2 q1 q2 u718 ++ (gp_U cI cJ a (v.1, F9, v.2.2.1, v.2.2.2.1, v.2.2.2.2.1, v.2.2.2.2.2.1, v.2.2.2.2.2.2.1, v.2.2.2.2.2.2.2.1, v.2.2.2.2.2.2.2.2.1, T9, V9)))) [(17, .int (nI (gm_hour M 16 0 - M 16 0))), (16, .int (nI (M 9 0))), (15, .int (nI (M 13 0))), (14, .int (nI (gm_wnd M))), (0, .ref b), (1, .ref g), (2, .ref a), (3, .int (nI t)), (4, .int x), (5, .int (nI nk)), (6, .int (nI nm)), (7, .ref rI), (10, .ref rL), (11, .ref rA), (12, .ref rO), (9, .int (nI (gm_sum M nk))), (13, .int (nI (gp_bk M nk 8)))] 721 [.int (nI (M 9 0 + 1))]
          refine gk_iload G dL_law_721 1 rfl ?_
          refine gk_iconst (v := nI 1) G dL_law_723 (by decide) ?_
          refine gk_iadd (v := nI ((M 9 0) + 1)) G dL_law_724 (nI_add (M 9 0) 1) ?_
          refine gk_icmp_ne (tgt := 749) G dL_law_725 (by decide) (fun c_725 => ?_) (fun c_725 => ?_)
          · exact absurd rfl c_725
          · refine gk_aload_n G dL_law_728 5 rfl ?_
            refine gq_changes (Y := (gw_R cI rO nm fo ++ (gw_R cI rA nk ft ++ (gw_R cI rL nk fl ++ (gw_R cZ rI nk fi))))) G gL_law_X1_changes hE.1.1 ⟨(Nat.le_of_ble_eq_true rfl), (Nat.le_of_ble_eq_true rfl)⟩ ⟨by show (c0 + 2) ≤ 600130; omega, by show (s0 + 20) ≤ 7301080; omega⟩ wf2 hr718 (Nat.le_of_ble_eq_true rfl) dL_law_729 (fun u729 hr729 => ?_)
            show gk_C p l e room_1 s m ([.ref b] : List Value).toArray below meth c 23 D A Q (c0 + 2) (s0 + 20) ((gw_R cI rO nm fo ++ (gw_R cI rA nk ft ++ (gw_R cI rL nk fl ++ (gw_R cZ rI nk fi)))) ++ (gw_X cI cZ g h1 h2 q1 q2 u729 ++ (gp_U cI cJ a (v.1, F9, v.2.2.1, v.2.2.2.1, v.2.2.2.2.1, v.2.2.2.2.2.1, v.2.2.2.2.2.2.1, v.2.2.2.2.2.2.2.1, v.2.2.2.2.2.2.2.2.1, T9, V9)))) [(17, .int (nI (gm_hour M 16 0 - M 16 0))), (16, .int (nI (M 9 0))), (15, .int (nI (M 13 0))), (14, .int (nI (gm_wnd M))), (0, .ref b), (1, .ref g), (2, .ref a), (3, .int (nI t)), (4, .int x), (5, .int (nI nk)), (6, .int (nI nm)), (7, .ref rI), (10, .ref rL), (11, .ref rA), (12, .ref rO), (9, .int (nI (gm_sum M nk))), (13, .int (nI (gp_bk M nk 8)))] 732 [.int (nI (gm_hour M 13 0))]
            refine gk_iload G dL_law_732 2 rfl ?_
            refine gk_icmp_lt (tgt := 749) G dL_law_734 (by decide) (fun c_734 => ?_) (fun c_734 => ?_)
            · replace c_734 := (nI_ltI (a := gm_hour M 13 0) (b := M 13 0) (by omega) (by omega)).mp c_734
              omega
            · replace c_734 := (not_congr (nI_ltI (a := gm_hour M 13 0) (b := M 13 0) (by omega) (by omega))).mp c_734
              refine gk_aload_n G dL_law_737 5 rfl ?_
              refine gq_changes (Y := (gw_R cI rO nm fo ++ (gw_R cI rA nk ft ++ (gw_R cI rL nk fl ++ (gw_R cZ rI nk fi))))) G gL_law_X1_changes hE.1.1 ⟨(Nat.le_of_ble_eq_true rfl), (Nat.le_of_ble_eq_true rfl)⟩ ⟨by show (c0 + 2) ≤ 600130; omega, by show (s0 + 20) ≤ 7301080; omega⟩ wf2 hr729 (Nat.le_of_ble_eq_true rfl) dL_law_738 (fun u738 hr738 => ?_)
              show gk_C p l e room_1 s m ([.ref b] : List Value).toArray below meth c 23 D A Q (c0 + 2) (s0 + 20) ((gw_R cI rO nm fo ++ (gw_R cI rA nk ft ++ (gw_R cI rL nk fl ++ (gw_R cZ rI nk fi)))) ++ (gw_X cI cZ g h1 h2 q1 q2 u738 ++ (gp_U cI cJ a (v.1, F9, v.2.2.1, v.2.2.2.1, v.2.2.2.2.1, v.2.2.2.2.2.1, v.2.2.2.2.2.2.1, v.2.2.2.2.2.2.2.1, v.2.2.2.2.2.2.2.2.1, T9, V9)))) [(17, .int (nI (gm_hour M 16 0 - M 16 0))), (16, .int (nI (M 9 0))), (15, .int (nI (M 13 0))), (14, .int (nI (gm_wnd M))), (0, .ref b), (1, .ref g), (2, .ref a), (3, .int (nI t)), (4, .int x), (5, .int (nI nk)), (6, .int (nI nm)), (7, .ref rI), (10, .ref rL), (11, .ref rA), (12, .ref rO), (9, .int (nI (gm_sum M nk))), (13, .int (nI (gp_bk M nk 8)))] 741 [.int (nI (gm_hour M 13 0))]
              refine gk_iload G dL_law_741 2 rfl ?_
              refine gk_iload G dL_law_743 10 rfl ?_
              refine gk_iadd (v := nI ((M 13 0) + nm)) G dL_law_745 (nI_add (M 13 0) nm) ?_
              refine gk_icmp_le (tgt := 751) G dL_law_746 (by decide) (fun c_746 => ?_) (fun c_746 => ?_)
              · replace c_746 := (nI_leI (a := gm_hour M 13 0) (b := (M 13 0) + nm) (by omega) (by omega)).mp c_746
                exact gk_lsub (lv' := [(0, .ref b), (1, .ref g), (2, .ref a), (3, .int (nI t)), (4, .int x), (5, .int (nI nk)), (6, .int (nI nm)), (7, .ref rI), (10, .ref rL), (11, .ref rA), (12, .ref rO), (9, .int (nI (gm_sum M nk))), (16, .int (nI (M 9 0))), (17, .int (nI (gm_hour M 16 0 - M 16 0)))]) [4,5,6,7,8,9,10,11,12,13,14,15,1,0] rfl (K u738 _ hr738 ⟨hp9, (gm_hour_ne M 0 (by decide) (by decide) (by decide) (by decide) (by decide) (by decide) (by decide)).trans hs.2.1, (gm_hour_ne M 0 (by decide) (by decide) (by decide) (by decide) (by decide) (by decide) (by decide)).trans hs.2.2.1, hs.2.2.2.1, hs.2.2.2.2⟩)
              · replace c_746 := (not_congr (nI_leI (a := gm_hour M 13 0) (b := (M 13 0) + nm) (by omega) (by omega))).mp c_746
                omega
