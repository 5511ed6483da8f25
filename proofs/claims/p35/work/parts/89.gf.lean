/-! IS THE LAW'S MILL THE CLASS'S; written by wip/p35/gen_i.py -/
theorem gk_pf (X A U : va_W) : (X ++ (A ++ U)).Perm (A ++ (X ++ U)) := gk_pc (fun _ x => by simp only [List.count_append]; omega)
theorem gl_dc {M : gm_M} {x y : UInt64} (hx : x = gm_ml M) (hy : y = gm_ml M) (h : M 11 0 < 2 ^ 31) : Op.cmpValue (FP.dcmp x y) .l = 0 := by
  rw [hx, hy, gm_ml_cmp M h]; rfl
theorem gk_pd (Y Z : va_W) : (Y ++ Z).Perm (Z ++ Y) := List.perm_append_comm
/-- the row of places, of those whose place is below k -/
def gp_pl (M : gm_M) (nk k : Nat) (f : Nat → Int32) : Prop := ∀ j, j < nk → f j = if M 8 j = 0 ∧ gm_cnt M j nk < k then nI (gm_cnt M j nk) else -1
set_option maxRecDepth 100000 in
set_option maxHeartbeats 2000000 in
theorem si_6 {p : Program} {l : Launch} {e : Env} {s : State} {m : MethodId} {below : List Frame} {meth : Method} {c : Code} {D : va_G} {A : Nat → Prop} {Q : State → Prop} {cI cZ cJ : ClassId} {g h1 h2 : Nat} {q1 q2 : Nat → Nat} {a : Nat} {q : Nat → Nat} {F W0 : Nat → Int32} {nm nk : Nat} {fS fK : Nat → Option Nat} {Sx Kx : Nat → Nat} {T V : Nat → Nat → Int32} {M : gm_M} {u : gw_U} (G : gk_G p s m ([.ref a, .ref g] : List Value).toArray meth c RX2 9 cX2_isSame (some .boolean) wsX2_isSame D (g_T cI cZ cJ) A) (wf : gm_wf M) (hrest : gm_rest M) (hs : gp_rep F W0 T V M) (hm : M 10 0 = nm) (hk : M 11 0 = nk) (hfS : gp_rows fS Sx nm) (hfK : gp_rows fK Kx nk) (hh : M 9 0 < 1900000) (hE : gn_E A s s.heap) (o pl rs : Nat) (fo fp fr : Nat → Int32) (hr : gc_rep u.1.1 u.1.2 M) (RET : ∀ (cells slots : Nat) (lv : List (Nat × Value)) (pc : Nat) (u : gw_U), decode cX2_isSame pc = .ok (.ireturn, 1) → gc_rep u.1.1 u.1.2 M → cells ≤ 3 → slots ≤ 40 → gk_C p l e ({ frames := 3, cells := 3, slots := 40, locals := 67 } : Room) s m ([.ref a, .ref g] : List Value).toArray below meth c 9 D A Q cells slots (gw_X cI cZ g h1 h2 q1 q2 u ++ gp_W cI cJ a q F W0 nm nk fS fK Sx Kx T V) lv pc [.int (nI 1)]) : gk_C p l e ({ frames := 3, cells := 3, slots := 40, locals := 67 } : Room) s m ([.ref a, .ref g] : List Value).toArray below meth c 9 D A Q 3 40 ((gw_R cI rs 8 fr ++ (gw_R cI pl nk fp ++ (gw_R cI o (gp_un M nk) fo))) ++ (gw_X cI cZ g h1 h2 q1 q2 u ++ (gp_W cI cJ a q F W0 nm nk fS fK Sx Kx T V))) [(0, .ref a), (1, .ref g), (2, .ref o), (4, .int (nI (gm_sum M nk)))] 375 [] := by
  obtain ⟨hz1, hz2, hz3, hz4, hz5, hz6, hz7, hz8⟩ := id wf
  have hun := gp_un_le M nk
  have hsl := gm_sum_le wf nk (by omega)
  refine gk_aload_n G dX2_isSame_375 1 rfl ?_
  refine gq_meanLeft (Y := (gw_R cI rs 8 fr ++ (gw_R cI pl nk fp ++ (gw_R cI o (gp_un M nk) fo)))) G gX2_isSame_X1_meanLeft hE ⟨(Nat.le_of_ble_eq_true rfl), (Nat.le_of_ble_eq_true rfl)⟩ ⟨(Nat.le_of_ble_eq_true rfl), (Nat.le_of_ble_eq_true rfl)⟩ wf hr (Nat.le_of_ble_eq_true rfl) dX2_isSame_376 (fun u376 hr376 => ?_)
  show gk_C p l e ({ frames := 3, cells := 3, slots := 40, locals := 67 } : Room) s m ([.ref a, .ref g] : List Value).toArray below meth c 9 D A Q 3 40 ((gw_R cI rs 8 fr ++ (gw_R cI pl nk fp ++ (gw_R cI o (gp_un M nk) fo))) ++ (gw_X cI cZ g h1 h2 q1 q2 u376 ++ (gp_W cI cJ a q F W0 nm nk fS fK Sx Kx T V))) [(0, .ref a), (1, .ref g), (2, .ref o), (4, .int (nI (gm_sum M nk)))] 379 [.double (gm_ml M)]
  refine gk_aload_n G dX2_isSame_379 2 rfl ?_
  refine gk_alen (v := nI (gp_un M nk)) G (q0 := 2) (t0 := 0) rfl rfl rfl dX2_isSame_380 ?_
  refine gk_if_ne (tgt := 388) G dX2_isSame_381 (by decide) (fun c_381 => ?_) (fun c_381 => ?_)
  · replace c_381 := (not_congr (nI_eq (a := gp_un M nk) (b := 0) (by omega) (by omega))).mp c_381
    refine gk_iload G dX2_isSame_388 3 rfl ?_
    refine gk_i2d G dX2_isSame_390 ?_
    refine gk_aload_n G dX2_isSame_391 2 rfl ?_
    refine gk_alen (v := nI (gp_un M nk)) G (q0 := 2) (t0 := 0) rfl rfl rfl dX2_isSame_392 ?_
    refine gk_i2d G dX2_isSame_393 ?_
    refine gk_ddiv G dX2_isSame_394 (gm_mean_nn (fun q9 => by rw [gm_0 (by omega)] at q9; omega)) ?_
    refine gk_dcmp G dX2_isSame_395 ?_
    rw [show Op.cmpValue (FP.dcmp (gm_ml M) (FP.ddiv (FP.i2d (nI (gm_sum M nk))) (FP.i2d (nI (gp_un M nk))))) .l = nI 0 from (gl_dc rfl (by unfold gm_ml; rw [hk]; first | (rw [if_pos (by unfold gp_un at c_381; omega)]) | (rw [if_neg (by unfold gp_un at c_381; omega)]; rfl)) (by omega))]
    refine gk_if_ne (tgt := 403) G dX2_isSame_396 (by decide) (fun c_396 => ?_) (fun c_396 => ?_)
    · exact absurd rfl c_396
    · refine gk_iconst (v := nI 1) G dX2_isSame_399 (by decide) ?_
      refine gk_goto (tgt := 404) G dX2_isSame_400 (by decide) ?_
      refine gk_drop (w' := gw_X cI cZ g h1 h2 q1 q2 u376 ++ gp_W cI cJ a q F W0 nm nk fS fK Sx Kx T V) (r := (gw_R cI rs 8 fr ++ (gw_R cI pl nk fp ++ (gw_R cI o (gp_un M nk) fo)))) (gk_pd _ _) ?_
      exact RET _ _ _ _ u376 dX2_isSame_404 hr376 (Nat.le_of_ble_eq_true rfl) (Nat.le_of_ble_eq_true rfl)
  · replace c_381 := (nI_eq (a := gp_un M nk) (b := 0) (by omega) (by omega)).mp c_381
    refine gk_dconst0 G dX2_isSame_384 ?_
    refine gk_goto (tgt := 395) G dX2_isSame_385 (by decide) ?_
    refine gk_dcmp G dX2_isSame_395 ?_
    rw [show Op.cmpValue (FP.dcmp (gm_ml M) FP.dconst0) .l = nI 0 from (gl_dc rfl (by unfold gm_ml; rw [hk]; first | (rw [if_pos (by unfold gp_un at c_381; omega)]) | (rw [if_neg (by unfold gp_un at c_381; omega)]; rfl)) (by omega))]
    refine gk_if_ne (tgt := 403) G dX2_isSame_396 (by decide) (fun c_396 => ?_) (fun c_396 => ?_)
    · exact absurd rfl c_396
    · refine gk_iconst (v := nI 1) G dX2_isSame_399 (by decide) ?_
      refine gk_goto (tgt := 404) G dX2_isSame_400 (by decide) ?_
      refine gk_drop (w' := gw_X cI cZ g h1 h2 q1 q2 u376 ++ gp_W cI cJ a q F W0 nm nk fS fK Sx Kx T V) (r := (gw_R cI rs 8 fr ++ (gw_R cI pl nk fp ++ (gw_R cI o (gp_un M nk) fo)))) (gk_pd _ _) ?_
      exact RET _ _ _ _ u376 dX2_isSame_404 hr376 (Nat.le_of_ble_eq_true rfl) (Nat.le_of_ble_eq_true rfl)
set_option maxRecDepth 100000 in
set_option maxHeartbeats 2000000 in
theorem si_5 {p : Program} {l : Launch} {e : Env} {s : State} {m : MethodId} {below : List Frame} {meth : Method} {c : Code} {D : va_G} {A : Nat → Prop} {Q : State → Prop} {cI cZ cJ : ClassId} {g h1 h2 : Nat} {q1 q2 : Nat → Nat} {a : Nat} {q : Nat → Nat} {F W0 : Nat → Int32} {nm nk : Nat} {fS fK : Nat → Option Nat} {Sx Kx : Nat → Nat} {T V : Nat → Nat → Int32} {M : gm_M} {u : gw_U} (G : gk_G p s m ([.ref a, .ref g] : List Value).toArray meth c RX2 9 cX2_isSame (some .boolean) wsX2_isSame D (g_T cI cZ cJ) A) (wf : gm_wf M) (hrest : gm_rest M) (hs : gp_rep F W0 T V M) (hm : M 10 0 = nm) (hk : M 11 0 = nk) (hfS : gp_rows fS Sx nm) (hfK : gp_rows fK Kx nk) (hh : M 9 0 < 1900000) (hE : gn_E A s s.heap) (o pl rs : Nat) (fo fp fr : Nat → Int32) (hr : gc_rep u.1.1 u.1.2 M) (hfr : ∀ b, b < 8 → fr b = nI (gm_rst M b nk)) (K : ∀ u : gw_U, gc_rep u.1.1 u.1.2 M → gk_C p l e ({ frames := 3, cells := 3, slots := 40, locals := 67 } : Room) s m ([.ref a, .ref g] : List Value).toArray below meth c 9 D A Q 3 40 ((gw_R cI rs 8 fr ++ (gw_R cI pl nk fp ++ (gw_R cI o (gp_un M nk) fo))) ++ (gw_X cI cZ g h1 h2 q1 q2 u ++ (gp_W cI cJ a q F W0 nm nk fS fK Sx Kx T V))) [(0, .ref a), (1, .ref g), (2, .ref o), (4, .int (nI (gm_sum M nk)))] 375 []) : gk_C p l e ({ frames := 3, cells := 3, slots := 40, locals := 67 } : Room) s m ([.ref a, .ref g] : List Value).toArray below meth c 9 D A Q 3 40 ((gw_R cI rs 8 fr ++ (gw_R cI pl nk fp ++ (gw_R cI o (gp_un M nk) fo))) ++ (gw_X cI cZ g h1 h2 q1 q2 u ++ (gp_W cI cJ a q F W0 nm nk fS fK Sx Kx T V))) [(0, .ref a), (1, .ref g), (2, .ref o), (4, .int (nI (gm_sum M nk))), (6, .ref rs)] 343 [] := by
  obtain ⟨hz1, hz2, hz3, hz4, hz5, hz6, hz7, hz8⟩ := id wf
  have L346 : ∀ (n : Nat) (k : Nat) (u : gw_U), 8 - k < n → (k ≤ 8) → (gc_rep u.1.1 u.1.2 M) → gk_C p l e ({ frames := 3, cells := 3, slots := 40, locals := 67 } : Room) s m ([.ref a, .ref g] : List Value).toArray below meth c 9 D A Q 3 40 ((gw_R cI rs 8 fr ++ (gw_R cI pl nk fp ++ (gw_R cI o (gp_un M nk) fo))) ++ (gw_X cI cZ g h1 h2 q1 q2 u ++ (gp_W cI cJ a q F W0 nm nk fS fK Sx Kx T V))) [(0, .ref a), (1, .ref g), (2, .ref o), (4, .int (nI (gm_sum M nk))), (6, .ref rs), (7, .int (nI k))] 346 [] := by
    intro n
    induction n with
    | zero => intro k u h0; exact absurd h0 (Nat.not_lt_zero _)
    | succ n ih =>
      intro k u h0 w0 w1
      refine gk_iload G dX2_isSame_346 5 rfl ?_
      refine gk_bipush (v := nI 8) G dX2_isSame_348 (by decide) ?_
      refine gk_icmp_ge (tgt := 375) G dX2_isSame_350 (by decide) (fun c_350 => ?_) (fun c_350 => ?_)
      · replace c_350 := (nI_leI (a := 8) (b := k) (by omega) (by omega)).mp c_350
        exact gk_lsub [0,1,2,3] rfl (K u w1)
      · replace c_350 := (not_congr (nI_leI (a := 8) (b := k) (by omega) (by omega))).mp c_350
        refine gk_aload_n G dX2_isSame_353 1 rfl ?_
        refine gk_iload G dX2_isSame_354 5 rfl ?_
        refine gq_leftFor_ok (Y := (gw_R cI rs 8 fr ++ (gw_R cI pl nk fp ++ (gw_R cI o (gp_un M nk) fo)))) G gX2_isSame_X1_leftFor hE ⟨(Nat.le_of_ble_eq_true rfl), (Nat.le_of_ble_eq_true rfl)⟩ ⟨(Nat.le_of_ble_eq_true rfl), (Nat.le_of_ble_eq_true rfl)⟩ k wf w1 (by omega) (Nat.le_of_ble_eq_true rfl) dX2_isSame_356 (fun u356 hr356 => ?_)
        show gk_C p l e ({ frames := 3, cells := 3, slots := 40, locals := 67 } : Room) s m ([.ref a, .ref g] : List Value).toArray below meth c 9 D A Q 3 40 ((gw_R cI rs 8 fr ++ (gw_R cI pl nk fp ++ (gw_R cI o (gp_un M nk) fo))) ++ (gw_X cI cZ g h1 h2 q1 q2 u356 ++ (gp_W cI cJ a q F W0 nm nk fS fK Sx Kx T V))) [(0, .ref a), (1, .ref g), (2, .ref o), (4, .int (nI (gm_sum M nk))), (6, .ref rs), (7, .int (nI k))] 359 [.int (nI (gm_rst M k (M 11 0)))]
        refine gk_aload G dX2_isSame_359 4 rfl ?_
        refine gk_iload G dX2_isSame_361 5 rfl ?_
        refine gk_iald (v := nI (gm_rst M k nk)) G (q0 := 0) (t0 := 0) rfl rfl k rfl (by omega) (by decide) (hfr k (by omega)) dX2_isSame_363 ?_
        refine gk_icmp_eq (tgt := 369) G dX2_isSame_364 (by decide) (fun c_364 => ?_) (fun c_364 => ?_)
        · refine gk_iinc (j := 5) (v := nI (k + 1)) (lv' := [(7, .int (nI (k + 1))), (0, .ref a), (1, .ref g), (2, .ref o), (4, .int (nI (gm_sum M nk))), (6, .ref rs)]) G dX2_isSame_369 rfl (nI_add k 1) (by decide) rfl ?_
          refine gk_goto (tgt := 346) G dX2_isSame_372 (by decide) ?_
          exact gk_lsub [1,2,3,4,5,0] rfl (ih (k + 1) u356 (by omega) (by omega) hr356)
        · exact absurd (by rw [hk]) c_364
  refine gk_iconst (v := nI 0) G dX2_isSame_343 (by decide) ?_
  refine gk_istore (lv' := [(7, .int (nI 0)), (0, .ref a), (1, .ref g), (2, .ref o), (4, .int (nI (gm_sum M nk))), (6, .ref rs)]) G dX2_isSame_344 (by decide) rfl ?_
  exact gk_lsub [1,2,3,4,5,0] rfl (L346 9 0 u (by omega) (by omega) hr)
set_option maxRecDepth 100000 in
set_option maxHeartbeats 2000000 in
theorem si_4 {p : Program} {l : Launch} {e : Env} {s : State} {m : MethodId} {below : List Frame} {meth : Method} {c : Code} {D : va_G} {A : Nat → Prop} {Q : State → Prop} {cI cZ cJ : ClassId} {g h1 h2 : Nat} {q1 q2 : Nat → Nat} {a : Nat} {q : Nat → Nat} {F W0 : Nat → Int32} {nm nk : Nat} {fS fK : Nat → Option Nat} {Sx Kx : Nat → Nat} {T V : Nat → Nat → Int32} {M : gm_M} {u : gw_U} (G : gk_G p s m ([.ref a, .ref g] : List Value).toArray meth c RX2 9 cX2_isSame (some .boolean) wsX2_isSame D (g_T cI cZ cJ) A) (wf : gm_wf M) (hrest : gm_rest M) (hs : gp_rep F W0 T V M) (hm : M 10 0 = nm) (hk : M 11 0 = nk) (hfS : gp_rows fS Sx nm) (hfK : gp_rows fK Kx nk) (hh : M 9 0 < 1900000) (hE : gn_E A s s.heap) (o pl rs : Nat) (fo fp fr : Nat → Int32) (hr : gc_rep u.1.1 u.1.2 M) (K : ∀ u : gw_U, gc_rep u.1.1 u.1.2 M → gk_C p l e ({ frames := 3, cells := 3, slots := 40, locals := 67 } : Room) s m ([.ref a, .ref g] : List Value).toArray below meth c 9 D A Q 3 40 ((gw_R cI rs 8 fr ++ (gw_R cI pl nk fp ++ (gw_R cI o (gp_un M nk) fo))) ++ (gw_X cI cZ g h1 h2 q1 q2 u ++ (gp_W cI cJ a q F W0 nm nk fS fK Sx Kx T V))) [(0, .ref a), (1, .ref g), (2, .ref o), (4, .int (nI (gm_sum M nk))), (6, .ref rs)] 343 []) : gk_C p l e ({ frames := 3, cells := 3, slots := 40, locals := 67 } : Room) s m ([.ref a, .ref g] : List Value).toArray below meth c 9 D A Q 3 40 ((gw_R cI rs 8 fr ++ (gw_R cI pl nk fp ++ (gw_R cI o (gp_un M nk) fo))) ++ (gw_X cI cZ g h1 h2 q1 q2 u ++ (gp_W cI cJ a q F W0 nm nk fS fK Sx Kx T V))) [(0, .ref a), (1, .ref g), (2, .ref o), (4, .int (nI (gm_sum M nk))), (6, .ref rs)] 304 [] := by
  obtain ⟨hz1, hz2, hz3, hz4, hz5, hz6, hz7, hz8⟩ := id wf
  have hinX2 : ∀ w ∈ wsX20, w ∈ wsX2_isSame := fun w h9 => (List.mem_cons_of_mem _ (List.mem_append_left _ (List.mem_append_left _ (List.mem_append_left _ (List.mem_append_left _ (List.mem_append_right _ h9))))))
  have k14 := G.2.2.2.2.1 (.fieldLink RX2 14 "GustMillLaw$Sim" "stones" "[[I") (List.mem_cons_of_mem _ (List.mem_append_left _ (List.mem_append_left _ (List.mem_append_left _ (List.mem_append_left _ (List.mem_append_left _ (List.mem_append_left _ (List.mem_of_getElem? (i := 2) rfl))))))))
  have L307 : ∀ (n : Nat) (k : Nat) (u : gw_U), nm - k < n → (k ≤ nm) → (gc_rep u.1.1 u.1.2 M) → gk_C p l e ({ frames := 3, cells := 3, slots := 40, locals := 67 } : Room) s m ([.ref a, .ref g] : List Value).toArray below meth c 9 D A Q 3 40 ((gw_R cI rs 8 fr ++ (gw_R cI pl nk fp ++ (gw_R cI o (gp_un M nk) fo))) ++ (gw_X cI cZ g h1 h2 q1 q2 u ++ (gp_W cI cJ a q F W0 nm nk fS fK Sx Kx T V))) [(0, .ref a), (1, .ref g), (2, .ref o), (4, .int (nI (gm_sum M nk))), (6, .ref rs), (7, .int (nI k))] 307 [] := by
    intro n
    induction n with
    | zero => intro k u h0; exact absurd h0 (Nat.not_lt_zero _)
    | succ n ih =>
      intro k u h0 w0 w1
      refine gk_iload G dX2_isSame_307 5 rfl ?_
      refine gk_aload_n G dX2_isSame_309 0 rfl ?_
      refine gk_get (v' := .ref (q 1)) G hinX2 (q0 := 24) rfl rfl 6 (by decide) k14 rfl rfl dX2_isSame_310 ?_
      refine gk_alen (v := nI nm) G (q0 := 26) (t0 := 2) rfl rfl rfl dX2_isSame_313 ?_
      refine gk_icmp_ge (tgt := 343) G dX2_isSame_314 (by decide) (fun c_314 => ?_) (fun c_314 => ?_)
      · replace c_314 := (nI_leI (a := nm) (b := k) (by omega) (by omega)).mp c_314
        exact gk_lsub [0,1,2,3,4] rfl (K u w1)
      · replace c_314 := (not_congr (nI_leI (a := nm) (b := k) (by omega) (by omega))).mp c_314
        refine gk_aload_n G dX2_isSame_317 1 rfl ?_
        refine gk_iload G dX2_isSame_318 5 rfl ?_
        refine gq_sackOn_ok (Y := (gw_R cI rs 8 fr ++ (gw_R cI pl nk fp ++ (gw_R cI o (gp_un M nk) fo)))) G gX2_isSame_X1_sackOn hE ⟨(Nat.le_of_ble_eq_true rfl), (Nat.le_of_ble_eq_true rfl)⟩ ⟨(Nat.le_of_ble_eq_true rfl), (Nat.le_of_ble_eq_true rfl)⟩ k wf w1 (by omega) (Nat.le_of_ble_eq_true rfl) dX2_isSame_320 (fun u320 hr320 => ?_)
        show gk_C p l e ({ frames := 3, cells := 3, slots := 40, locals := 67 } : Room) s m ([.ref a, .ref g] : List Value).toArray below meth c 9 D A Q 3 40 ((gw_R cI rs 8 fr ++ (gw_R cI pl nk fp ++ (gw_R cI o (gp_un M nk) fo))) ++ (gw_X cI cZ g h1 h2 q1 q2 u320 ++ (gp_W cI cJ a q F W0 nm nk fS fK Sx Kx T V))) [(0, .ref a), (1, .ref g), (2, .ref o), (4, .int (nI (gm_sum M nk))), (6, .ref rs), (7, .int (nI k))] 323 [.int (gm_e (gm_who M k (M 11 0)))]
        refine gk_aload_n G dX2_isSame_323 0 rfl ?_
        refine gk_get (v' := .ref (q 1)) G hinX2 (q0 := 24) rfl rfl 6 (by decide) k14 rfl rfl dX2_isSame_324 ?_
        refine gk_iload G dX2_isSame_327 5 rfl ?_
        refine gk_aald (v := Sx k) G (q0 := 26) (t0 := 2) rfl rfl k rfl (by omega) (by omega) (hfS k (by omega)) dX2_isSame_329 ?_
        refine gk_iconst (v := nI 1) G dX2_isSame_330 (by decide) ?_
        refine gk_iald (v := gm_e (gm_who M k (M 11 0))) G (q0 := (k + 4 + 21 + 1 + 1 + 1)) (t0 := 0) (gp_s1 (gp_s1 (gp_s1 (gp_sX (gp_atS (by omega)))))) rfl 1 rfl (by decide) (by decide) (hs.2.2.2.1 k (by omega)) dX2_isSame_331 ?_
        refine gk_icmp_eq (tgt := 337) G dX2_isSame_332 (by decide) (fun c_332 => ?_) (fun c_332 => ?_)
        · refine gk_iinc (j := 5) (v := nI (k + 1)) (lv' := [(7, .int (nI (k + 1))), (0, .ref a), (1, .ref g), (2, .ref o), (4, .int (nI (gm_sum M nk))), (6, .ref rs)]) G dX2_isSame_337 rfl (nI_add k 1) (by decide) rfl ?_
          refine gk_goto (tgt := 307) G dX2_isSame_340 (by decide) ?_
          exact gk_lsub [1,2,3,4,5,0] rfl (ih (k + 1) u320 (by omega) (by omega) hr320)
        · exact absurd rfl c_332
  refine gk_iconst (v := nI 0) G dX2_isSame_304 (by decide) ?_
  refine gk_istore (lv' := [(7, .int (nI 0)), (0, .ref a), (1, .ref g), (2, .ref o), (4, .int (nI (gm_sum M nk))), (6, .ref rs)]) G dX2_isSame_305 (by decide) rfl ?_
  exact gk_lsub [1,2,3,4,5,0] rfl (L307 (nm + 1) 0 u (by omega) (Nat.zero_le _) hr)
set_option maxRecDepth 100000 in
set_option maxHeartbeats 2000000 in
theorem si_3 {p : Program} {l : Launch} {e : Env} {s : State} {m : MethodId} {below : List Frame} {meth : Method} {c : Code} {D : va_G} {A : Nat → Prop} {Q : State → Prop} {cI cZ cJ : ClassId} {g h1 h2 : Nat} {q1 q2 : Nat → Nat} {a : Nat} {q : Nat → Nat} {F W0 : Nat → Int32} {nm nk : Nat} {fS fK : Nat → Option Nat} {Sx Kx : Nat → Nat} {T V : Nat → Nat → Int32} {M : gm_M} {u : gw_U} (G : gk_G p s m ([.ref a, .ref g] : List Value).toArray meth c RX2 9 cX2_isSame (some .boolean) wsX2_isSame D (g_T cI cZ cJ) A) (wf : gm_wf M) (hrest : gm_rest M) (hs : gp_rep F W0 T V M) (hm : M 10 0 = nm) (hk : M 11 0 = nk) (hfS : gp_rows fS Sx nm) (hfK : gp_rows fK Kx nk) (hh : M 9 0 < 1900000) (hE : gn_E A s s.heap) (o pl rs : Nat) (fo fp : Nat → Int32) (hr : gc_rep u.1.1 u.1.2 M) (hfp : ∀ j, j < nk → fp j = gm_plc M j) (K : ∀ (fr : Nat → Int32) (u : gw_U), gc_rep u.1.1 u.1.2 M → (∀ b, b < 8 → fr b = nI (gm_rst M b nk)) → gk_C p l e ({ frames := 3, cells := 3, slots := 40, locals := 67 } : Room) s m ([.ref a, .ref g] : List Value).toArray below meth c 9 D A Q 3 40 ((gw_R cI rs 8 fr ++ (gw_R cI pl nk fp ++ (gw_R cI o (gp_un M nk) fo))) ++ (gw_X cI cZ g h1 h2 q1 q2 u ++ (gp_W cI cJ a q F W0 nm nk fS fK Sx Kx T V))) [(0, .ref a), (1, .ref g), (2, .ref o), (4, .int (nI (gm_sum M nk))), (6, .ref rs)] 304 []) : gk_C p l e ({ frames := 3, cells := 3, slots := 40, locals := 67 } : Room) s m ([.ref a, .ref g] : List Value).toArray below meth c 9 D A Q 3 40 ((gw_R cI rs 8 (fun _ => 0) ++ (gw_R cI pl nk fp ++ (gw_R cI o (gp_un M nk) fo))) ++ (gw_X cI cZ g h1 h2 q1 q2 u ++ (gp_W cI cJ a q F W0 nm nk fS fK Sx Kx T V))) [(0, .ref a), (1, .ref g), (2, .ref o), (3, .int (nI nk)), (4, .int (nI 0)), (5, .ref pl), (6, .ref rs)] 187 [] := by
  obtain ⟨hz1, hz2, hz3, hz4, hz5, hz6, hz7, hz8⟩ := id wf
  have hinX2 : ∀ w ∈ wsX20, w ∈ wsX2_isSame := fun w h9 => (List.mem_cons_of_mem _ (List.mem_append_left _ (List.mem_append_left _ (List.mem_append_left _ (List.mem_append_left _ (List.mem_append_right _ h9))))))
  have k18 := G.2.2.2.2.1 (.fieldLink RX2 18 "GustMillLaw$Sim" "sacks" "[[I") (List.mem_cons_of_mem _ (List.mem_append_left _ (List.mem_append_left _ (List.mem_append_left _ (List.mem_append_left _ (List.mem_append_left _ (List.mem_append_left _ (List.mem_of_getElem? (i := 0) rfl))))))))
  have L190 : ∀ (n : Nat) (k : Nat) (u : gw_U) (fr : Nat → Int32), nk - k < n → (k ≤ nk) → (gc_rep u.1.1 u.1.2 M) → (∀ b, b < 8 → fr b = nI (gm_rst M b k)) → gk_C p l e ({ frames := 3, cells := 3, slots := 40, locals := 67 } : Room) s m ([.ref a, .ref g] : List Value).toArray below meth c 9 D A Q 3 40 ((gw_R cI rs 8 fr ++ (gw_R cI pl nk fp ++ (gw_R cI o (gp_un M nk) fo))) ++ (gw_X cI cZ g h1 h2 q1 q2 u ++ (gp_W cI cJ a q F W0 nm nk fS fK Sx Kx T V))) [(0, .ref a), (1, .ref g), (2, .ref o), (3, .int (nI nk)), (4, .int (nI (gm_sum M k))), (5, .ref pl), (6, .ref rs), (7, .int (nI k))] 190 [] := by
    intro n
    induction n with
    | zero => intro k u fr h0; exact absurd h0 (Nat.not_lt_zero _)
    | succ n ih =>
      intro k u fr h0 w0 w1 w2
      refine gk_iload G dX2_isSame_190 7 rfl ?_
      refine gk_iload_n G dX2_isSame_192 3 rfl ?_
      refine gk_icmp_ge (tgt := 304) G dX2_isSame_193 (by decide) (fun c_193 => ?_) (fun c_193 => ?_)
      · replace c_193 := (nI_leI (a := nk) (b := k) (by omega) (by omega)).mp c_193
        have ek : k = nk := by omega
        subst ek
        exact gk_lsub [0,1,2,4,6] rfl (K fr u w1 w2)
      · replace c_193 := (not_congr (nI_leI (a := nk) (b := k) (by omega) (by omega))).mp c_193
        have hfr := w2
        have h7k := hz7 k (by omega)
        refine gk_aload_n G dX2_isSame_196 0 rfl ?_
        refine gk_get (v' := .ref (q 2)) G hinX2 (q0 := 24) rfl rfl 7 (by decide) k18 rfl rfl dX2_isSame_197 ?_
        refine gk_iload G dX2_isSame_200 7 rfl ?_
        refine gk_aald (v := Kx k) G (q0 := 27) (t0 := 2) rfl rfl k rfl (by omega) (by omega) (hfK k (by omega)) dX2_isSame_202 ?_
        refine gk_astore (lv' := [(8, .ref (Kx k)), (0, .ref a), (1, .ref g), (2, .ref o), (3, .int (nI nk)), (4, .int (nI (gm_sum M k))), (5, .ref pl), (6, .ref rs), (7, .int (nI k))]) G dX2_isSame_203 (by decide) rfl ?_
        refine gk_iload G dX2_isSame_205 5 rfl ?_
        refine gk_aload G dX2_isSame_207 0 rfl ?_
        refine gk_iconst (v := nI 1) G dX2_isSame_209 (by decide) ?_
        refine gk_iald (v := nI (M 5 k)) G (q0 := (nm + k + 4 + 21 + 1 + 1 + 1)) (t0 := 0) (gp_s1 (gp_s1 (gp_s1 (gp_sX (gp_atK (by omega)))))) rfl 1 rfl (by decide) (by decide) (hs.2.2.2.2.2.1 k (by omega)) dX2_isSame_210 ?_
        refine gk_iadd (v := nI ((gm_sum M k) + (M 5 k))) G dX2_isSame_211 (nI_add (gm_sum M k) (M 5 k)) ?_
        refine gk_istore (lv' := [(4, .int (nI ((gm_sum M k) + (M 5 k)))), (8, .ref (Kx k)), (0, .ref a), (1, .ref g), (2, .ref o), (3, .int (nI nk)), (5, .ref pl), (6, .ref rs), (7, .int (nI k))]) G dX2_isSame_212 (by decide) rfl ?_
        refine gk_aload G dX2_isSame_214 7 rfl ?_
        refine gk_aload G dX2_isSame_216 1 rfl ?_
        refine gk_iconst (v := nI 0) G dX2_isSame_218 (by decide) ?_
        refine gk_iald (v := nI (M 4 k)) G (q0 := (nm + k + 4 + 21 + 1 + 1 + 1)) (t0 := 0) (gp_s1 (gp_s1 (gp_s1 (gp_sX (gp_atK (by omega)))))) rfl 0 rfl (by decide) (by decide) (hs.2.2.2.2.1 k (by omega)) dX2_isSame_219 ?_
        refine gk_dup2 G dX2_isSame_220 rfl rfl ?_
        refine gk_iald (v := nI (gm_rst M (M 4 k) k)) G (q0 := 0) (t0 := 0) rfl rfl (M 4 k) rfl (by omega) (by decide) (hfr (M 4 k) (by omega)) dX2_isSame_221 ?_
        refine gk_aload G dX2_isSame_222 1 rfl ?_
        refine gk_iconst (v := nI 1) G dX2_isSame_224 (by decide) ?_
        refine gk_iald (v := nI (M 5 k)) G (q0 := (nm + k + 4 + 21 + 1 + 1 + 1)) (t0 := 0) (gp_s1 (gp_s1 (gp_s1 (gp_sX (gp_atK (by omega)))))) rfl 1 rfl (by decide) (by decide) (hs.2.2.2.2.2.1 k (by omega)) dX2_isSame_225 ?_
        refine gk_iadd (v := nI ((gm_rst M (M 4 k) k) + (M 5 k))) G dX2_isSame_226 (nI_add (gm_rst M (M 4 k) k) (M 5 k)) ?_
        refine gk_topi (fun v227 ev227 => ?_)
        refine gk_iast (w' := ((gw_R cI rs 8 (upd fr (M 4 k) v227) ++ (gw_R cI pl nk fp ++ (gw_R cI o (gp_un M nk) fo))) ++ (gw_X cI cZ g h1 h2 q1 q2 u ++ (gp_W cI cJ a q F W0 nm nk fS fK Sx Kx T V)))) G (q0 := 0) (t0 := 0) rfl rfl (M 4 k) rfl (by omega) (by decide) rfl dX2_isSame_227 ?_
        refine gk_aload_n G dX2_isSame_228 3 rfl ?_
        refine gk_iload G dX2_isSame_229 8 rfl ?_
        refine gq_stoneOf_ok (Y := (gw_R cI rs 8 (upd fr (M 4 k) v227) ++ (gw_R cI pl nk fp ++ (gw_R cI o (gp_un M nk) fo)))) G gX2_isSame_X1_stoneOf hE ⟨(Nat.le_of_ble_eq_true rfl), (Nat.le_of_ble_eq_true rfl)⟩ ⟨(Nat.le_of_ble_eq_true rfl), (Nat.le_of_ble_eq_true rfl)⟩ k wf w1 (by omega) (Nat.le_of_ble_eq_true rfl) dX2_isSame_231 (fun u231 hr231 => ?_)
        show gk_C p l e ({ frames := 3, cells := 3, slots := 40, locals := 67 } : Room) s m ([.ref a, .ref g] : List Value).toArray below meth c 9 D A Q 3 40 ((gw_R cI rs 8 (upd fr (M 4 k) v227) ++ (gw_R cI pl nk fp ++ (gw_R cI o (gp_un M nk) fo))) ++ (gw_X cI cZ g h1 h2 q1 q2 u231 ++ (gp_W cI cJ a q F W0 nm nk fS fK Sx Kx T V))) [(4, .int (nI ((gm_sum M k) + (M 5 k)))), (8, .ref (Kx k)), (0, .ref a), (1, .ref g), (2, .ref o), (3, .int (nI nk)), (5, .ref pl), (6, .ref rs), (7, .int (nI k))] 234 [.int (gm_e (M 7 k))]
        refine gk_aload_n G dX2_isSame_234 2 rfl ?_
        refine gk_iload G dX2_isSame_235 8 rfl ?_
        refine gp_callIV (wr := (gw_R cI rs 8 (upd fr (M 4 k) v227) ++ (gw_R cI pl nk fp ++ (gw_R cI o (gp_un M nk) fo))) ++ gw_X cI cZ g h1 h2 q1 q2 u231) G (c2_stoneOf l D cI cZ cJ a q F W0 nm nk fS fK Sx Kx T V M k wf hs hm hk hfS hfK (by omega)) gX2_isSame_X2_stoneOf rfl 1 (by decide +kernel) rfl rfl ⟨(Nat.le_of_ble_eq_true rfl), (Nat.le_of_ble_eq_true rfl)⟩ rfl (q0 := 0) rfl (T := TX2) (N := 8) rfl gk_ok0 trivial (gk_pa3 _ _ _) rfl (Nat.le_of_ble_eq_true rfl) dX2_isSame_237 ⟨(Nat.le_of_ble_eq_true rfl), (Nat.le_of_ble_eq_true rfl)⟩ (fun r237 w237 hp237 => ?_)
        rw [show r237 = gm_e (M 7 k) from hp237]
        refine gk_perm (gk_pa3' _ _ _) ?_
        show gk_C p l e ({ frames := 3, cells := 3, slots := 40, locals := 67 } : Room) s m ([.ref a, .ref g] : List Value).toArray below meth c 9 D A Q 3 40 ((gw_R cI rs 8 (upd fr (M 4 k) v227) ++ (gw_R cI pl nk fp ++ (gw_R cI o (gp_un M nk) fo))) ++ (gw_X cI cZ g h1 h2 q1 q2 u231 ++ (gp_W cI cJ a q F W0 nm nk fS fK Sx Kx T V))) [(4, .int (nI ((gm_sum M k) + (M 5 k)))), (8, .ref (Kx k)), (0, .ref a), (1, .ref g), (2, .ref o), (3, .int (nI nk)), (5, .ref pl), (6, .ref rs), (7, .int (nI k))] 240 [.int (gm_e (M 7 k)), .int (gm_e (M 7 k))]
        refine gk_icmp_ne (tgt := 296) G dX2_isSame_240 (by decide) (fun c_240 => ?_) (fun c_240 => ?_)
        · exact absurd rfl c_240
        · refine gk_aload_n G dX2_isSame_243 3 rfl ?_
          refine gk_iload G dX2_isSame_244 8 rfl ?_
          refine gq_leftOf_ok (Y := (gw_R cI rs 8 (upd fr (M 4 k) v227) ++ (gw_R cI pl nk fp ++ (gw_R cI o (gp_un M nk) fo)))) G gX2_isSame_X1_leftOf hE ⟨(Nat.le_of_ble_eq_true rfl), (Nat.le_of_ble_eq_true rfl)⟩ ⟨(Nat.le_of_ble_eq_true rfl), (Nat.le_of_ble_eq_true rfl)⟩ k wf hr231 (by omega) (Nat.le_of_ble_eq_true rfl) dX2_isSame_246 (fun u246 hr246 => ?_)
          show gk_C p l e ({ frames := 3, cells := 3, slots := 40, locals := 67 } : Room) s m ([.ref a, .ref g] : List Value).toArray below meth c 9 D A Q 3 40 ((gw_R cI rs 8 (upd fr (M 4 k) v227) ++ (gw_R cI pl nk fp ++ (gw_R cI o (gp_un M nk) fo))) ++ (gw_X cI cZ g h1 h2 q1 q2 u246 ++ (gp_W cI cJ a q F W0 nm nk fS fK Sx Kx T V))) [(4, .int (nI ((gm_sum M k) + (M 5 k)))), (8, .ref (Kx k)), (0, .ref a), (1, .ref g), (2, .ref o), (3, .int (nI nk)), (5, .ref pl), (6, .ref rs), (7, .int (nI k))] 249 [.int (nI (M 5 k))]
          refine gk_aload G dX2_isSame_249 1 rfl ?_
          refine gk_iconst (v := nI 1) G dX2_isSame_251 (by decide) ?_
          refine gk_iald (v := nI (M 5 k)) G (q0 := (nm + k + 4 + 21 + 1 + 1 + 1)) (t0 := 0) (gp_s1 (gp_s1 (gp_s1 (gp_sX (gp_atK (by omega)))))) rfl 1 rfl (by decide) (by decide) (hs.2.2.2.2.2.1 k (by omega)) dX2_isSame_252 ?_
          refine gk_icmp_ne (tgt := 296) G dX2_isSame_253 (by decide) (fun c_253 => ?_) (fun c_253 => ?_)
          · exact absurd rfl c_253
          · refine gk_aload_n G dX2_isSame_256 3 rfl ?_
            refine gk_iload G dX2_isSame_257 8 rfl ?_
            refine gq_untilOf_ok (Y := (gw_R cI rs 8 (upd fr (M 4 k) v227) ++ (gw_R cI pl nk fp ++ (gw_R cI o (gp_un M nk) fo)))) G gX2_isSame_X1_untilOf hE ⟨(Nat.le_of_ble_eq_true rfl), (Nat.le_of_ble_eq_true rfl)⟩ ⟨(Nat.le_of_ble_eq_true rfl), (Nat.le_of_ble_eq_true rfl)⟩ k wf hr246 (by omega) (Nat.le_of_ble_eq_true rfl) dX2_isSame_259 (fun u259 hr259 => ?_)
            show gk_C p l e ({ frames := 3, cells := 3, slots := 40, locals := 67 } : Room) s m ([.ref a, .ref g] : List Value).toArray below meth c 9 D A Q 3 40 ((gw_R cI rs 8 (upd fr (M 4 k) v227) ++ (gw_R cI pl nk fp ++ (gw_R cI o (gp_un M nk) fo))) ++ (gw_X cI cZ g h1 h2 q1 q2 u259 ++ (gp_W cI cJ a q F W0 nm nk fS fK Sx Kx T V))) [(4, .int (nI ((gm_sum M k) + (M 5 k)))), (8, .ref (Kx k)), (0, .ref a), (1, .ref g), (2, .ref o), (3, .int (nI nk)), (5, .ref pl), (6, .ref rs), (7, .int (nI k))] 262 [.int (nI (M 6 k))]
            refine gk_aload G dX2_isSame_262 1 rfl ?_
            refine gk_iconst (v := nI 2) G dX2_isSame_264 (by decide) ?_
            refine gk_iald (v := nI (M 6 k)) G (q0 := (nm + k + 4 + 21 + 1 + 1 + 1)) (t0 := 0) (gp_s1 (gp_s1 (gp_s1 (gp_sX (gp_atK (by omega)))))) rfl 2 rfl (by decide) (by decide) (hs.2.2.2.2.2.2.1 k (by omega)) dX2_isSame_265 ?_
            refine gk_icmp_ne (tgt := 296) G dX2_isSame_266 (by decide) (fun c_266 => ?_) (fun c_266 => ?_)
            · exact absurd rfl c_266
            · refine gk_aload_n G dX2_isSame_269 3 rfl ?_
              refine gk_iload G dX2_isSame_270 8 rfl ?_
              refine gq_groundAt_ok (Y := (gw_R cI rs 8 (upd fr (M 4 k) v227) ++ (gw_R cI pl nk fp ++ (gw_R cI o (gp_un M nk) fo)))) G gX2_isSame_X1_groundAt hE ⟨(Nat.le_of_ble_eq_true rfl), (Nat.le_of_ble_eq_true rfl)⟩ ⟨(Nat.le_of_ble_eq_true rfl), (Nat.le_of_ble_eq_true rfl)⟩ k wf hr259 (by omega) (Nat.le_of_ble_eq_true rfl) dX2_isSame_272 (fun u272 hr272 => ?_)
              show gk_C p l e ({ frames := 3, cells := 3, slots := 40, locals := 67 } : Room) s m ([.ref a, .ref g] : List Value).toArray below meth c 9 D A Q 3 40 ((gw_R cI rs 8 (upd fr (M 4 k) v227) ++ (gw_R cI pl nk fp ++ (gw_R cI o (gp_un M nk) fo))) ++ (gw_X cI cZ g h1 h2 q1 q2 u272 ++ (gp_W cI cJ a q F W0 nm nk fS fK Sx Kx T V))) [(4, .int (nI ((gm_sum M k) + (M 5 k)))), (8, .ref (Kx k)), (0, .ref a), (1, .ref g), (2, .ref o), (3, .int (nI nk)), (5, .ref pl), (6, .ref rs), (7, .int (nI k))] 275 [.int (gm_e (M 8 k))]
              refine gk_aload G dX2_isSame_275 1 rfl ?_
              refine gk_iconst (v := nI 3) G dX2_isSame_277 (by decide) ?_
              refine gk_iald (v := gm_e (M 8 k)) G (q0 := (nm + k + 4 + 21 + 1 + 1 + 1)) (t0 := 0) (gp_s1 (gp_s1 (gp_s1 (gp_sX (gp_atK (by omega)))))) rfl 3 rfl (by decide) (by decide) (hs.2.2.2.2.2.2.2 k (by omega)) dX2_isSame_278 ?_
              refine gk_icmp_ne (tgt := 296) G dX2_isSame_279 (by decide) (fun c_279 => ?_) (fun c_279 => ?_)
              · exact absurd rfl c_279
              · refine gk_aload_n G dX2_isSame_282 3 rfl ?_
                refine gk_iload G dX2_isSame_283 8 rfl ?_
                refine gq_placeOf_ok (Y := (gw_R cI rs 8 (upd fr (M 4 k) v227) ++ (gw_R cI pl nk fp ++ (gw_R cI o (gp_un M nk) fo)))) G gX2_isSame_X1_placeOf hE ⟨(Nat.le_of_ble_eq_true rfl), (Nat.le_of_ble_eq_true rfl)⟩ ⟨(Nat.le_of_ble_eq_true rfl), (Nat.le_of_ble_eq_true rfl)⟩ k wf hr272 hrest (by omega) (Nat.le_of_ble_eq_true rfl) dX2_isSame_285 (fun u285 hr285 => ?_)
                show gk_C p l e ({ frames := 3, cells := 3, slots := 40, locals := 67 } : Room) s m ([.ref a, .ref g] : List Value).toArray below meth c 9 D A Q 3 40 ((gw_R cI rs 8 (upd fr (M 4 k) v227) ++ (gw_R cI pl nk fp ++ (gw_R cI o (gp_un M nk) fo))) ++ (gw_X cI cZ g h1 h2 q1 q2 u285 ++ (gp_W cI cJ a q F W0 nm nk fS fK Sx Kx T V))) [(4, .int (nI ((gm_sum M k) + (M 5 k)))), (8, .ref (Kx k)), (0, .ref a), (1, .ref g), (2, .ref o), (3, .int (nI nk)), (5, .ref pl), (6, .ref rs), (7, .int (nI k))] 288 [.int (gm_plc M k)]
                refine gk_aload G dX2_isSame_288 6 rfl ?_
                refine gk_iload G dX2_isSame_290 8 rfl ?_
                refine gk_iald (v := gm_plc M k) G (q0 := 1) (t0 := 0) rfl rfl k rfl (by omega) (by omega) (hfp k (by omega)) dX2_isSame_292 ?_
                refine gk_icmp_eq (tgt := 298) G dX2_isSame_293 (by decide) (fun c_293 => ?_) (fun c_293 => ?_)
                · refine gk_iinc (j := 8) (v := nI (k + 1)) (lv' := [(7, .int (nI (k + 1))), (4, .int (nI ((gm_sum M k) + (M 5 k)))), (8, .ref (Kx k)), (0, .ref a), (1, .ref g), (2, .ref o), (3, .int (nI nk)), (5, .ref pl), (6, .ref rs)]) G dX2_isSame_298 rfl (nI_add k 1) (by decide) rfl ?_
                  refine gk_goto (tgt := 190) G dX2_isSame_301 (by decide) ?_
                  have r9 : ∀ b, b < 8 → (upd fr (M 4 k) v227) b = nI (gm_rst M b (k + 1)) := fun b hb => by
                    show _ = nI (gm_rst M b k + (if M 4 k = b then M 5 k else 0))
                    by_cases hbk : b = M 4 k
                    · rw [hbk, pk_us, if_pos rfl]; exact ev227
                    · rw [pk_un hbk, if_neg (fun q9 => hbk q9.symm)]; exact w2 b hb
                  exact gk_lsub [3,4,5,6,1,7,8,0] rfl (ih (k + 1) u285 _ (by omega) (by omega) hr285 r9)
                · exact absurd rfl c_293
  refine gk_iconst (v := nI 0) G dX2_isSame_187 (by decide) ?_
  refine gk_istore (lv' := [(7, .int (nI 0)), (0, .ref a), (1, .ref g), (2, .ref o), (3, .int (nI nk)), (4, .int (nI 0)), (5, .ref pl), (6, .ref rs)]) G dX2_isSame_188 (by decide) rfl ?_
  exact gk_lsub [1,2,3,4,5,6,7,0] rfl (L190 (nk + 1) 0 u _ (by omega) (Nat.zero_le _) hr (fun b _ => rfl))
set_option maxRecDepth 100000 in
set_option maxHeartbeats 2000000 in
theorem si_2 {p : Program} {l : Launch} {e : Env} {s : State} {m : MethodId} {below : List Frame} {meth : Method} {c : Code} {D : va_G} {A : Nat → Prop} {Q : State → Prop} {cI cZ cJ : ClassId} {g h1 h2 : Nat} {q1 q2 : Nat → Nat} {a : Nat} {q : Nat → Nat} {F W0 : Nat → Int32} {nm nk : Nat} {fS fK : Nat → Option Nat} {Sx Kx : Nat → Nat} {T V : Nat → Nat → Int32} {M : gm_M} {u : gw_U} (G : gk_G p s m ([.ref a, .ref g] : List Value).toArray meth c RX2 9 cX2_isSame (some .boolean) wsX2_isSame D (g_T cI cZ cJ) A) (wf : gm_wf M) (hrest : gm_rest M) (hs : gp_rep F W0 T V M) (hm : M 10 0 = nm) (hk : M 11 0 = nk) (hfS : gp_rows fS Sx nm) (hfK : gp_rows fK Kx nk) (hh : M 9 0 < 1900000) (hE : gn_E A s s.heap) (o : Nat) (fo : Nat → Int32) (hr : gc_rep u.1.1 u.1.2 M) (ho : gp_ord M nk fo) (K : ∀ (pl rs : Nat) (fp : Nat → Int32) (u : gw_U), gc_rep u.1.1 u.1.2 M → (∀ j, j < nk → fp j = gm_plc M j) → gk_C p l e ({ frames := 3, cells := 3, slots := 40, locals := 67 } : Room) s m ([.ref a, .ref g] : List Value).toArray below meth c 9 D A Q 3 40 ((gw_R cI rs 8 (fun _ => 0) ++ (gw_R cI pl nk fp ++ (gw_R cI o (gp_un M nk) fo))) ++ (gw_X cI cZ g h1 h2 q1 q2 u ++ (gp_W cI cJ a q F W0 nm nk fS fK Sx Kx T V))) [(0, .ref a), (1, .ref g), (2, .ref o), (3, .int (nI nk)), (4, .int (nI 0)), (5, .ref pl), (6, .ref rs)] 187 []) : gk_C p l e ({ frames := 3, cells := 3, slots := 40, locals := 67 } : Room) s m ([.ref a, .ref g] : List Value).toArray below meth c 9 D A Q 1 16 (gw_R cI o (gp_un M nk) fo ++ (gw_X cI cZ g h1 h2 q1 q2 u ++ (gp_W cI cJ a q F W0 nm nk fS fK Sx Kx T V))) [(0, .ref a), (1, .ref g), (2, .ref o), (3, .int (nI nk))] 113 [] := by
  obtain ⟨hz1, hz2, hz3, hz4, hz5, hz6, hz7, hz8⟩ := id wf
  have hun := gp_un_le M nk
  refine gk_aload_n G dX2_isSame_113 1 rfl ?_
  refine gq_late (Y := (gw_R cI o (gp_un M nk) fo)) G gX2_isSame_X1_late hE ⟨(Nat.le_of_ble_eq_true rfl), (Nat.le_of_ble_eq_true rfl)⟩ ⟨(Nat.le_of_ble_eq_true rfl), (Nat.le_of_ble_eq_true rfl)⟩ wf hr hrest (by omega) (Nat.le_of_ble_eq_true rfl) dX2_isSame_114 (fun u114 hr114 => ?_)
  show gk_C p l e ({ frames := 3, cells := 3, slots := 40, locals := 67 } : Room) s m ([.ref a, .ref g] : List Value).toArray below meth c 9 D A Q 1 16 (gw_R cI o (gp_un M nk) fo ++ (gw_X cI cZ g h1 h2 q1 q2 u114 ++ (gp_W cI cJ a q F W0 nm nk fS fK Sx Kx T V))) [(0, .ref a), (1, .ref g), (2, .ref o), (3, .int (nI nk))] 117 [.int (nI (gm_late M 0 (M 11 0)))]
  refine gk_aload_n G dX2_isSame_117 0 rfl ?_
  refine gk_iconst (v := nI 0) G dX2_isSame_118 (by decide) ?_
  refine gp_callIV (wr := (gw_R cI o (gp_un M nk) fo) ++ gw_X cI cZ g h1 h2 q1 q2 u114) G (c2_late l D cI cZ cJ a q F W0 nm nk fS fK Sx Kx T V M wf hs hm hk hfS hfK (by omega)) gX2_isSame_X2_late rfl 1 (by decide +kernel) rfl rfl ⟨(Nat.le_of_ble_eq_true rfl), (Nat.le_of_ble_eq_true rfl)⟩ rfl (q0 := 0) rfl (T := TX2) (N := 8) rfl gk_ok0 trivial (gk_pa3 _ _ _) rfl (Nat.le_of_ble_eq_true rfl) dX2_isSame_119 ⟨(Nat.le_of_ble_eq_true rfl), (Nat.le_of_ble_eq_true rfl)⟩ (fun r119 w119 hp119 => ?_)
  rw [show r119 = nI (gm_late M 0 nk) from hp119]
  refine gk_perm (gk_pa3' _ _ _) ?_
  show gk_C p l e ({ frames := 3, cells := 3, slots := 40, locals := 67 } : Room) s m ([.ref a, .ref g] : List Value).toArray below meth c 9 D A Q 1 16 (gw_R cI o (gp_un M nk) fo ++ (gw_X cI cZ g h1 h2 q1 q2 u114 ++ (gp_W cI cJ a q F W0 nm nk fS fK Sx Kx T V))) [(0, .ref a), (1, .ref g), (2, .ref o), (3, .int (nI nk))] 122 [.int (nI (gm_late M 0 nk)), .int (nI (gm_late M 0 (M 11 0)))]
  refine gk_icmp_eq (tgt := 127) G dX2_isSame_122 (by decide) (fun c_122 => ?_) (fun c_122 => ?_)
  · refine gk_iconst (v := nI 0) G dX2_isSame_127 (by decide) ?_
    refine gk_istore (lv' := [(4, .int (nI 0)), (0, .ref a), (1, .ref g), (2, .ref o), (3, .int (nI nk))]) G dX2_isSame_128 (by decide) rfl ?_
    refine gk_iload_n G dX2_isSame_130 4 rfl ?_
    refine gk_newa (cI := cI) (atype := .int) (N := nk) (a0 := (nk, .inl (fun _ => 0))) G (G.2.2.2.2.1 (.arrayClass .int) (List.mem_cons_of_mem _ (List.mem_append_left _ (List.mem_append_left _ (List.mem_append_left _ (List.mem_append_left _ (List.mem_append_left _ (List.mem_append_left _ (List.mem_of_getElem? (i := 6) rfl))))))))) rfl (fun C h => by cases h) 0 rfl (fun _ => rfl) rfl (by omega) (by show nk * 4 ≤ 536870912; omega) (Nat.le_of_ble_eq_true rfl) (by show 16 + nk ≤ 40; omega) dX2_isSame_131 (fun pl => ?_)
    refine gk_widen (k := 2) (n := 32) (Nat.le_of_ble_eq_true rfl) (by omega) (gk_rot ?_)
    show gk_C p l e ({ frames := 3, cells := 3, slots := 40, locals := 67 } : Room) s m ([.ref a, .ref g] : List Value).toArray below meth c 9 D A Q 2 32 ((gw_R cI pl nk (fun _ => 0) ++ (gw_R cI o (gp_un M nk) fo)) ++ (gw_X cI cZ g h1 h2 q1 q2 u114 ++ (gp_W cI cJ a q F W0 nm nk fS fK Sx Kx T V))) [(4, .int (nI 0)), (0, .ref a), (1, .ref g), (2, .ref o), (3, .int (nI nk))] 133 [.ref pl]
    refine gk_astore (lv' := [(5, .ref pl), (4, .int (nI 0)), (0, .ref a), (1, .ref g), (2, .ref o), (3, .int (nI nk))]) G dX2_isSame_133 (by decide) rfl ?_
    have L159 : ∀ (n : Nat) (k : Nat) (fp : Nat → Int32), gp_un M nk - k < n → (k ≤ gp_un M nk) → (gp_pl M nk k fp) → gk_C p l e ({ frames := 3, cells := 3, slots := 40, locals := 67 } : Room) s m ([.ref a, .ref g] : List Value).toArray below meth c 9 D A Q 2 32 ((gw_R cI pl nk fp ++ (gw_R cI o (gp_un M nk) fo)) ++ (gw_X cI cZ g h1 h2 q1 q2 u114 ++ (gp_W cI cJ a q F W0 nm nk fS fK Sx Kx T V))) [(0, .ref a), (1, .ref g), (2, .ref o), (3, .int (nI nk)), (4, .int (nI 0)), (5, .ref pl), (6, .int (nI k))] 159 [] := by
      intro n
      induction n with
      | zero => intro k fp h0; exact absurd h0 (Nat.not_lt_zero _)
      | succ n ih =>
        intro k fp h0 w0 w1
        refine gk_iload G dX2_isSame_159 6 rfl ?_
        refine gk_aload_n G dX2_isSame_161 2 rfl ?_
        refine gk_alen (v := nI (gp_un M nk)) G (q0 := 1) (t0 := 0) rfl rfl rfl dX2_isSame_162 ?_
        refine gk_icmp_ge (tgt := 181) G dX2_isSame_163 (by decide) (fun c_163 => ?_) (fun c_163 => ?_)
        · replace c_163 := (nI_leI (a := gp_un M nk) (b := k) (by omega) (by omega)).mp c_163
          have ek : k = gp_un M nk := by omega
          rw [ek] at w1
          have hfp : ∀ j, j < nk → fp j = gm_plc M j := fun j hj => by
            rw [w1 j hj]
            unfold gm_plc
            by_cases h9 : M 8 j = 0
            · rw [if_pos ⟨h9, gp_cnt_lt h9 nk hj⟩, if_pos h9, hk]
            · rw [if_neg (fun q9 => h9 q9.1), if_neg h9]
          refine gk_bipush (v := nI 8) G dX2_isSame_181 (by decide) ?_
          refine gk_newa (cI := cI) (atype := .int) (N := 8) (a0 := (8, .inl (fun _ => 0))) G (G.2.2.2.2.1 (.arrayClass .int) (List.mem_cons_of_mem _ (List.mem_append_left _ (List.mem_append_left _ (List.mem_append_left _ (List.mem_append_left _ (List.mem_append_left _ (List.mem_append_left _ (List.mem_of_getElem? (i := 6) rfl))))))))) rfl (fun C h => by cases h) 0 rfl (fun _ => rfl) rfl (by omega) (by show 8 * 4 ≤ 536870912; omega) (Nat.le_of_ble_eq_true rfl) (by show 32 + 8 ≤ 40; omega) dX2_isSame_183 (fun rs => ?_)
          refine gk_widen (k := 3) (n := 40) (Nat.le_of_ble_eq_true rfl) (by omega) (gk_rot ?_)
          show gk_C p l e ({ frames := 3, cells := 3, slots := 40, locals := 67 } : Room) s m ([.ref a, .ref g] : List Value).toArray below meth c 9 D A Q 3 40 ((gw_R cI rs 8 (fun _ => 0) ++ (gw_R cI pl nk fp ++ (gw_R cI o (gp_un M nk) fo))) ++ (gw_X cI cZ g h1 h2 q1 q2 u114 ++ (gp_W cI cJ a q F W0 nm nk fS fK Sx Kx T V))) [(0, .ref a), (1, .ref g), (2, .ref o), (3, .int (nI nk)), (4, .int (nI 0)), (5, .ref pl), (6, .int (nI k))] 185 [.ref rs]
          refine gk_astore (lv' := [(6, .ref rs), (0, .ref a), (1, .ref g), (2, .ref o), (3, .int (nI nk)), (4, .int (nI 0)), (5, .ref pl)]) G dX2_isSame_185 (by decide) rfl ?_
          exact gk_lsub [1,2,3,4,5,6,0] rfl (K pl rs fp u114 hr114 hfp)
        · replace c_163 := (not_congr (nI_leI (a := gp_un M nk) (b := k) (by omega) (by omega))).mp c_163
          obtain ⟨sx, hs1, hs2, hs3⟩ := gp_cnt_sur (M := M) nk (by omega) k (by omega)
          have hf : fo k = nI sx := by rw [← hs3]; exact ho sx hs1 hs2
          refine gk_aload G dX2_isSame_166 5 rfl ?_
          refine gk_aload_n G dX2_isSame_168 2 rfl ?_
          refine gk_iload G dX2_isSame_169 6 rfl ?_
          refine gk_iald (v := nI sx) G (q0 := 1) (t0 := 0) rfl rfl k rfl (by omega) (by omega) hf dX2_isSame_171 ?_
          refine gk_iload G dX2_isSame_172 6 rfl ?_
          refine gk_topi (fun v174 ev174 => ?_)
          refine gk_iast (w' := ((gw_R cI pl nk (upd fp sx v174) ++ (gw_R cI o (gp_un M nk) fo)) ++ (gw_X cI cZ g h1 h2 q1 q2 u114 ++ (gp_W cI cJ a q F W0 nm nk fS fK Sx Kx T V)))) G (q0 := 0) (t0 := 0) rfl rfl sx rfl (by omega) (by omega) rfl dX2_isSame_174 ?_
          refine gk_iinc (j := 6) (v := nI (k + 1)) (lv' := [(6, .int (nI (k + 1))), (0, .ref a), (1, .ref g), (2, .ref o), (3, .int (nI nk)), (4, .int (nI 0)), (5, .ref pl)]) G dX2_isSame_175 rfl (nI_add k 1) (by decide) rfl ?_
          refine gk_goto (tgt := 159) G dX2_isSame_178 (by decide) ?_
          exact gk_lsub [1,2,3,4,5,6,0] rfl (ih (k + 1) _ (by omega) (by omega) (fun j hj => by
            by_cases hjx : j = sx
            · rw [hjx, pk_us, if_pos ⟨hs2, by omega⟩, hs3]; exact ev174
            · rw [pk_un hjx, w1 j hj]
              by_cases h9 : M 8 j = 0 ∧ gm_cnt M j nk < k
              · rw [if_pos h9, if_pos ⟨h9.1, by omega⟩]
              · rw [if_neg h9, if_neg (fun q9 => h9 ⟨q9.1, by
                  have : gm_cnt M j nk ≠ k := fun z9 => hjx (gp_cnt_inj hj hs1 (by omega) q9.1 hs2 (by rw [z9, hs3]))
                  have := q9.2; omega⟩)]))
    have J156 : ∀ fp : Nat → Int32, (∀ i, i < nk → fp i = -1) → gk_C p l e ({ frames := 3, cells := 3, slots := 40, locals := 67 } : Room) s m ([.ref a, .ref g] : List Value).toArray below meth c 9 D A Q 2 32 ((gw_R cI pl nk fp ++ (gw_R cI o (gp_un M nk) fo)) ++ (gw_X cI cZ g h1 h2 q1 q2 u114 ++ (gp_W cI cJ a q F W0 nm nk fS fK Sx Kx T V))) [(0, .ref a), (1, .ref g), (2, .ref o), (3, .int (nI nk)), (4, .int (nI 0)), (5, .ref pl)] 156 [] := by
      intro fp w1
      refine gk_iconst (v := nI 0) G dX2_isSame_156 (by decide) ?_
      refine gk_istore (lv' := [(6, .int (nI 0)), (0, .ref a), (1, .ref g), (2, .ref o), (3, .int (nI nk)), (4, .int (nI 0)), (5, .ref pl)]) G dX2_isSame_157 (by decide) rfl ?_
      exact gk_lsub [1,2,3,4,5,6,0] rfl (L159 (gp_un M nk + 1) 0 fp (by omega) (Nat.zero_le _) (fun j hj => by rw [if_neg (fun q9 => Nat.not_lt_zero _ q9.2)]; exact w1 j hj))
    have L138 : ∀ (n : Nat) (k : Nat) (fp : Nat → Int32), nk - k < n → (k ≤ nk) → (∀ i, i < k → fp i = -1) → gk_C p l e ({ frames := 3, cells := 3, slots := 40, locals := 67 } : Room) s m ([.ref a, .ref g] : List Value).toArray below meth c 9 D A Q 2 32 ((gw_R cI pl nk fp ++ (gw_R cI o (gp_un M nk) fo)) ++ (gw_X cI cZ g h1 h2 q1 q2 u114 ++ (gp_W cI cJ a q F W0 nm nk fS fK Sx Kx T V))) [(0, .ref a), (1, .ref g), (2, .ref o), (3, .int (nI nk)), (4, .int (nI 0)), (5, .ref pl), (6, .int (nI k))] 138 [] := by
      intro n
      induction n with
      | zero => intro k fp h0; exact absurd h0 (Nat.not_lt_zero _)
      | succ n ih =>
        intro k fp h0 w0 w1
        refine gk_iload G dX2_isSame_138 6 rfl ?_
        refine gk_iload_n G dX2_isSame_140 3 rfl ?_
        refine gk_icmp_ge (tgt := 156) G dX2_isSame_141 (by decide) (fun c_141 => ?_) (fun c_141 => ?_)
        · replace c_141 := (nI_leI (a := nk) (b := k) (by omega) (by omega)).mp c_141
          have ek : k = nk := by omega
          subst ek
          exact gk_lsub [0,1,2,3,4,5] rfl (J156 fp w1)
        · replace c_141 := (not_congr (nI_leI (a := nk) (b := k) (by omega) (by omega))).mp c_141
          refine gk_aload G dX2_isSame_144 5 rfl ?_
          refine gk_iload G dX2_isSame_146 6 rfl ?_
          refine gk_iconst (v := -1) G dX2_isSame_148 (by decide) ?_
          refine gk_topi (fun v149 ev149 => ?_)
          refine gk_iast (w' := ((gw_R cI pl nk (upd fp k v149) ++ (gw_R cI o (gp_un M nk) fo)) ++ (gw_X cI cZ g h1 h2 q1 q2 u114 ++ (gp_W cI cJ a q F W0 nm nk fS fK Sx Kx T V)))) G (q0 := 0) (t0 := 0) rfl rfl k rfl (by omega) (by omega) rfl dX2_isSame_149 ?_
          refine gk_iinc (j := 6) (v := nI (k + 1)) (lv' := [(6, .int (nI (k + 1))), (0, .ref a), (1, .ref g), (2, .ref o), (3, .int (nI nk)), (4, .int (nI 0)), (5, .ref pl)]) G dX2_isSame_150 rfl (nI_add k 1) (by decide) rfl ?_
          refine gk_goto (tgt := 138) G dX2_isSame_153 (by decide) ?_
          exact gk_lsub [1,2,3,4,5,6,0] rfl (ih (k + 1) _ (by omega) (by omega) (fun i hi => by
            by_cases hik : i = k
            · rw [hik, pk_us]; exact ev149
            · rw [pk_un hik]; exact w1 i (by omega)))
    refine gk_iconst (v := nI 0) G dX2_isSame_135 (by decide) ?_
    refine gk_istore (lv' := [(6, .int (nI 0)), (5, .ref pl), (4, .int (nI 0)), (0, .ref a), (1, .ref g), (2, .ref o), (3, .int (nI nk))]) G dX2_isSame_136 (by decide) rfl ?_
    exact gk_lsub [3,4,5,6,2,1,0] rfl (L138 (nk + 1) 0 _ (by omega) (Nat.zero_le _) (fun i h9 => absurd h9 (Nat.not_lt_zero _)))
  · exact absurd (by rw [hk]) c_122
set_option maxRecDepth 100000 in
set_option maxHeartbeats 2000000 in
theorem c2_isSame (l : Launch) (D : va_G) (cI cZ cJ : ClassId) (g h1 h2 : Nat) (q1 q2 : Nat → Nat) (u : gw_U) (a : Nat) (q : Nat → Nat) (F W0 : Nat → Int32) (nm nk : Nat) (fS fK : Nat → Option Nat) (Sx Kx : Nat → Nat) (T V : Nat → Nat → Int32) (M : gm_M) (wf : gm_wf M) (hrest : gm_rest M) (hr : gc_rep u.1.1 u.1.2 M) (hs : gp_rep F W0 T V M) (hm : M 10 0 = nm) (hk : M 11 0 = nk) (hfS : gp_rows fS Sx nm) (hfK : gp_rows fK Kx nk) (hh : M 9 0 < 1900000) : gk_I l yX2_isSame wsX2_isSame ({ frames := 3, cells := 3, slots := 40, locals := 67 } : Room) D (g_T cI cZ cJ) gn_E [.ref a, .ref g] (gw_X cI cZ g h1 h2 q1 q2 u ++ gp_W cI cJ a q F W0 nm nk fS fK Sx Kx T V) 3 40 (fun (r : Int32) (u : gw_U) => r = nI 1 ∧ gc_rep u.1.1 u.1.2 M) (fun u => (gw_X cI cZ g h1 h2 q1 q2 u ++ gp_W cI cJ a q F W0 nm nk fS fK Sx Kx T V)) := by
  refine gk_I_of (ty := .boolean) (cc := cX2_isSame) (nL := 9) (by decide +kernel) rfl (Nat.le_of_ble_eq_true rfl) ?_
  intro p e s m below meth c A Q hnm hE G RET
  obtain ⟨hz1, hz2, hz3, hz4, hz5, hz6, hz7, hz8⟩ := id wf
  have hun := gp_un_le M nk
  have hinX2 : ∀ w ∈ wsX20, w ∈ wsX2_isSame := fun w h9 => (List.mem_cons_of_mem _ (List.mem_append_left _ (List.mem_append_left _ (List.mem_append_left _ (List.mem_append_left _ (List.mem_append_right _ h9))))))
  have k7 := G.2.2.2.2.1 (.fieldLink RX2 7 "GustMillLaw$Sim" "wind" "[I") (List.mem_cons_of_mem _ (List.mem_append_left _ (List.mem_append_left _ (List.mem_append_left _ (List.mem_append_left _ (List.mem_append_left _ (List.mem_append_left _ (List.mem_of_getElem? (i := 4) rfl))))))))
  have k14 := G.2.2.2.2.1 (.fieldLink RX2 14 "GustMillLaw$Sim" "stones" "[[I") (List.mem_cons_of_mem _ (List.mem_append_left _ (List.mem_append_left _ (List.mem_append_left _ (List.mem_append_left _ (List.mem_append_left _ (List.mem_append_left _ (List.mem_of_getElem? (i := 2) rfl))))))))
  have k18 := G.2.2.2.2.1 (.fieldLink RX2 18 "GustMillLaw$Sim" "sacks" "[[I") (List.mem_cons_of_mem _ (List.mem_append_left _ (List.mem_append_left _ (List.mem_append_left _ (List.mem_append_left _ (List.mem_append_left _ (List.mem_append_left _ (List.mem_of_getElem? (i := 0) rfl))))))))
  have k21 := G.2.2.2.2.1 (.fieldLink RX2 21 "GustMillLaw$Sim" "rule" "I") (List.mem_cons_of_mem _ (List.mem_append_left _ (List.mem_append_left _ (List.mem_append_left _ (List.mem_append_left _ (List.mem_append_left _ (List.mem_append_left _ (List.mem_of_getElem? (i := 3) rfl))))))))
  have k33 := G.2.2.2.2.1 (.fieldLink RX2 33 "GustMillLaw$Sim" "hour" "I") (List.mem_cons_of_mem _ (List.mem_append_left _ (List.mem_append_left _ (List.mem_append_left _ (List.mem_append_left _ (List.mem_append_left _ (List.mem_append_left _ (List.mem_of_getElem? (i := 1) rfl))))))))
  have k40 := G.2.2.2.2.1 (.fieldLink RX2 40 "GustMillLaw$Sim" "changes" "I") (List.mem_cons_of_mem _ (List.mem_append_left _ (List.mem_append_left _ (List.mem_append_left _ (List.mem_append_left _ (List.mem_append_left _ (List.mem_append_left _ (List.mem_of_getElem? (i := 5) rfl))))))))
  refine gk_aload_n G dX2_isSame_0 0 rfl ?_
  refine gp_callRV (wr := gw_X cI cZ g h1 h2 q1 q2 u) G (c2_order l D cI cZ cJ a q F W0 nm nk fS fK Sx Kx T V M wf hs hm hk hfS hfK (by omega)) gX2_isSame_X2_order rfl 0 (by decide +kernel) rfl rfl ⟨(Nat.le_of_ble_eq_true rfl), (Nat.le_of_ble_eq_true rfl)⟩ rfl (q0 := 0) rfl (T := TX2) (N := 8) rfl gk_ok0 trivial (List.Perm.refl _) rfl (Nat.le_of_ble_eq_true rfl) dX2_isSame_1 ⟨(Nat.le_of_ble_eq_true rfl), (Nat.le_of_ble_eq_true rfl)⟩ (fun fo o ho => ?_)
  refine gk_perm (gk_pf _ _ _) ?_
  show gk_C p l e ({ frames := 3, cells := 3, slots := 40, locals := 67 } : Room) s m ([.ref a, .ref g] : List Value).toArray below meth c 9 D A Q 1 16 (gw_R cI o (gp_un M nk) fo ++ (gw_X cI cZ g h1 h2 q1 q2 u ++ (gp_W cI cJ a q F W0 nm nk fS fK Sx Kx T V))) [(0, .ref a), (1, .ref g)] 4 [.ref o]
  refine gk_astore_n (lv' := [(2, .ref o), (0, .ref a), (1, .ref g)]) G dX2_isSame_4 rfl (by decide) rfl ?_
  refine gk_aload_n G dX2_isSame_5 1 rfl ?_
  refine gk_get (v' := .ref (q 2)) G hinX2 (q0 := 22) rfl rfl 7 (by decide) k18 rfl rfl dX2_isSame_6 ?_
  refine gk_alen (v := nI nk) G (q0 := 25) (t0 := 2) rfl rfl rfl dX2_isSame_9 ?_
  refine gk_istore_n (lv' := [(3, .int (nI nk)), (2, .ref o), (0, .ref a), (1, .ref g)]) G dX2_isSame_10 rfl (by decide) rfl ?_
  refine gk_aload_n G dX2_isSame_11 3 rfl ?_
  refine gq_hour (Y := (gw_R cI o (gp_un M nk) fo)) G gX2_isSame_X1_hour hE ⟨(Nat.le_of_ble_eq_true rfl), (Nat.le_of_ble_eq_true rfl)⟩ ⟨(Nat.le_of_ble_eq_true rfl), (Nat.le_of_ble_eq_true rfl)⟩ wf hr (Nat.le_of_ble_eq_true rfl) dX2_isSame_12 (fun u12 hr12 => ?_)
  show gk_C p l e ({ frames := 3, cells := 3, slots := 40, locals := 67 } : Room) s m ([.ref a, .ref g] : List Value).toArray below meth c 9 D A Q 1 16 (gw_R cI o (gp_un M nk) fo ++ (gw_X cI cZ g h1 h2 q1 q2 u12 ++ (gp_W cI cJ a q F W0 nm nk fS fK Sx Kx T V))) [(3, .int (nI nk)), (2, .ref o), (0, .ref a), (1, .ref g)] 15 [.int (nI (M 9 0))]
  refine gk_aload_n G dX2_isSame_15 2 rfl ?_
  refine gk_get (v' := .int (nI (M 9 0))) G hinX2 (q0 := 22) rfl rfl 0 (by decide) k33 rfl (congrArg Value.int (hs.1.1)) dX2_isSame_16 ?_
  refine gk_icmp_ne (tgt := 125) G dX2_isSame_19 (by decide) (fun c_19 => ?_) (fun c_19 => ?_)
  · exact absurd rfl c_19
  · refine gk_aload_n G dX2_isSame_22 3 rfl ?_
    refine gq_stones (Y := (gw_R cI o (gp_un M nk) fo)) G gX2_isSame_X1_stones hE ⟨(Nat.le_of_ble_eq_true rfl), (Nat.le_of_ble_eq_true rfl)⟩ ⟨(Nat.le_of_ble_eq_true rfl), (Nat.le_of_ble_eq_true rfl)⟩ wf hr12 (Nat.le_of_ble_eq_true rfl) dX2_isSame_23 (fun u23 hr23 => ?_)
    show gk_C p l e ({ frames := 3, cells := 3, slots := 40, locals := 67 } : Room) s m ([.ref a, .ref g] : List Value).toArray below meth c 9 D A Q 1 16 (gw_R cI o (gp_un M nk) fo ++ (gw_X cI cZ g h1 h2 q1 q2 u23 ++ (gp_W cI cJ a q F W0 nm nk fS fK Sx Kx T V))) [(3, .int (nI nk)), (2, .ref o), (0, .ref a), (1, .ref g)] 26 [.int (nI (M 10 0))]
    refine gk_aload_n G dX2_isSame_26 2 rfl ?_
    refine gk_get (v' := .ref (q 1)) G hinX2 (q0 := 22) rfl rfl 6 (by decide) k14 rfl rfl dX2_isSame_27 ?_
    refine gk_alen (v := nI nm) G (q0 := 24) (t0 := 2) rfl rfl rfl dX2_isSame_30 ?_
    refine gk_icmp_ne (tgt := 125) G dX2_isSame_31 (by decide) (fun c_31 => ?_) (fun c_31 => ?_)
    · exact absurd (congrArg nI hm) c_31
    · refine gk_aload_n G dX2_isSame_34 3 rfl ?_
      refine gq_sacks (Y := (gw_R cI o (gp_un M nk) fo)) G gX2_isSame_X1_sacks hE ⟨(Nat.le_of_ble_eq_true rfl), (Nat.le_of_ble_eq_true rfl)⟩ ⟨(Nat.le_of_ble_eq_true rfl), (Nat.le_of_ble_eq_true rfl)⟩ wf hr23 (Nat.le_of_ble_eq_true rfl) dX2_isSame_35 (fun u35 hr35 => ?_)
      show gk_C p l e ({ frames := 3, cells := 3, slots := 40, locals := 67 } : Room) s m ([.ref a, .ref g] : List Value).toArray below meth c 9 D A Q 1 16 (gw_R cI o (gp_un M nk) fo ++ (gw_X cI cZ g h1 h2 q1 q2 u35 ++ (gp_W cI cJ a q F W0 nm nk fS fK Sx Kx T V))) [(3, .int (nI nk)), (2, .ref o), (0, .ref a), (1, .ref g)] 38 [.int (nI (M 11 0))]
      refine gk_iload_n G dX2_isSame_38 0 rfl ?_
      refine gk_icmp_ne (tgt := 125) G dX2_isSame_39 (by decide) (fun c_39 => ?_) (fun c_39 => ?_)
      · exact absurd (congrArg nI hk) c_39
      · refine gk_aload_n G dX2_isSame_42 3 rfl ?_
        refine gq_rule (Y := (gw_R cI o (gp_un M nk) fo)) G gX2_isSame_X1_rule hE ⟨(Nat.le_of_ble_eq_true rfl), (Nat.le_of_ble_eq_true rfl)⟩ ⟨(Nat.le_of_ble_eq_true rfl), (Nat.le_of_ble_eq_true rfl)⟩ wf hr35 (Nat.le_of_ble_eq_true rfl) dX2_isSame_43 (fun u43 hr43 => ?_)
        show gk_C p l e ({ frames := 3, cells := 3, slots := 40, locals := 67 } : Room) s m ([.ref a, .ref g] : List Value).toArray below meth c 9 D A Q 1 16 (gw_R cI o (gp_un M nk) fo ++ (gw_X cI cZ g h1 h2 q1 q2 u43 ++ (gp_W cI cJ a q F W0 nm nk fS fK Sx Kx T V))) [(3, .int (nI nk)), (2, .ref o), (0, .ref a), (1, .ref g)] 46 [.int (nI (M 14 0))]
        refine gk_aload_n G dX2_isSame_46 2 rfl ?_
        refine gk_get (v' := .int (nI (M 14 0))) G hinX2 (q0 := 22) rfl rfl 1 (by decide) k21 rfl (congrArg Value.int (hs.1.2.1)) dX2_isSame_47 ?_
        refine gk_icmp_ne (tgt := 125) G dX2_isSame_50 (by decide) (fun c_50 => ?_) (fun c_50 => ?_)
        · exact absurd rfl c_50
        · refine gk_aload_n G dX2_isSame_53 3 rfl ?_
          refine gq_wind (Y := (gw_R cI o (gp_un M nk) fo)) G gX2_isSame_X1_wind hE ⟨(Nat.le_of_ble_eq_true rfl), (Nat.le_of_ble_eq_true rfl)⟩ ⟨(Nat.le_of_ble_eq_true rfl), (Nat.le_of_ble_eq_true rfl)⟩ wf hr43 (by omega) (Nat.le_of_ble_eq_true rfl) dX2_isSame_54 (fun u54 hr54 => ?_)
          show gk_C p l e ({ frames := 3, cells := 3, slots := 40, locals := 67 } : Room) s m ([.ref a, .ref g] : List Value).toArray below meth c 9 D A Q 1 16 (gw_R cI o (gp_un M nk) fo ++ (gw_X cI cZ g h1 h2 q1 q2 u54 ++ (gp_W cI cJ a q F W0 nm nk fS fK Sx Kx T V))) [(3, .int (nI nk)), (2, .ref o), (0, .ref a), (1, .ref g)] 57 [.int (nI (gm_wnd M))]
          refine gk_aload_n G dX2_isSame_57 2 rfl ?_
          refine gk_get (v' := .ref (q 0)) G hinX2 (q0 := 22) rfl rfl 5 (by decide) k7 rfl rfl dX2_isSame_58 ?_
          refine gk_aload_n G dX2_isSame_61 2 rfl ?_
          refine gk_get (v' := .int (nI (M 9 0))) G hinX2 (q0 := 22) rfl rfl 0 (by decide) k33 rfl (congrArg Value.int (hs.1.1)) dX2_isSame_62 ?_
          refine gk_bipush (v := nI 12) G dX2_isSame_65 (by decide) ?_
          refine gk_irem (v := nI (M 9 0 % 12)) G dX2_isSame_67 (by decide) (pk_rem (by omega) (by decide) (by decide)) ?_
          refine gk_iald (v := nI (M 0 (M 9 0 % 12))) G (q0 := 23) (t0 := 0) rfl rfl (M 9 0 % 12) rfl (Nat.mod_lt _ (by decide)) (by decide) (hs.2.1 _ (Nat.mod_lt _ (by decide))) dX2_isSame_68 ?_
          refine gk_icmp_ne (tgt := 125) G dX2_isSame_69 (by decide) (fun c_69 => ?_) (fun c_69 => ?_)
          · exact absurd rfl c_69
          · refine gk_aload_n G dX2_isSame_72 3 rfl ?_
            refine gq_changes (Y := (gw_R cI o (gp_un M nk) fo)) G gX2_isSame_X1_changes hE ⟨(Nat.le_of_ble_eq_true rfl), (Nat.le_of_ble_eq_true rfl)⟩ ⟨(Nat.le_of_ble_eq_true rfl), (Nat.le_of_ble_eq_true rfl)⟩ wf hr54 (Nat.le_of_ble_eq_true rfl) dX2_isSame_73 (fun u73 hr73 => ?_)
            show gk_C p l e ({ frames := 3, cells := 3, slots := 40, locals := 67 } : Room) s m ([.ref a, .ref g] : List Value).toArray below meth c 9 D A Q 1 16 (gw_R cI o (gp_un M nk) fo ++ (gw_X cI cZ g h1 h2 q1 q2 u73 ++ (gp_W cI cJ a q F W0 nm nk fS fK Sx Kx T V))) [(3, .int (nI nk)), (2, .ref o), (0, .ref a), (1, .ref g)] 76 [.int (nI (M 13 0))]
            refine gk_aload_n G dX2_isSame_76 2 rfl ?_
            refine gk_get (v' := .int (nI (M 13 0))) G hinX2 (q0 := 22) rfl rfl 3 (by decide) k40 rfl (congrArg Value.int (hs.1.2.2.2.1)) dX2_isSame_77 ?_
            refine gk_icmp_ne (tgt := 125) G dX2_isSame_80 (by decide) (fun c_80 => ?_) (fun c_80 => ?_)
            · exact absurd rfl c_80
            · refine gk_aload_n G dX2_isSame_83 3 rfl ?_
              refine gq_ground (Y := (gw_R cI o (gp_un M nk) fo)) G gX2_isSame_X1_ground hE ⟨(Nat.le_of_ble_eq_true rfl), (Nat.le_of_ble_eq_true rfl)⟩ ⟨(Nat.le_of_ble_eq_true rfl), (Nat.le_of_ble_eq_true rfl)⟩ wf hr73 (Nat.le_of_ble_eq_true rfl) dX2_isSame_84 (fun u84 hr84 => ?_)
              show gk_C p l e ({ frames := 3, cells := 3, slots := 40, locals := 67 } : Room) s m ([.ref a, .ref g] : List Value).toArray below meth c 9 D A Q 1 16 (gw_R cI o (gp_un M nk) fo ++ (gw_X cI cZ g h1 h2 q1 q2 u84 ++ (gp_W cI cJ a q F W0 nm nk fS fK Sx Kx T V))) [(3, .int (nI nk)), (2, .ref o), (0, .ref a), (1, .ref g)] 87 [.int (nI (gm_gct M (M 11 0)))]
              refine gk_iload_n G dX2_isSame_87 0 rfl ?_
              refine gk_aload_n G dX2_isSame_88 1 rfl ?_
              refine gk_alen (v := nI (gp_un M nk)) G (q0 := 0) (t0 := 0) rfl rfl rfl dX2_isSame_89 ?_
              refine gk_isub (v := nI (nk - gp_un M nk)) G dX2_isSame_90 (pk_sub hun) ?_
              refine gk_icmp_ne (tgt := 125) G dX2_isSame_91 (by decide) (fun c_91 => ?_) (fun c_91 => ?_)
              · exact absurd (congrArg nI (by rw [hk]; unfold gp_un; have := gm_gct_le M nk; omega)) c_91
              · refine gk_aload_n G dX2_isSame_94 3 rfl ?_
                refine gq_first (Y := (gw_R cI o (gp_un M nk) fo)) G gX2_isSame_X1_first hE ⟨(Nat.le_of_ble_eq_true rfl), (Nat.le_of_ble_eq_true rfl)⟩ ⟨(Nat.le_of_ble_eq_true rfl), (Nat.le_of_ble_eq_true rfl)⟩ wf hr84 hrest (Nat.le_of_ble_eq_true rfl) dX2_isSame_95 (fun u95 hr95 => ?_)
                show gk_C p l e ({ frames := 3, cells := 3, slots := 40, locals := 67 } : Room) s m ([.ref a, .ref g] : List Value).toArray below meth c 9 D A Q 1 16 (gw_R cI o (gp_un M nk) fo ++ (gw_X cI cZ g h1 h2 q1 q2 u95 ++ (gp_W cI cJ a q F W0 nm nk fS fK Sx Kx T V))) [(3, .int (nI nk)), (2, .ref o), (0, .ref a), (1, .ref g)] 98 [.int (gm_e (gm_nxt M 0 (M 11 0)))]
                refine gk_aload_n G dX2_isSame_98 1 rfl ?_
                refine gk_alen (v := nI (gp_un M nk)) G (q0 := 0) (t0 := 0) rfl rfl rfl dX2_isSame_99 ?_
                refine gk_if_ne (tgt := 107) G dX2_isSame_100 (by decide) (fun c_100 => ?_) (fun c_100 => ?_)
                · replace c_100 := (not_congr (nI_eq (a := gp_un M nk) (b := 0) (by omega) (by omega))).mp c_100
                  obtain ⟨sx, hs1, hs2, hs3⟩ := gp_cnt_sur (M := M) nk (by omega) 0 (by omega)
                  have hf : fo 0 = gm_e (gm_nxt M 0 (M 11 0)) := by
                    rw [hk, gp_first_is (by omega) hs1 hs2 hs3, gm_eS, ← hs3]; exact ho sx hs1 hs2
                  refine gk_aload_n G dX2_isSame_107 1 rfl ?_
                  refine gk_iconst (v := nI 0) G dX2_isSame_108 (by decide) ?_
                  refine gk_iald (v := gm_e (gm_nxt M 0 (M 11 0))) G (q0 := 0) (t0 := 0) rfl rfl 0 rfl (by omega) (by omega) hf dX2_isSame_109 ?_
                  refine gk_icmp_ne (tgt := 125) G dX2_isSame_110 (by decide) (fun c_110 => ?_) (fun c_110 => ?_)
                  · exact absurd rfl c_110
                  · refine gk_lsub (lv' := [(0, .ref a), (1, .ref g), (2, .ref o), (3, .int (nI nk))]) [2,3,1,0] rfl ?_
                    refine si_2 G wf hrest hs hm hk hfS hfK hh hE o fo hr95 ho (fun pl rs fp u2 hr2 hfp => ?_)
                    refine si_3 G wf hrest hs hm hk hfS hfK hh hE o pl rs fo fp hr2 hfp (fun fr u3 hr3 hfr => ?_)
                    refine si_4 G wf hrest hs hm hk hfS hfK hh hE o pl rs fo fp fr hr3 (fun u4 hr4 => ?_)
                    refine si_5 G wf hrest hs hm hk hfS hfK hh hE o pl rs fo fp fr hr4 hfr (fun u5 hr5 => ?_)
                    refine si_6 G wf hrest hs hm hk hfS hfK hh hE o pl rs fo fp fr hr5 ?_
                    exact fun c9 s9 lv9 pc9 u9 d9 p9 a9 b9 => RET c9 s9 _ lv9 pc9 _ u9 d9 rfl ⟨rfl, p9⟩ rfl a9 b9
                · replace c_100 := (nI_eq (a := gp_un M nk) (b := 0) (by omega) (by omega)).mp c_100
                  have hnx : gm_nxt M 0 (M 11 0) = 0 := by rw [hk, gp_first_no]; have := gm_gct_le M nk; unfold gp_un at c_100; omega
                  refine gk_iconst (v := -1) G dX2_isSame_103 (by decide) ?_
                  refine gk_goto (tgt := 110) G dX2_isSame_104 (by decide) ?_
                  refine gk_icmp_ne (tgt := 125) G dX2_isSame_110 (by decide) (fun c_110 => ?_) (fun c_110 => ?_)
                  · exact absurd (by rw [hnx]; rfl) c_110
                  · refine gk_lsub (lv' := [(0, .ref a), (1, .ref g), (2, .ref o), (3, .int (nI nk))]) [2,3,1,0] rfl ?_
                    refine si_2 G wf hrest hs hm hk hfS hfK hh hE o fo hr95 ho (fun pl rs fp u2 hr2 hfp => ?_)
                    refine si_3 G wf hrest hs hm hk hfS hfK hh hE o pl rs fo fp hr2 hfp (fun fr u3 hr3 hfr => ?_)
                    refine si_4 G wf hrest hs hm hk hfS hfK hh hE o pl rs fo fp fr hr3 (fun u4 hr4 => ?_)
                    refine si_5 G wf hrest hs hm hk hfS hfK hh hE o pl rs fo fp fr hr4 hfr (fun u5 hr5 => ?_)
                    refine si_6 G wf hrest hs hm hk hfS hfK hh hE o pl rs fo fp fr hr5 ?_
                    exact fun c9 s9 lv9 pc9 u9 d9 p9 a9 b9 => RET c9 s9 _ lv9 pc9 _ u9 d9 rfl ⟨rfl, p9⟩ rfl a9 b9
