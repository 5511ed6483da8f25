set_option maxRecDepth 100000 in
set_option maxHeartbeats 2000000 in
theorem sa_sack {p : Program} {l : Launch} {e : Env} {s : State} {m : MethodId} {below : List Frame} {meth : Method} {c : Code} {D : va_G} {A : Nat → Prop} {Q : State → Prop} {cI cZ cJ : ClassId} {g h1 h2 : Nat} {q1 q2 : Nat → Nat} {u : gw_U} {a : Nat} {q : Nat → Nat} {F W0 : Nat → Int32} {nm nk : Nat} {fS fK : Nat → Option Nat} {Sx Kx : Nat → Nat} {T V : Nat → Nat → Int32} {M : gm_M} {x : Int32} (G : gk_G p s m ([.ref g, .ref a, .int x] : List Value).toArray meth c RL 15 cL_act (some .boolean) wsL_act D (g_T cI cZ cJ) A) (wf : gm_wf M) (hrest : gm_rest M) (hr : gc_rep u.1.1 u.1.2 M) (hs : gp_rep F W0 T V M) (hm : M 10 0 = nm) (hk : M 11 0 = nk) (hfS : gp_rows fS Sx nm) (hfK : gp_rows fK Kx nk) (hh : M 9 0 < 1900000) (hE : gn_E A s s.heap) (hA : gp_AO A s s.heap)
    (RET : ∀ (cells slots : Nat) (lv : List (Nat × Value)) (pc : Nat) (v : gp_Q) (u : gw_U) (M' : gm_M), decode cL_act pc = .ok (.ireturn, 1) → gp_post M v u M' → cells ≤ 120 → slots ≤ 1200 → gk_C p l e ({ frames := 5, cells := 120, slots := 1200, locals := 114 } : Room) s m ([.ref g, .ref a, .int x] : List Value).toArray below meth c 15 D A Q cells slots (gw_X cI cZ g h1 h2 q1 q2 u ++ gp_U cI cJ a v) lv pc [.int (nI 1)]) : gk_C p l e ({ frames := 5, cells := 120, slots := 1200, locals := 114 } : Room) s m ([.ref g, .ref a, .int x] : List Value).toArray below meth c 15 D A Q 0 0 (gw_X cI cZ g h1 h2 q1 q2 u ++ (gp_W cI cJ a q F W0 nm nk fS fK Sx Kx T V)) [(0, .ref g), (1, .ref a), (2, .int x), (3, .int (nI nm)), (4, .int (nI nk))] 278 [] := by
  obtain ⟨hz1, hz2, hz3, hz4, hz5, hz6, hz7, hz8⟩ := id wf
  have hb2 := gp_bel_lt x (show 0 < 2 by decide)
  have hb3 := gp_bel_lt x (show 0 < 3 by decide)
  have hinX2 : ∀ w ∈ wsX20, w ∈ wsL_act := fun w h9 => (List.mem_cons_of_mem _ (List.mem_append_left _ (List.mem_append_left _ (List.mem_append_left _ (List.mem_append_left _ (List.mem_append_left _ (List.mem_append_right _ h9)))))))
  have k15 := G.2.2.2.2.1 (.fieldLink RL 15 "GustMillLaw$Sim" "sacks" "[[I") (List.mem_cons_of_mem _ (List.mem_append_left _ (List.mem_append_left _ (List.mem_append_left _ (List.mem_append_left _ (List.mem_append_left _ (List.mem_append_left _ (List.mem_append_left _ (List.mem_of_getElem? (i := 1) rfl)))))))))
  refine gk_iload G dL_act_278 4 rfl ?_
  refine gk_bipush (v := nI 16) G dL_act_280 (by decide) ?_
  refine gk_icmp_ne (tgt := 287) G dL_act_282 (by decide) (fun c_282 => ?_) (fun c_282 => ?_)
  · replace c_282 := (not_congr (nI_eq (a := nk) (b := 16) (by omega) (by omega))).mp c_282
    refine gk_iconst (v := nI 4) G dL_act_287 (by decide) ?_
    refine gk_newa (cI := cI) (atype := .int) (N := 4) (a0 := (4, .inl (fun _ => 0))) G (G.2.2.2.2.1 (.arrayClass .int) (List.mem_cons_of_mem _ (List.mem_append_left _ (List.mem_append_left _ (List.mem_append_left _ (List.mem_append_left _ (List.mem_append_left _ (List.mem_append_left _ (List.mem_append_left _ (List.mem_of_getElem? (i := 2) rfl)))))))))) rfl (fun C h => by cases h) 0 rfl (fun _ => rfl) rfl (by omega) (by show 4 * 4 ≤ 536870912; omega) (Nat.le_of_ble_eq_true rfl) (by show 0 + 4 ≤ 1200; omega) dL_act_288 (fun r1 => ?_)
    refine gk_widen (k := 1) (n := 4) (Nat.le_of_ble_eq_true rfl) (by omega) (gk_rot ?_)
    show gk_C p l e ({ frames := 5, cells := 120, slots := 1200, locals := 114 } : Room) s m ([.ref g, .ref a, .int x] : List Value).toArray below meth c 15 D A Q 1 4 (gw_R cI r1 4 (fun _ => 0) ++ (gw_X cI cZ g h1 h2 q1 q2 u ++ (gp_W cI cJ a q F W0 nm nk fS fK Sx Kx T V))) [(0, .ref g), (1, .ref a), (2, .int x), (3, .int (nI nm)), (4, .int (nI nk))] 290 [.ref r1]
    refine gk_dup G dL_act_290 rfl ?_
    refine gk_iconst (v := nI 0) G dL_act_291 (by decide) ?_
    refine gk_iload_n G dL_act_292 2 rfl ?_
    refine gk_bipush (v := nI 8) G dL_act_293 (by decide) ?_
    refine gp_below (n := 8) (v := x) G gL_act_L_below ⟨(Nat.le_of_ble_eq_true rfl), (Nat.le_of_ble_eq_true rfl)⟩ ⟨(Nat.le_of_ble_eq_true rfl), (Nat.le_of_ble_eq_true rfl)⟩ (by omega) (by omega) (Nat.le_of_ble_eq_true rfl) dL_act_295 ?_
    show gk_C p l e ({ frames := 5, cells := 120, slots := 1200, locals := 114 } : Room) s m ([.ref g, .ref a, .int x] : List Value).toArray below meth c 15 D A Q 1 4 (gw_R cI r1 4 (fun _ => 0) ++ (gw_X cI cZ g h1 h2 q1 q2 u ++ (gp_W cI cJ a q F W0 nm nk fS fK Sx Kx T V))) [(0, .ref g), (1, .ref a), (2, .int x), (3, .int (nI nm)), (4, .int (nI nk))] 298 [.int (nI (gp_bel x 8)), .int (nI 0), .ref r1, .ref r1]
    refine gk_topi (fun v298 ev298 => ?_)
    refine gk_iast (w' := (gw_R cI r1 4 (upd (fun _ => 0) 0 v298) ++ (gw_X cI cZ g h1 h2 q1 q2 u ++ (gp_W cI cJ a q F W0 nm nk fS fK Sx Kx T V)))) G (q0 := 0) (t0 := 0) rfl rfl 0 rfl (by omega) (by decide) rfl dL_act_298 ?_
    refine gk_dup G dL_act_299 rfl ?_
    refine gk_iconst (v := nI 1) G dL_act_300 (by decide) ?_
    refine gk_iconst (v := nI 1) G dL_act_301 (by decide) ?_
    refine gk_iload_n G dL_act_302 2 rfl ?_
    refine gk_iconst (v := nI 2) G dL_act_303 (by decide) ?_
    refine gk_ishr (v := x >>> ((nI 2) &&& 31)) G dL_act_304 rfl ?_
    refine gk_iload_n G dL_act_305 2 rfl ?_
    refine gk_iconst (v := nI 2) G dL_act_306 (by decide) ?_
    have J320 : ∀ n1 : Nat, (n1 = 60 ∨ n1 = 12) → gk_C p l e ({ frames := 5, cells := 120, slots := 1200, locals := 114 } : Room) s m ([.ref g, .ref a, .int x] : List Value).toArray below meth c 15 D A Q 1 4 (gw_R cI r1 4 (upd (fun _ => 0) 0 v298) ++ (gw_X cI cZ g h1 h2 q1 q2 u ++ (gp_W cI cJ a q F W0 nm nk fS fK Sx Kx T V))) [(0, .ref g), (1, .ref a), (2, .int x), (3, .int (nI nm)), (4, .int (nI nk))] 320 [.int (nI n1), .int (x >>> ((nI 2) &&& 31)), .int (nI 1), .int (nI 1), .ref r1, .ref r1] := by
      intro n1 hn1
      refine gp_below (n := n1) (v := (x >>> ((nI 2) &&& 31))) G gL_act_L_below ⟨(Nat.le_of_ble_eq_true rfl), (Nat.le_of_ble_eq_true rfl)⟩ ⟨(Nat.le_of_ble_eq_true rfl), (Nat.le_of_ble_eq_true rfl)⟩ (by omega) (by omega) (Nat.le_of_ble_eq_true rfl) dL_act_320 ?_
      show gk_C p l e ({ frames := 5, cells := 120, slots := 1200, locals := 114 } : Room) s m ([.ref g, .ref a, .int x] : List Value).toArray below meth c 15 D A Q 1 4 (gw_R cI r1 4 (upd (fun _ => 0) 0 v298) ++ (gw_X cI cZ g h1 h2 q1 q2 u ++ (gp_W cI cJ a q F W0 nm nk fS fK Sx Kx T V))) [(0, .ref g), (1, .ref a), (2, .int x), (3, .int (nI nm)), (4, .int (nI nk))] 323 [.int (nI (gp_bel (x >>> ((nI 2) &&& 31)) n1)), .int (nI 1), .int (nI 1), .ref r1, .ref r1]
      refine gk_iadd (v := nI (1 + (gp_bel (x >>> ((nI 2) &&& 31)) n1))) G dL_act_323 (nI_add 1 (gp_bel (x >>> ((nI 2) &&& 31)) n1)) ?_
      refine gk_topi (fun v324 ev324 => ?_)
      refine gk_iast (w' := (gw_R cI r1 4 (upd (upd (fun _ => 0) 0 v298) 1 v324) ++ (gw_X cI cZ g h1 h2 q1 q2 u ++ (gp_W cI cJ a q F W0 nm nk fS fK Sx Kx T V)))) G (q0 := 0) (t0 := 0) rfl rfl 1 rfl (by omega) (by decide) rfl dL_act_324 ?_
      refine gk_dup G dL_act_325 rfl ?_
      refine gk_iconst (v := nI 2) G dL_act_326 (by decide) ?_
      refine gk_iconst (v := nI 1) G dL_act_327 (by decide) ?_
      refine gk_iload_n G dL_act_328 2 rfl ?_
      refine gk_iconst (v := nI 4) G dL_act_329 (by decide) ?_
      refine gk_ishr (v := x >>> ((nI 4) &&& 31)) G dL_act_330 rfl ?_
      refine gk_iload_n G dL_act_331 2 rfl ?_
      refine gk_iconst (v := nI 3) G dL_act_332 (by decide) ?_
      have J347 : ∀ n2 : Nat, (n2 = 200 ∨ n2 = 40) → gk_C p l e ({ frames := 5, cells := 120, slots := 1200, locals := 114 } : Room) s m ([.ref g, .ref a, .int x] : List Value).toArray below meth c 15 D A Q 1 4 (gw_R cI r1 4 (upd (upd (fun _ => 0) 0 v298) 1 v324) ++ (gw_X cI cZ g h1 h2 q1 q2 u ++ (gp_W cI cJ a q F W0 nm nk fS fK Sx Kx T V))) [(0, .ref g), (1, .ref a), (2, .int x), (3, .int (nI nm)), (4, .int (nI nk))] 347 [.int (nI n2), .int (x >>> ((nI 4) &&& 31)), .int (nI 1), .int (nI 2), .ref r1, .ref r1] := by
        intro n2 hn2
        refine gp_below (n := n2) (v := (x >>> ((nI 4) &&& 31))) G gL_act_L_below ⟨(Nat.le_of_ble_eq_true rfl), (Nat.le_of_ble_eq_true rfl)⟩ ⟨(Nat.le_of_ble_eq_true rfl), (Nat.le_of_ble_eq_true rfl)⟩ (by omega) (by omega) (Nat.le_of_ble_eq_true rfl) dL_act_347 ?_
        show gk_C p l e ({ frames := 5, cells := 120, slots := 1200, locals := 114 } : Room) s m ([.ref g, .ref a, .int x] : List Value).toArray below meth c 15 D A Q 1 4 (gw_R cI r1 4 (upd (upd (fun _ => 0) 0 v298) 1 v324) ++ (gw_X cI cZ g h1 h2 q1 q2 u ++ (gp_W cI cJ a q F W0 nm nk fS fK Sx Kx T V))) [(0, .ref g), (1, .ref a), (2, .int x), (3, .int (nI nm)), (4, .int (nI nk))] 350 [.int (nI (gp_bel (x >>> ((nI 4) &&& 31)) n2)), .int (nI 1), .int (nI 2), .ref r1, .ref r1]
        refine gk_iadd (v := nI (1 + (gp_bel (x >>> ((nI 4) &&& 31)) n2))) G dL_act_350 (nI_add 1 (gp_bel (x >>> ((nI 4) &&& 31)) n2)) ?_
        refine gk_topi (fun v351 ev351 => ?_)
        refine gk_iast (w' := (gw_R cI r1 4 (upd (upd (upd (fun _ => 0) 0 v298) 1 v324) 2 v351) ++ (gw_X cI cZ g h1 h2 q1 q2 u ++ (gp_W cI cJ a q F W0 nm nk fS fK Sx Kx T V)))) G (q0 := 0) (t0 := 0) rfl rfl 2 rfl (by omega) (by decide) rfl dL_act_351 ?_
        refine gk_dup G dL_act_352 rfl ?_
        refine gk_iconst (v := nI 3) G dL_act_353 (by decide) ?_
        refine gk_iconst (v := -1) G dL_act_354 (by decide) ?_
        refine gk_topi (fun v355 ev355 => ?_)
        refine gk_iast (w' := (gw_R cI r1 4 (upd (upd (upd (upd (fun _ => 0) 0 v298) 1 v324) 2 v351) 3 v355) ++ (gw_X cI cZ g h1 h2 q1 q2 u ++ (gp_W cI cJ a q F W0 nm nk fS fK Sx Kx T V)))) G (q0 := 0) (t0 := 0) rfl rfl 3 rfl (by omega) (by decide) rfl dL_act_355 ?_
        refine gk_astore (lv' := [(9, .ref r1), (0, .ref g), (1, .ref a), (2, .int x), (3, .int (nI nm)), (4, .int (nI nk))]) G dL_act_356 (by decide) rfl ?_
        refine gk_aload_n G dL_act_358 2 rfl ?_
        refine gk_aload_n G dL_act_359 2 rfl ?_
        refine gk_get (v' := .ref (q 2)) G hinX2 (q0 := 22) rfl rfl 7 (by decide) k15 rfl rfl dL_act_360 ?_
        refine gk_aload G dL_act_363 0 rfl ?_
        have hb8 := gp_bel_lt x (show 0 < 8 by decide)
        have hb1 := gp_bel_lt (x >>> (nI 2 &&& 31)) (show 0 < n1 by omega)
        have hb2 := gp_bel_lt (x >>> (nI 4 &&& 31)) (show 0 < n2 by omega)
        refine gp_callRS (wr := (gw_X cI cZ g h1 h2 q1 q2 u) ++ ((gp_O a q F) ++ ((gp_Wd cI (q 0) W0) ++ ((gw_J cJ (q 1) nm fS) ++ (gp_r cI 2 Sx T nm))))) G (c2_with l D cI cZ cJ (q 2) r1 nk 4 fK (upd (upd (upd (upd (fun _ => 0) 0 v298) 1 v324) 2 v351) 3 v355) Kx V hfK (by omega)) gL_act_X2_with rfl 2 (by decide +kernel) rfl rfl ⟨(Nat.le_of_ble_eq_true rfl), (Nat.le_of_ble_eq_true rfl)⟩ rfl gp_ao_ok hA (gk_pK (gw_R cI r1 4 (upd (upd (upd (upd (fun _ => 0) 0 v298) 1 v324) 2 v351) 3 v355)) (gw_X cI cZ g h1 h2 q1 q2 u) (gp_O a q F) (gp_Wd cI (q 0) W0) (gw_J cJ (q 1) nm fS) (gw_J cJ (q 2) nk fK) (gp_r cI 2 Sx T nm) (gp_r cI 4 Kx V nk)) rfl (Nat.le_of_ble_eq_true rfl) dL_act_365 ⟨(Nat.le_of_ble_eq_true rfl), (Nat.le_of_ble_eq_true rfl)⟩ (fun f2 r2 hf2 => ?_)
        refine gk_put (w' := ((gw_X cI cZ g h1 h2 q1 q2 u) ++ ((gp_O a (gp_q1 q 2 r2) F) ++ ((gp_Wd cI (q 0) W0) ++ ((gw_J cJ (q 1) nm fS) ++ (gp_r cI 2 Sx T nm))))) ++ ((gw_J cJ r2 (nk + 1) f2) ++ ((gw_J cJ (q 2) nk fK) ++ ((gw_R cI r1 4 (upd (upd (upd (upd (fun _ => 0) 0 v298) 1 v324) 2 v351) 3 v355)) ++ (gp_r cI 4 Kx V nk))))) G hinX2 tyX2_ok nmX2 (q0 := 21) rfl rfl 7 (by decide) k15 rfl rfl rfl (Nat.le_of_ble_eq_true rfl) rfl dL_act_368 ?_
        refine gk_drop (w' := (gw_X cI cZ g h1 h2 q1 q2 u ++ (gp_W cI cJ a (gp_q1 q 2 r2) F W0 nm (nk + 1) fS f2 Sx (gp_snoc Kx nk r1) T (gp_snT V nk (upd (upd (upd (upd (fun _ => 0) 0 v298) 1 v324) 2 v351) 3 v355))))) (r := (gw_J cJ (q 2) nk fK)) (by have h9 := gk_pK2 (gw_R cI r1 4 (upd (upd (upd (upd (fun _ => 0) 0 v298) 1 v324) 2 v351) 3 v355)) (gw_X cI cZ g h1 h2 q1 q2 u) (gp_O a (gp_q1 q 2 r2) F) (gp_Wd cI (q 0) W0) (gw_J cJ (q 1) nm fS) (gw_J cJ (q 2) nk fK) (gp_r cI 2 Sx T nm) (gp_r cI 4 Kx V nk) (gw_J cJ r2 (nk + 1) f2); rw [← gp_r_snoc] at h9; exact h9) ?_
        refine gk_aload_n G dL_act_371 1 rfl ?_
        refine gk_aload G dL_act_372 0 rfl ?_
        refine gk_iconst (v := nI 0) G dL_act_374 (by decide) ?_
        have ha9 : (gw_X cI cZ g h1 h2 q1 q2 u ++ (gp_W cI cJ a (gp_q1 q 2 r2) F W0 nm (nk + 1) fS f2 Sx (gp_snoc Kx nk r1) T (gp_snT V nk (upd (upd (upd (upd (fun _ => 0) 0 v298) 1 v324) 2 v351) 3 v355))))[nm + nk + 4 + 21]? = some (r1, .inl (cI, 4, .inl (upd (upd (upd (upd (fun _ => 0) 0 v298) 1 v324) 2 v351) 3 v355))) := by
          have h9 : (gw_X cI cZ g h1 h2 q1 q2 u ++ (gp_W cI cJ a (gp_q1 q 2 r2) F W0 nm (nk + 1) fS f2 Sx (gp_snoc Kx nk r1) T (gp_snT V nk (upd (upd (upd (upd (fun _ => 0) 0 v298) 1 v324) 2 v351) 3 v355))))[nm + nk + 4 + 21]? = some (gp_snoc Kx nk r1 nk, .inl (cI, 4, .inl (gp_snT V nk (upd (upd (upd (upd (fun _ => 0) 0 v298) 1 v324) 2 v351) 3 v355) nk))) := gp_sX (gp_atK (by omega))
          rw [gp_snoc_at, gp_snT_at] at h9; exact h9
        refine gk_iald (v := nI (gp_bel x 8)) G (q0 := nm + nk + 4 + 21) (t0 := 0) ha9 rfl 0 rfl (by decide) (by decide) (by rw [pk_un (by decide), pk_un (by decide), pk_un (by decide), pk_us]; exact ev298) dL_act_375 ?_
        refine gk_aload G dL_act_376 0 rfl ?_
        refine gk_iconst (v := nI 1) G dL_act_378 (by decide) ?_
        refine gk_iald (v := nI (1 + gp_bel (x >>> (nI 2 &&& 31)) n1)) G (q0 := nm + nk + 4 + 21) (t0 := 0) ha9 rfl 1 rfl (by decide) (by decide) (by rw [pk_un (by decide), pk_un (by decide), pk_us]; exact ev324) dL_act_379 ?_
        refine gk_aload G dL_act_380 0 rfl ?_
        refine gk_iconst (v := nI 2) G dL_act_382 (by decide) ?_
        refine gk_iald (v := nI (1 + gp_bel (x >>> (nI 4 &&& 31)) n2)) G (q0 := nm + nk + 4 + 21) (t0 := 0) ha9 rfl 2 rfl (by decide) (by decide) (by rw [pk_un (by decide), pk_us]; exact ev351) dL_act_383 ?_
        refine gq_bring_ok (Y := []) G gL_act_X1_bring hE ⟨(Nat.le_of_ble_eq_true rfl), (Nat.le_of_ble_eq_true rfl)⟩ ⟨(Nat.le_of_ble_eq_true rfl), (Nat.le_of_ble_eq_true rfl)⟩ (gp_bel x 8) (1 + gp_bel (x >>> (nI 2 &&& 31)) n1) (1 + gp_bel (x >>> (nI 4 &&& 31)) n2) wf hr hb8 (by omega) (by omega) (by omega) (by omega) (by omega) (Nat.le_of_ble_eq_true rfl) dL_act_384 (fun u384 hr384 => ?_)
        show gk_C p l e ({ frames := 5, cells := 120, slots := 1200, locals := 114 } : Room) s m ([.ref g, .ref a, .int x] : List Value).toArray below meth c 15 D A Q 2 21 (gw_X cI cZ g h1 h2 q1 q2 u384 ++ (gp_W cI cJ a (gp_q1 q 2 r2) F W0 nm (nk + 1) fS f2 Sx (gp_snoc Kx nk r1) T (gp_snT V nk (upd (upd (upd (upd (fun _ => 0) 0 v298) 1 v324) 2 v351) 3 v355)))) [(9, .ref r1), (0, .ref g), (1, .ref a), (2, .int x), (3, .int (nI nm)), (4, .int (nI nk))] 387 [.int (nI (M 11 0))]
        refine gk_iload G dL_act_387 5 rfl ?_
        refine gk_icmp_ne (tgt := 396) G dL_act_389 (by decide) (fun c_389 => ?_) (fun c_389 => ?_)
        · exact absurd (congrArg nI hk) c_389
        · refine gk_iconst (v := nI 1) G dL_act_392 (by decide) ?_
          refine gk_goto (tgt := 397) G dL_act_393 (by decide) ?_
          have t0 : (gp_snT V nk (upd (upd (upd (upd (fun _ => 0) 0 v298) 1 v324) 2 v351) 3 v355)) nk 0 = nI (gp_bel x 8) := by rw [gp_snT_at, pk_un (by decide), pk_un (by decide), pk_un (by decide), pk_us]; exact ev298
          have t1 : (gp_snT V nk (upd (upd (upd (upd (fun _ => 0) 0 v298) 1 v324) 2 v351) 3 v355)) nk 1 = nI (1 + gp_bel (x >>> (nI 2 &&& 31)) n1) := by rw [gp_snT_at, pk_un (by decide), pk_un (by decide), pk_us]; exact ev324
          have t2 : (gp_snT V nk (upd (upd (upd (upd (fun _ => 0) 0 v298) 1 v324) 2 v351) 3 v355)) nk 2 = nI (1 + gp_bel (x >>> (nI 4 &&& 31)) n2) := by rw [gp_snT_at, pk_un (by decide), pk_us]; exact ev351
          have t3 : (gp_snT V nk (upd (upd (upd (upd (fun _ => 0) 0 v298) 1 v324) 2 v351) 3 v355)) nk 3 = -1 := by rw [gp_snT_at, pk_us]; exact ev355
          exact RET _ _ _ _ ((gp_q1 q 2 r2), F, W0, nm, (nk + 1), fS, f2, Sx, (gp_snoc Kx nk r1), T, (gp_snT V nk (upd (upd (upd (upd (fun _ => 0) 0 v298) 1 v324) 2 v351) 3 v355))) u384 (gm_add M (gp_bel x 8) (1 + gp_bel (x >>> (nI 2 &&& 31)) n1) (1 + gp_bel (x >>> (nI 4 &&& 31)) n2)) dL_act_397 ⟨gm_add_wf wf (by omega) (by omega) (by omega) (by omega) (by omega), gm_add_rest hrest (by omega), hr384, ⟨gp_rep_add hs (fun i hi => gp_snT_lt (by omega)) (by rw [hk]; exact t0) (by rw [hk]; exact t1) (by rw [hk]; exact t2) (by rw [hk]; exact t3), (gm_add_k M (gp_bel x 8) (1 + gp_bel (x >>> (nI 2 &&& 31)) n1) (1 + gp_bel (x >>> (nI 4 &&& 31)) n2) 0 (show 10 < 4 ∨ 8 < 10 by decide) (by decide)).trans hm, (gm_add_11 M _ _ _).trans (by rw [hk]), hfS, hf2⟩, by rw [(gm_add_k M (gp_bel x 8) (1 + gp_bel (x >>> (nI 2 &&& 31)) n1) (1 + gp_bel (x >>> (nI 4 &&& 31)) n2) 0 (show 9 < 4 ∨ 8 < 9 by decide) (by decide))]; omega, by rw [(gm_add_k M (gp_bel x 8) (1 + gp_bel (x >>> (nI 2 &&& 31)) n1) (1 + gp_bel (x >>> (nI 4 &&& 31)) n2) 0 (show 13 < 4 ∨ 8 < 13 by decide) (by decide))]; omega⟩ (Nat.le_of_ble_eq_true rfl) (Nat.le_of_ble_eq_true rfl)
      refine gp_below (n := 3) (v := x) G gL_act_L_below ⟨(Nat.le_of_ble_eq_true rfl), (Nat.le_of_ble_eq_true rfl)⟩ ⟨(Nat.le_of_ble_eq_true rfl), (Nat.le_of_ble_eq_true rfl)⟩ (by omega) (by omega) (Nat.le_of_ble_eq_true rfl) dL_act_333 ?_
      show gk_C p l e ({ frames := 5, cells := 120, slots := 1200, locals := 114 } : Room) s m ([.ref g, .ref a, .int x] : List Value).toArray below meth c 15 D A Q 1 4 (gw_R cI r1 4 (upd (upd (fun _ => 0) 0 v298) 1 v324) ++ (gw_X cI cZ g h1 h2 q1 q2 u ++ (gp_W cI cJ a q F W0 nm nk fS fK Sx Kx T V))) [(0, .ref g), (1, .ref a), (2, .int x), (3, .int (nI nm)), (4, .int (nI nk))] 336 [.int (nI (gp_bel x 3)), .int (x >>> ((nI 4) &&& 31)), .int (nI 1), .int (nI 2), .ref r1, .ref r1]
      refine gk_if_ne (tgt := 345) G dL_act_336 (by decide) (fun c_336 => ?_) (fun c_336 => ?_)
      · replace c_336 := (not_congr (nI_eq (a := gp_bel x 3) (b := 0) (by omega) (by omega))).mp c_336
        refine gk_bipush (v := nI 40) G dL_act_345 (by decide) ?_
        exact J347 40 (by omega)
      · replace c_336 := (nI_eq (a := gp_bel x 3) (b := 0) (by omega) (by omega)).mp c_336
        refine gk_sipush (v := nI 200) G dL_act_339 (by decide) ?_
        refine gk_goto (tgt := 347) G dL_act_342 (by decide) ?_
        exact J347 200 (by omega)
    refine gp_below (n := 2) (v := x) G gL_act_L_below ⟨(Nat.le_of_ble_eq_true rfl), (Nat.le_of_ble_eq_true rfl)⟩ ⟨(Nat.le_of_ble_eq_true rfl), (Nat.le_of_ble_eq_true rfl)⟩ (by omega) (by omega) (Nat.le_of_ble_eq_true rfl) dL_act_307 ?_
    show gk_C p l e ({ frames := 5, cells := 120, slots := 1200, locals := 114 } : Room) s m ([.ref g, .ref a, .int x] : List Value).toArray below meth c 15 D A Q 1 4 (gw_R cI r1 4 (upd (fun _ => 0) 0 v298) ++ (gw_X cI cZ g h1 h2 q1 q2 u ++ (gp_W cI cJ a q F W0 nm nk fS fK Sx Kx T V))) [(0, .ref g), (1, .ref a), (2, .int x), (3, .int (nI nm)), (4, .int (nI nk))] 310 [.int (nI (gp_bel x 2)), .int (x >>> ((nI 2) &&& 31)), .int (nI 1), .int (nI 1), .ref r1, .ref r1]
    refine gk_if_ne (tgt := 318) G dL_act_310 (by decide) (fun c_310 => ?_) (fun c_310 => ?_)
    · replace c_310 := (not_congr (nI_eq (a := gp_bel x 2) (b := 0) (by omega) (by omega))).mp c_310
      refine gk_bipush (v := nI 12) G dL_act_318 (by decide) ?_
      exact J320 12 (by omega)
    · replace c_310 := (nI_eq (a := gp_bel x 2) (b := 0) (by omega) (by omega)).mp c_310
      refine gk_bipush (v := nI 60) G dL_act_313 (by decide) ?_
      refine gk_goto (tgt := 320) G dL_act_315 (by decide) ?_
      exact J320 60 (by omega)
  · replace c_282 := (nI_eq (a := nk) (b := 16) (by omega) (by omega)).mp c_282
    refine gk_iconst (v := nI 1) G dL_act_285 (by decide) ?_
    exact RET _ _ _ _ (q, F, W0, nm, nk, fS, fK, Sx, Kx, T, V) u M dL_act_286 ⟨wf, hrest, hr, ⟨hs, hm, hk, hfS, hfK⟩, by omega, by omega⟩ (Nat.le_of_ble_eq_true rfl) (Nat.le_of_ble_eq_true rfl)
set_option maxRecDepth 100000 in
set_option maxHeartbeats 2000000 in
theorem sa_lift {p : Program} {l : Launch} {e : Env} {s : State} {m : MethodId} {below : List Frame} {meth : Method} {c : Code} {D : va_G} {A : Nat → Prop} {Q : State → Prop} {cI cZ cJ : ClassId} {g h1 h2 : Nat} {q1 q2 : Nat → Nat} {u : gw_U} {a : Nat} {q : Nat → Nat} {F W0 : Nat → Int32} {nm nk : Nat} {fS fK : Nat → Option Nat} {Sx Kx : Nat → Nat} {T V : Nat → Nat → Int32} {M : gm_M} {x : Int32} (G : gk_G p s m ([.ref g, .ref a, .int x] : List Value).toArray meth c RL 15 cL_act (some .boolean) wsL_act D (g_T cI cZ cJ) A) (wf : gm_wf M) (hrest : gm_rest M) (hr : gc_rep u.1.1 u.1.2 M) (hs : gp_rep F W0 T V M) (hm : M 10 0 = nm) (hk : M 11 0 = nk) (hfS : gp_rows fS Sx nm) (hfK : gp_rows fK Kx nk) (hh : M 9 0 < 1900000) (hE : gn_E A s s.heap) (hA : gp_AO A s s.heap)
    (RET : ∀ (cells slots : Nat) (lv : List (Nat × Value)) (pc : Nat) (v : gp_Q) (u : gw_U) (M' : gm_M), decode cL_act pc = .ok (.ireturn, 1) → gp_post M v u M' → cells ≤ 120 → slots ≤ 1200 → gk_C p l e ({ frames := 5, cells := 120, slots := 1200, locals := 114 } : Room) s m ([.ref g, .ref a, .int x] : List Value).toArray below meth c 15 D A Q cells slots (gw_X cI cZ g h1 h2 q1 q2 u ++ gp_U cI cJ a v) lv pc [.int (nI 1)]) : gk_C p l e ({ frames := 5, cells := 120, slots := 1200, locals := 114 } : Room) s m ([.ref g, .ref a, .int x] : List Value).toArray below meth c 15 D A Q 0 0 (gw_X cI cZ g h1 h2 q1 q2 u ++ (gp_W cI cJ a q F W0 nm nk fS fK Sx Kx T V)) [(0, .ref g), (1, .ref a), (2, .int x), (3, .int (nI nm)), (4, .int (nI nk))] 398 [] := by
  obtain ⟨hz1, hz2, hz3, hz4, hz5, hz6, hz7, hz8⟩ := id wf
  have hinX2 : ∀ w ∈ wsX20, w ∈ wsL_act := fun w h9 => (List.mem_cons_of_mem _ (List.mem_append_left _ (List.mem_append_left _ (List.mem_append_left _ (List.mem_append_left _ (List.mem_append_left _ (List.mem_append_right _ h9)))))))
  have k9 := G.2.2.2.2.1 (.fieldLink RL 9 "GustMillLaw$Sim" "stones" "[[I") (List.mem_cons_of_mem _ (List.mem_append_left _ (List.mem_append_left _ (List.mem_append_left _ (List.mem_append_left _ (List.mem_append_left _ (List.mem_append_left _ (List.mem_append_left _ (List.mem_of_getElem? (i := 0) rfl)))))))))
  refine gk_iload G dL_act_398 4 rfl ?_
  refine gk_if_ne (tgt := 405) G dL_act_400 (by decide) (fun c_400 => ?_) (fun c_400 => ?_)
  · replace c_400 := (not_congr (nI_eq (a := nk) (b := 0) (by omega) (by omega))).mp c_400
    have hs9 := gp_bel_lt x (show 0 < nk by omega)
    have h79 := (hz7 (gp_bel x nk) (by omega)).2.2.2.2.1
    refine gk_iload_n G dL_act_405 2 rfl ?_
    refine gk_iload G dL_act_406 4 rfl ?_
    refine gp_below (n := nk) (v := x) G gL_act_L_below ⟨(Nat.le_of_ble_eq_true rfl), (Nat.le_of_ble_eq_true rfl)⟩ ⟨(Nat.le_of_ble_eq_true rfl), (Nat.le_of_ble_eq_true rfl)⟩ (by omega) (by omega) (Nat.le_of_ble_eq_true rfl) dL_act_408 ?_
    show gk_C p l e ({ frames := 5, cells := 120, slots := 1200, locals := 114 } : Room) s m ([.ref g, .ref a, .int x] : List Value).toArray below meth c 15 D A Q 0 0 (gw_X cI cZ g h1 h2 q1 q2 u ++ (gp_W cI cJ a q F W0 nm nk fS fK Sx Kx T V)) [(0, .ref g), (1, .ref a), (2, .int x), (3, .int (nI nm)), (4, .int (nI nk))] 411 [.int (nI (gp_bel x nk))]
    refine gk_istore (lv' := [(10, .int (nI (gp_bel x nk))), (0, .ref g), (1, .ref a), (2, .int x), (3, .int (nI nm)), (4, .int (nI nk))]) G dL_act_411 (by decide) rfl ?_
    refine gk_aload_n G dL_act_413 2 rfl ?_
    refine gk_iload G dL_act_414 0 rfl ?_
    refine gp_callIV (wr := gw_X cI cZ g h1 h2 q1 q2 u) G (c2_stoneOf l D cI cZ cJ a q F W0 nm nk fS fK Sx Kx T V M (gp_bel x nk) wf hs hm hk hfS hfK hs9) gL_act_X2_stoneOf rfl 1 (by decide +kernel) rfl rfl ⟨(Nat.le_of_ble_eq_true rfl), (Nat.le_of_ble_eq_true rfl)⟩ rfl (q0 := 0) rfl (T := TX2) (N := 8) rfl gk_ok0 trivial (List.Perm.refl _) rfl (Nat.le_of_ble_eq_true rfl) dL_act_416 ⟨(Nat.le_of_ble_eq_true rfl), (Nat.le_of_ble_eq_true rfl)⟩ (fun r416 w416 hp416 => ?_)
    rw [show r416 = gm_e (M 7 (gp_bel x nk)) from hp416]
    show gk_C p l e ({ frames := 5, cells := 120, slots := 1200, locals := 114 } : Room) s m ([.ref g, .ref a, .int x] : List Value).toArray below meth c 15 D A Q 0 0 (gw_X cI cZ g h1 h2 q1 q2 u ++ (gp_W cI cJ a q F W0 nm nk fS fK Sx Kx T V)) [(10, .int (nI (gp_bel x nk))), (0, .ref g), (1, .ref a), (2, .int x), (3, .int (nI nm)), (4, .int (nI nk))] 419 [.int (gm_e (M 7 (gp_bel x nk)))]
    refine gk_istore (lv' := [(11, .int (gm_e (M 7 (gp_bel x nk)))), (10, .int (nI (gp_bel x nk))), (0, .ref g), (1, .ref a), (2, .int x), (3, .int (nI nm)), (4, .int (nI nk))]) G dL_act_419 (by decide) rfl ?_
    refine gk_iload G dL_act_421 0 rfl ?_
    refine gk_if_ge (tgt := 428) G dL_act_423 (by decide) (fun c_423 => ?_) (fun c_423 => ?_)
    · replace c_423 := (gp_e_ge (n := M 7 (gp_bel x nk)) (by omega)).mp c_423
      refine gk_aload_n G dL_act_428 3 rfl ?_
      refine gk_get (v' := .ref (q 1)) G hinX2 (q0 := 21) rfl rfl 6 (by decide) k9 rfl rfl dL_act_429 ?_
      refine gk_iload G dL_act_432 0 rfl ?_
      refine gk_aald (v := Sx (M 7 (gp_bel x nk) - 1)) G (q0 := 23) (t0 := 2) rfl rfl (M 7 (gp_bel x nk) - 1) (gm_e_pred (by omega)) (by omega) (by omega) (hfS (M 7 (gp_bel x nk) - 1) (by omega)) dL_act_434 ?_
      refine gk_iconst (v := nI 1) G dL_act_435 (by decide) ?_
      refine gk_iconst (v := -1) G dL_act_436 (by decide) ?_
      refine gk_topi (fun v437 ev437 => ?_)
      refine gk_iast (w' := (gw_X cI cZ g h1 h2 q1 q2 u ++ (gp_W cI cJ a q F W0 nm nk fS fK Sx Kx (gc_up T (M 7 (gp_bel x nk) - 1) (upd (T (M 7 (gp_bel x nk) - 1)) 1 v437)) V))) G (q0 := ((M 7 (gp_bel x nk) - 1) + 4 + 21)) (t0 := 0) (gp_sX (gp_atS (by omega))) rfl 1 rfl (by decide) (by decide) (gp_tX (gp_setS (by omega) _)) dL_act_437 ?_
      generalize eT437 : gc_up T (M 7 (gp_bel x nk) - 1) (upd (T (M 7 (gp_bel x nk) - 1)) 1 v437) = T437
      refine gk_aload_n G dL_act_438 2 rfl ?_
      refine gk_iload G dL_act_439 1 rfl ?_
      refine gq_lift_ok (Y := []) G gL_act_X1_lift hE ⟨(Nat.le_of_ble_eq_true rfl), (Nat.le_of_ble_eq_true rfl)⟩ ⟨(Nat.le_of_ble_eq_true rfl), (Nat.le_of_ble_eq_true rfl)⟩ (gp_bel x nk) wf hr (by omega) (by omega) (Nat.le_of_ble_eq_true rfl) dL_act_441 (fun u441 hr441 => ?_)
      show gk_C p l e ({ frames := 5, cells := 120, slots := 1200, locals := 114 } : Room) s m ([.ref g, .ref a, .int x] : List Value).toArray below meth c 15 D A Q 0 0 (gw_X cI cZ g h1 h2 q1 q2 u441 ++ (gp_W cI cJ a q F W0 nm nk fS fK Sx Kx T437 V)) [(11, .int (gm_e (M 7 (gp_bel x nk)))), (10, .int (nI (gp_bel x nk))), (0, .ref g), (1, .ref a), (2, .int x), (3, .int (nI nm)), (4, .int (nI nk))] 444 [.int (gm_e (M 7 (gp_bel x nk)))]
      refine gk_iload G dL_act_444 0 rfl ?_
      refine gk_icmp_ne (tgt := 453) G dL_act_446 (by decide) (fun c_446 => ?_) (fun c_446 => ?_)
      · exact absurd rfl c_446
      · refine gk_iconst (v := nI 1) G dL_act_449 (by decide) ?_
        refine gk_goto (tgt := 454) G dL_act_450 (by decide) ?_
        exact RET _ _ _ _ (q, F, W0, nm, nk, fS, fK, Sx, Kx, T437, V) u441 (gm_set M 7 (gp_bel x nk) 0) dL_act_454 ⟨gp_wf_lift wf, gp_rest_set hrest (by decide) (by decide) (by decide), hr441, ⟨by subst eT437; subst ev437; exact gp_rep_lift wf hs (by omega) (by omega), (gm_set_k _ _ (by decide)).trans hm, (gm_set_k _ _ (by decide)).trans hk, hfS, hfK⟩, by rw [gm_set_k _ _ (by decide)]; omega, by rw [gm_set_k _ _ (by decide)]; omega⟩ (Nat.le_of_ble_eq_true rfl) (Nat.le_of_ble_eq_true rfl)
    · replace c_423 := (not_congr (gp_e_ge (n := M 7 (gp_bel x nk)) (by omega))).mp c_423
      refine gk_iconst (v := nI 1) G dL_act_426 (by decide) ?_
      exact RET _ _ _ _ (q, F, W0, nm, nk, fS, fK, Sx, Kx, T, V) u M dL_act_427 ⟨wf, hrest, hr, ⟨hs, hm, hk, hfS, hfK⟩, by omega, by omega⟩ (Nat.le_of_ble_eq_true rfl) (Nat.le_of_ble_eq_true rfl)
  · replace c_400 := (nI_eq (a := nk) (b := 0) (by omega) (by omega)).mp c_400
    refine gk_iconst (v := nI 1) G dL_act_403 (by decide) ?_
    exact RET _ _ _ _ (q, F, W0, nm, nk, fS, fK, Sx, Kx, T, V) u M dL_act_404 ⟨wf, hrest, hr, ⟨hs, hm, hk, hfS, hfK⟩, by omega, by omega⟩ (Nat.le_of_ble_eq_true rfl) (Nat.le_of_ble_eq_true rfl)
set_option maxRecDepth 100000 in
set_option maxHeartbeats 2000000 in
theorem sa_until {p : Program} {l : Launch} {e : Env} {s : State} {m : MethodId} {below : List Frame} {meth : Method} {c : Code} {D : va_G} {A : Nat → Prop} {Q : State → Prop} {cI cZ cJ : ClassId} {g h1 h2 : Nat} {q1 q2 : Nat → Nat} {u : gw_U} {a : Nat} {q : Nat → Nat} {F W0 : Nat → Int32} {nm nk : Nat} {fS fK : Nat → Option Nat} {Sx Kx : Nat → Nat} {T V : Nat → Nat → Int32} {M : gm_M} {x : Int32} (G : gk_G p s m ([.ref g, .ref a, .int x] : List Value).toArray meth c RL 15 cL_act (some .boolean) wsL_act D (g_T cI cZ cJ) A) (wf : gm_wf M) (hrest : gm_rest M) (hr : gc_rep u.1.1 u.1.2 M) (hs : gp_rep F W0 T V M) (hm : M 10 0 = nm) (hk : M 11 0 = nk) (hfS : gp_rows fS Sx nm) (hfK : gp_rows fK Kx nk) (hh : M 9 0 < 1900000) (hE : gn_E A s s.heap) (hA : gp_AO A s s.heap)
    (RET : ∀ (cells slots : Nat) (lv : List (Nat × Value)) (pc : Nat) (v : gp_Q) (u : gw_U) (M' : gm_M), decode cL_act pc = .ok (.ireturn, 1) → gp_post M v u M' → cells ≤ 120 → slots ≤ 1200 → gk_C p l e ({ frames := 5, cells := 120, slots := 1200, locals := 114 } : Room) s m ([.ref g, .ref a, .int x] : List Value).toArray below meth c 15 D A Q cells slots (gw_X cI cZ g h1 h2 q1 q2 u ++ gp_U cI cJ a v) lv pc [.int (nI 1)]) : gk_C p l e ({ frames := 5, cells := 120, slots := 1200, locals := 114 } : Room) s m ([.ref g, .ref a, .int x] : List Value).toArray below meth c 15 D A Q 0 0 (gw_X cI cZ g h1 h2 q1 q2 u ++ (gp_W cI cJ a q F W0 nm nk fS fK Sx Kx T V)) [(0, .ref g), (1, .ref a), (2, .int x), (3, .int (nI nm)), (4, .int (nI nk))] 455 [] := by
  obtain ⟨hz1, hz2, hz3, hz4, hz5, hz6, hz7, hz8⟩ := id wf
  have hinX2 : ∀ w ∈ wsX20, w ∈ wsL_act := fun w h9 => (List.mem_cons_of_mem _ (List.mem_append_left _ (List.mem_append_left _ (List.mem_append_left _ (List.mem_append_left _ (List.mem_append_left _ (List.mem_append_right _ h9)))))))
  have k15 := G.2.2.2.2.1 (.fieldLink RL 15 "GustMillLaw$Sim" "sacks" "[[I") (List.mem_cons_of_mem _ (List.mem_append_left _ (List.mem_append_left _ (List.mem_append_left _ (List.mem_append_left _ (List.mem_append_left _ (List.mem_append_left _ (List.mem_append_left _ (List.mem_of_getElem? (i := 1) rfl)))))))))
  refine gk_iload G dL_act_455 4 rfl ?_
  refine gk_if_ne (tgt := 462) G dL_act_457 (by decide) (fun c_457 => ?_) (fun c_457 => ?_)
  · replace c_457 := (not_congr (nI_eq (a := nk) (b := 0) (by omega) (by omega))).mp c_457
    have hs9 := gp_bel_lt x (show 0 < nk by omega)
    have hu9 := gp_bel_lt (x >>> (nI 4 &&& 31)) (show 0 < 200 by decide)
    refine gk_aload_n G dL_act_462 1 rfl ?_
    refine gk_get (v' := .ref (q 2)) G hinX2 (q0 := 21) rfl rfl 7 (by decide) k15 rfl rfl dL_act_463 ?_
    refine gk_iload_n G dL_act_466 2 rfl ?_
    refine gk_iload G dL_act_467 4 rfl ?_
    refine gp_below (n := nk) (v := x) G gL_act_L_below ⟨(Nat.le_of_ble_eq_true rfl), (Nat.le_of_ble_eq_true rfl)⟩ ⟨(Nat.le_of_ble_eq_true rfl), (Nat.le_of_ble_eq_true rfl)⟩ (by omega) (by omega) (Nat.le_of_ble_eq_true rfl) dL_act_469 ?_
    show gk_C p l e ({ frames := 5, cells := 120, slots := 1200, locals := 114 } : Room) s m ([.ref g, .ref a, .int x] : List Value).toArray below meth c 15 D A Q 0 0 (gw_X cI cZ g h1 h2 q1 q2 u ++ (gp_W cI cJ a q F W0 nm nk fS fK Sx Kx T V)) [(0, .ref g), (1, .ref a), (2, .int x), (3, .int (nI nm)), (4, .int (nI nk))] 472 [.int (nI (gp_bel x nk)), .ref (q 2)]
    refine gk_aald (v := Kx (gp_bel x nk)) G (q0 := 24) (t0 := 2) rfl rfl (gp_bel x nk) rfl (by omega) (by omega) (hfK (gp_bel x nk) (by omega)) dL_act_472 ?_
    refine gk_astore (lv' := [(12, .ref (Kx (gp_bel x nk))), (0, .ref g), (1, .ref a), (2, .int x), (3, .int (nI nm)), (4, .int (nI nk))]) G dL_act_473 (by decide) rfl ?_
    refine gk_aload G dL_act_475 0 rfl ?_
    refine gk_iconst (v := nI 2) G dL_act_477 (by decide) ?_
    refine gk_iald (v := nI (M 6 (gp_bel x nk))) G (q0 := (nm + (gp_bel x nk) + 4 + 21)) (t0 := 0) (gp_sX (gp_atK (by omega))) rfl 2 rfl (by decide) (by decide) (hs.2.2.2.2.2.2.1 (gp_bel x nk) (by omega)) dL_act_478 ?_
    refine gk_istore (lv' := [(13, .int (nI (M 6 (gp_bel x nk)))), (12, .ref (Kx (gp_bel x nk))), (0, .ref g), (1, .ref a), (2, .int x), (3, .int (nI nm)), (4, .int (nI nk))]) G dL_act_479 (by decide) rfl ?_
    refine gk_aload G dL_act_481 1 rfl ?_
    refine gk_iconst (v := nI 2) G dL_act_483 (by decide) ?_
    refine gk_iconst (v := nI 1) G dL_act_484 (by decide) ?_
    refine gk_iload_n G dL_act_485 4 rfl ?_
    refine gk_iconst (v := nI 4) G dL_act_486 (by decide) ?_
    refine gk_ishr (v := x >>> ((nI 4) &&& 31)) G dL_act_487 rfl ?_
    refine gk_sipush (v := nI 200) G dL_act_488 (by decide) ?_
    refine gp_below (n := 200) (v := (x >>> ((nI 4) &&& 31))) G gL_act_L_below ⟨(Nat.le_of_ble_eq_true rfl), (Nat.le_of_ble_eq_true rfl)⟩ ⟨(Nat.le_of_ble_eq_true rfl), (Nat.le_of_ble_eq_true rfl)⟩ (by omega) (by omega) (Nat.le_of_ble_eq_true rfl) dL_act_491 ?_
    show gk_C p l e ({ frames := 5, cells := 120, slots := 1200, locals := 114 } : Room) s m ([.ref g, .ref a, .int x] : List Value).toArray below meth c 15 D A Q 0 0 (gw_X cI cZ g h1 h2 q1 q2 u ++ (gp_W cI cJ a q F W0 nm nk fS fK Sx Kx T V)) [(13, .int (nI (M 6 (gp_bel x nk)))), (12, .ref (Kx (gp_bel x nk))), (0, .ref g), (1, .ref a), (2, .int x), (3, .int (nI nm)), (4, .int (nI nk))] 494 [.int (nI (gp_bel (x >>> ((nI 4) &&& 31)) 200)), .int (nI 1), .int (nI 2), .ref (Kx (gp_bel x nk))]
    refine gk_iadd (v := nI (1 + (gp_bel (x >>> ((nI 4) &&& 31)) 200))) G dL_act_494 (nI_add 1 (gp_bel (x >>> ((nI 4) &&& 31)) 200)) ?_
    refine gk_topi (fun v495 ev495 => ?_)
    refine gk_iast (w' := (gw_X cI cZ g h1 h2 q1 q2 u ++ (gp_W cI cJ a q F W0 nm nk fS fK Sx Kx T (gc_up V (gp_bel x nk) (upd (V (gp_bel x nk)) 2 v495))))) G (q0 := (nm + (gp_bel x nk) + 4 + 21)) (t0 := 0) (gp_sX (gp_atK (by omega))) rfl 2 rfl (by decide) (by decide) (gp_tX (gp_setK _)) dL_act_495 ?_
    generalize eV495 : gc_up V (gp_bel x nk) (upd (V (gp_bel x nk)) 2 v495) = V495
    refine gk_aload_n G dL_act_496 2 rfl ?_
    refine gk_iload_n G dL_act_497 4 rfl ?_
    refine gk_iload G dL_act_498 6 rfl ?_
    refine gp_below (n := nk) (v := x) G gL_act_L_below ⟨(Nat.le_of_ble_eq_true rfl), (Nat.le_of_ble_eq_true rfl)⟩ ⟨(Nat.le_of_ble_eq_true rfl), (Nat.le_of_ble_eq_true rfl)⟩ (by omega) (by omega) (Nat.le_of_ble_eq_true rfl) dL_act_500 ?_
    show gk_C p l e ({ frames := 5, cells := 120, slots := 1200, locals := 114 } : Room) s m ([.ref g, .ref a, .int x] : List Value).toArray below meth c 15 D A Q 0 0 (gw_X cI cZ g h1 h2 q1 q2 u ++ (gp_W cI cJ a q F W0 nm nk fS fK Sx Kx T V495)) [(13, .int (nI (M 6 (gp_bel x nk)))), (12, .ref (Kx (gp_bel x nk))), (0, .ref g), (1, .ref a), (2, .int x), (3, .int (nI nm)), (4, .int (nI nk))] 503 [.int (nI (gp_bel x nk)), .ref g]
    refine gk_aload G dL_act_503 1 rfl ?_
    refine gk_iconst (v := nI 2) G dL_act_505 (by decide) ?_
    refine gk_iald (v := nI (1 + gp_bel (x >>> (nI 4 &&& 31)) 200)) G (q0 := (nm + (gp_bel x nk) + 4 + 21)) (t0 := 0) (gp_sX (gp_atK (by omega))) rfl 2 rfl (by decide) (by decide) (by subst eV495; rw [gp_up_at]; exact ev495) dL_act_506 ?_
    refine gq_setUntil_ok (Y := []) G gL_act_X1_setUntil hE ⟨(Nat.le_of_ble_eq_true rfl), (Nat.le_of_ble_eq_true rfl)⟩ ⟨(Nat.le_of_ble_eq_true rfl), (Nat.le_of_ble_eq_true rfl)⟩ (gp_bel x nk) (1 + gp_bel (x >>> (nI 4 &&& 31)) 200) wf hr (by omega) (by omega) (by omega) (Nat.le_of_ble_eq_true rfl) dL_act_507 (fun u507 hr507 => ?_)
    show gk_C p l e ({ frames := 5, cells := 120, slots := 1200, locals := 114 } : Room) s m ([.ref g, .ref a, .int x] : List Value).toArray below meth c 15 D A Q 0 0 (gw_X cI cZ g h1 h2 q1 q2 u507 ++ (gp_W cI cJ a q F W0 nm nk fS fK Sx Kx T V495)) [(13, .int (nI (M 6 (gp_bel x nk)))), (12, .ref (Kx (gp_bel x nk))), (0, .ref g), (1, .ref a), (2, .int x), (3, .int (nI nm)), (4, .int (nI nk))] 510 [.int (nI (M 6 (gp_bel x nk)))]
    refine gk_iload G dL_act_510 0 rfl ?_
    refine gk_icmp_ne (tgt := 519) G dL_act_512 (by decide) (fun c_512 => ?_) (fun c_512 => ?_)
    · exact absurd rfl c_512
    · refine gk_iconst (v := nI 1) G dL_act_515 (by decide) ?_
      refine gk_goto (tgt := 520) G dL_act_516 (by decide) ?_
      exact RET _ _ _ _ (q, F, W0, nm, nk, fS, fK, Sx, Kx, T, V495) u507 (gm_set M 6 (gp_bel x nk) (1 + gp_bel (x >>> (nI 4 &&& 31)) 200)) dL_act_520 ⟨gp_wf_until wf (by omega) (by omega), gp_rest_set hrest (by decide) (by decide) (by decide), hr507, ⟨by subst eV495; subst ev495; exact gp_rep_until hs, (gm_set_k _ _ (by decide)).trans hm, (gm_set_k _ _ (by decide)).trans hk, hfS, hfK⟩, by rw [gm_set_k _ _ (by decide)]; omega, by rw [gm_set_k _ _ (by decide)]; omega⟩ (Nat.le_of_ble_eq_true rfl) (Nat.le_of_ble_eq_true rfl)
  · replace c_457 := (nI_eq (a := nk) (b := 0) (by omega) (by omega)).mp c_457
    refine gk_iconst (v := nI 1) G dL_act_460 (by decide) ?_
    exact RET _ _ _ _ (q, F, W0, nm, nk, fS, fK, Sx, Kx, T, V) u M dL_act_461 ⟨wf, hrest, hr, ⟨hs, hm, hk, hfS, hfK⟩, by omega, by omega⟩ (Nat.le_of_ble_eq_true rfl) (Nat.le_of_ble_eq_true rfl)
set_option maxRecDepth 100000 in
set_option maxHeartbeats 2000000 in
theorem sa_hours {p : Program} {l : Launch} {e : Env} {s : State} {m : MethodId} {below : List Frame} {meth : Method} {c : Code} {D : va_G} {A : Nat → Prop} {Q : State → Prop} {cI cZ cJ : ClassId} {g h1 h2 : Nat} {q1 q2 : Nat → Nat} {u : gw_U} {a : Nat} {q : Nat → Nat} {F W0 : Nat → Int32} {nm nk : Nat} {fS fK : Nat → Option Nat} {Sx Kx : Nat → Nat} {T V : Nat → Nat → Int32} {M : gm_M} {x : Int32} (G : gk_G p s m ([.ref g, .ref a, .int x] : List Value).toArray meth c RL 15 cL_act (some .boolean) wsL_act D (g_T cI cZ cJ) A) (wf : gm_wf M) (hrest : gm_rest M) (hr : gc_rep u.1.1 u.1.2 M) (hs : gp_rep F W0 T V M) (hm : M 10 0 = nm) (hk : M 11 0 = nk) (hfS : gp_rows fS Sx nm) (hfK : gp_rows fK Kx nk) (hh : M 9 0 < 1900000) (hE : gn_E A s s.heap) (hA : gp_AO A s s.heap)
    (RET : ∀ (cells slots : Nat) (lv : List (Nat × Value)) (pc : Nat) (v : gp_Q) (u : gw_U) (M' : gm_M), decode cL_act pc = .ok (.ireturn, 1) → gp_post M v u M' → cells ≤ 120 → slots ≤ 1200 → gk_C p l e ({ frames := 5, cells := 120, slots := 1200, locals := 114 } : Room) s m ([.ref g, .ref a, .int x] : List Value).toArray below meth c 15 D A Q cells slots (gw_X cI cZ g h1 h2 q1 q2 u ++ gp_U cI cJ a v) lv pc [.int (nI 1)]) : gk_C p l e ({ frames := 5, cells := 120, slots := 1200, locals := 114 } : Room) s m ([.ref g, .ref a, .int x] : List Value).toArray below meth c 15 D A Q 0 0 (gw_X cI cZ g h1 h2 q1 q2 u ++ (gp_W cI cJ a q F W0 nm nk fS fK Sx Kx T V)) [(0, .ref g), (1, .ref a), (2, .int x), (3, .int (nI nm)), (4, .int (nI nk))] 521 [] := by
  obtain ⟨hz1, hz2, hz3, hz4, hz5, hz6, hz7, hz8⟩ := id wf
  have hb9 := gp_bel_lt x (show 0 < 9 by decide)
  refine gk_iconst (v := nI 1) G dL_act_521 (by decide) ?_
  refine gk_iload_n G dL_act_522 2 rfl ?_
  refine gk_iconst (v := nI 2) G dL_act_523 (by decide) ?_
  refine gk_ishr (v := x >>> ((nI 2) &&& 31)) G dL_act_524 rfl ?_
  refine gk_iload_n G dL_act_525 2 rfl ?_
  refine gk_bipush (v := nI 9) G dL_act_526 (by decide) ?_
  have J540 : ∀ n1 : Nat, (n1 = 60 ∨ n1 = 4) → gk_C p l e ({ frames := 5, cells := 120, slots := 1200, locals := 114 } : Room) s m ([.ref g, .ref a, .int x] : List Value).toArray below meth c 15 D A Q 0 0 (gw_X cI cZ g h1 h2 q1 q2 u ++ (gp_W cI cJ a q F W0 nm nk fS fK Sx Kx T V)) [(0, .ref g), (1, .ref a), (2, .int x), (3, .int (nI nm)), (4, .int (nI nk))] 540 [.int (nI n1), .int (x >>> ((nI 2) &&& 31)), .int (nI 1)] := by
    intro n1 hn1
    refine gp_below (n := n1) (v := (x >>> ((nI 2) &&& 31))) G gL_act_L_below ⟨(Nat.le_of_ble_eq_true rfl), (Nat.le_of_ble_eq_true rfl)⟩ ⟨(Nat.le_of_ble_eq_true rfl), (Nat.le_of_ble_eq_true rfl)⟩ (by omega) (by omega) (Nat.le_of_ble_eq_true rfl) dL_act_540 ?_
    show gk_C p l e ({ frames := 5, cells := 120, slots := 1200, locals := 114 } : Room) s m ([.ref g, .ref a, .int x] : List Value).toArray below meth c 15 D A Q 0 0 (gw_X cI cZ g h1 h2 q1 q2 u ++ (gp_W cI cJ a q F W0 nm nk fS fK Sx Kx T V)) [(0, .ref g), (1, .ref a), (2, .int x), (3, .int (nI nm)), (4, .int (nI nk))] 543 [.int (nI (gp_bel (x >>> ((nI 2) &&& 31)) n1)), .int (nI 1)]
    refine gk_iadd (v := nI (1 + (gp_bel (x >>> ((nI 2) &&& 31)) n1))) G dL_act_543 (nI_add 1 (gp_bel (x >>> ((nI 2) &&& 31)) n1)) ?_
    refine gk_istore (lv' := [(14, .int (nI (1 + (gp_bel (x >>> ((nI 2) &&& 31)) n1)))), (0, .ref g), (1, .ref a), (2, .int x), (3, .int (nI nm)), (4, .int (nI nk))]) G dL_act_544 (by decide) rfl ?_
    refine gk_aload_n G dL_act_546 1 rfl ?_
    refine gk_iload G dL_act_547 0 rfl ?_
    have hb1 := gp_bel_lt (x >>> (nI 2 &&& 31)) (show 0 < n1 by omega)
    refine gq_pass_ok (Y := []) G gL_act_X1_pass hE ⟨(Nat.le_of_ble_eq_true rfl), (Nat.le_of_ble_eq_true rfl)⟩ ⟨(Nat.le_of_ble_eq_true rfl), (Nat.le_of_ble_eq_true rfl)⟩ (1 + gp_bel (x >>> (nI 2 &&& 31)) n1) wf hr hrest (by omega) (by omega) (by omega) (Nat.le_of_ble_eq_true rfl) dL_act_549 (fun u549 hr549 => ?_)
    show gk_C p l e ({ frames := 5, cells := 120, slots := 1200, locals := 114 } : Room) s m ([.ref g, .ref a, .int x] : List Value).toArray below meth c 15 D A Q 0 0 (gw_X cI cZ g h1 h2 q1 q2 u549 ++ (gp_W cI cJ a q F W0 nm nk fS fK Sx Kx T V)) [(14, .int (nI (1 + (gp_bel (x >>> ((nI 2) &&& 31)) n1)))), (0, .ref g), (1, .ref a), (2, .int x), (3, .int (nI nm)), (4, .int (nI nk))] 552 [.int (nI (gm_hrs M (1 + gp_bel (x >>> (nI 2 &&& 31)) n1) 16 0 - M 16 0))]
    refine gk_aload_n G dL_act_552 2 rfl ?_
    refine gk_iload G dL_act_553 0 rfl ?_
    refine gp_callIV (wr := gw_X cI cZ g h1 h2 q1 q2 u549) G (c2_behind l D cI cZ cJ a q F W0 nm nk fS fK Sx Kx T V M (1 + gp_bel (x >>> (nI 2 &&& 31)) n1) wf hs hm hk hfS hfK (by omega) (by omega)) gL_act_X2_behind rfl 1 (by decide +kernel) rfl rfl ⟨(Nat.le_of_ble_eq_true rfl), (Nat.le_of_ble_eq_true rfl)⟩ rfl (q0 := 0) rfl (T := TX2) (N := 8) rfl gk_ok0 trivial (List.Perm.refl _) rfl (Nat.le_of_ble_eq_true rfl) dL_act_555 ⟨(Nat.le_of_ble_eq_true rfl), (Nat.le_of_ble_eq_true rfl)⟩ (fun r555 w555 hp555 => ?_)
    obtain ⟨F555, T555, V555⟩ := w555
    have hs555 : gp_rep F555 W0 T555 V555 (gm_hrs M (1 + gp_bel (x >>> (nI 2 &&& 31)) n1)) := hp555.2
    rw [show r555 = nI (gm_hrs M (1 + gp_bel (x >>> (nI 2 &&& 31)) n1) 16 0 - M 16 0) from hp555.1]
    show gk_C p l e ({ frames := 5, cells := 120, slots := 1200, locals := 114 } : Room) s m ([.ref g, .ref a, .int x] : List Value).toArray below meth c 15 D A Q 120 1200 (gw_X cI cZ g h1 h2 q1 q2 u549 ++ (gp_W cI cJ a q F555 W0 nm nk fS fK Sx Kx T555 V555)) [(14, .int (nI (1 + (gp_bel (x >>> ((nI 2) &&& 31)) n1)))), (0, .ref g), (1, .ref a), (2, .int x), (3, .int (nI nm)), (4, .int (nI nk))] 558 [.int (nI (gm_hrs M (1 + gp_bel (x >>> (nI 2 &&& 31)) n1) 16 0 - M 16 0)), .int (nI (gm_hrs M (1 + gp_bel (x >>> (nI 2 &&& 31)) n1) 16 0 - M 16 0))]
    refine gk_icmp_ne (tgt := 565) G dL_act_558 (by decide) (fun c_558 => ?_) (fun c_558 => ?_)
    · exact absurd rfl c_558
    · refine gk_iconst (v := nI 1) G dL_act_561 (by decide) ?_
      refine gk_goto (tgt := 566) G dL_act_562 (by decide) ?_
      exact RET _ _ _ _ (q, F555, W0, nm, nk, fS, fK, Sx, Kx, T555, V555) u549 (gm_hrs M (1 + gp_bel (x >>> (nI 2 &&& 31)) n1)) dL_act_566 ⟨gm_hrs_wf wf _, gm_hrs_rest wf hrest _, hr549, ⟨hs555, (gm_hrs_ne M 0 (by decide) (by decide) (by decide) (by decide) (by decide) (by decide) (by decide) _).trans hm, (gm_hrs_ne M 0 (by decide) (by decide) (by decide) (by decide) (by decide) (by decide) (by decide) _).trans hk, hfS, hfK⟩, by rw [gm_hrs_9]; omega, by have := gp_hrs_13 hz1 (1 + gp_bel (x >>> (nI 2 &&& 31)) n1); omega⟩ (Nat.le_of_ble_eq_true rfl) (Nat.le_of_ble_eq_true rfl)
  refine gp_below (n := 9) (v := x) G gL_act_L_below ⟨(Nat.le_of_ble_eq_true rfl), (Nat.le_of_ble_eq_true rfl)⟩ ⟨(Nat.le_of_ble_eq_true rfl), (Nat.le_of_ble_eq_true rfl)⟩ (by omega) (by omega) (Nat.le_of_ble_eq_true rfl) dL_act_528 ?_
  show gk_C p l e ({ frames := 5, cells := 120, slots := 1200, locals := 114 } : Room) s m ([.ref g, .ref a, .int x] : List Value).toArray below meth c 15 D A Q 0 0 (gw_X cI cZ g h1 h2 q1 q2 u ++ (gp_W cI cJ a q F W0 nm nk fS fK Sx Kx T V)) [(0, .ref g), (1, .ref a), (2, .int x), (3, .int (nI nm)), (4, .int (nI nk))] 531 [.int (nI (gp_bel x 9)), .int (x >>> ((nI 2) &&& 31)), .int (nI 1)]
  refine gk_if_ne (tgt := 539) G dL_act_531 (by decide) (fun c_531 => ?_) (fun c_531 => ?_)
  · replace c_531 := (not_congr (nI_eq (a := gp_bel x 9) (b := 0) (by omega) (by omega))).mp c_531
    refine gk_iconst (v := nI 4) G dL_act_539 (by decide) ?_
    exact J540 4 (by omega)
  · replace c_531 := (nI_eq (a := gp_bel x 9) (b := 0) (by omega) (by omega)).mp c_531
    refine gk_bipush (v := nI 60) G dL_act_534 (by decide) ?_
    refine gk_goto (tgt := 540) G dL_act_536 (by decide) ?_
    exact J540 60 (by omega)
