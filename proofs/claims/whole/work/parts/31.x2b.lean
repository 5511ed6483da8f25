set_option maxRecDepth 100000 in
set_option maxHeartbeats 1000000 in
theorem c2_hourOn (l : Launch) (D : va_G) (cI cZ cJ : ClassId) (h : Nat) (q : Nat → Nat) (F : Nat → Int32) (B : Nat → Nat → Int32) (f kp g : Nat → Int32) (M : gm_M) (wf : gm_wf M) (hs : gr_st F B M) (hn : gr_now f M) (hrest : gm_rest M) (hh : M 9 0 < 1999999) : gk_V l yX2_hourOn wsX2_hourOn ({ frames := 2, cells := 0, slots := 0, locals := 44 } : Room) D (g_T cI cZ cJ) gk_E0 [.ref h] (gd_W cI h q F B f kp g) 0 0 (fun (u : (Nat → Int32) × (Nat → Int32)) => gr_now u.1 (gm_hour M)) (fun u => (gd_W cI h q F B u.1 kp u.2)) := by
  refine gk_V_of (cc := cX2_hourOn) (nL := 5) (by decide +kernel) rfl (Nat.le_of_ble_eq_true rfl) ?_
  intro p e s m below meth c A Q hnm hE G RET
  obtain ⟨hz1, hz2, hz3, hz4, hz5, hz6, hz7, hz8⟩ := id wf
  have hinX2 : ∀ w ∈ wsX20, w ∈ wsX2_hourOn := fun w h9 => (List.mem_cons_of_mem _ (List.mem_append_right _ h9))
  have k9 := G.2.2.2.2.1 (.fieldLink RX2 9 "GustMillModel" "size" "[I") (List.mem_cons_of_mem _ (List.mem_append_left _ (List.mem_append_left _ (List.mem_of_getElem? (i := 6) rfl))))
  have k13 := G.2.2.2.2.1 (.fieldLink RX2 13 "GustMillModel" "wind" "[I") (List.mem_cons_of_mem _ (List.mem_append_left _ (List.mem_append_left _ (List.mem_of_getElem? (i := 5) rfl))))
  have k22 := G.2.2.2.2.1 (.fieldLink RX2 22 "GustMillModel" "now" "[I") (List.mem_cons_of_mem _ (List.mem_append_left _ (List.mem_append_left _ (List.mem_of_getElem? (i := 2) rfl))))
  have k28 := G.2.2.2.2.1 (.fieldLink RX2 28 "GustMillModel" "fresh" "[I") (List.mem_cons_of_mem _ (List.mem_append_left _ (List.mem_append_left _ (List.mem_of_getElem? (i := 4) rfl))))
  have k35 := G.2.2.2.2.1 (.fieldLink RX2 35 "GustMillModel" "stones" "I") (List.mem_cons_of_mem _ (List.mem_append_left _ (List.mem_append_left _ (List.mem_of_getElem? (i := 3) rfl))))
  have k42 := G.2.2.2.2.1 (.fieldLink RX2 42 "GustMillModel" "sacks" "I") (List.mem_cons_of_mem _ (List.mem_append_left _ (List.mem_append_left _ (List.mem_of_getElem? (i := 0) rfl))))
  have k62 := G.2.2.2.2.1 (.fieldLink RX2 62 "GustMillModel" "isAllowed" "Z") (List.mem_cons_of_mem _ (List.mem_append_left _ (List.mem_append_left _ (List.mem_of_getElem? (i := 1) rfl))))
  have hsY : gr_st F B (gm_tk M) := gr_st_eq hs (fun k i h3 h5 h7 h8 h9 h13 h16 => gm_tk_ne M i h7)
  have hs1 : gr_st F B (gm_h1 M) := gr_st_eq hs (fun k i h3 h5 h7 h8 h9 h13 h16 => gm_h1_ne M i h3 h7 h13)
  have hs2 : gr_st F B (gm_inc (gm_h2 M)) := gr_st_eq hs (fun k i h3 h5 h7 h8 h9 h13 h16 => (gm_inc_ne _ i h9).trans (gm_h2_ne M i h3 h7 h13 h5 h16))
  have zi11 : (gm_inc (gm_h2 M)) 11 0 = M 11 0 := (gm_inc_ne _ _ (by decide)).trans (gm_h2_ne M 0 (by decide) (by decide) (by decide) (by decide) (by decide))
  have zi9 : (gm_inc (gm_h2 M)) 9 0 = M 9 0 + 1 := (gm_inc_9 _).trans (congrArg (· + 1) (gm_h2_ne M 0 (by decide) (by decide) (by decide) (by decide) (by decide)))
  have wfZ : gm_wf (gm_inc (gm_h2 M)) := gm_inc_wf (gm_h2_wf wf)
  have h110 : (gm_h1 M) 10 0 = M 10 0 := gm_h1_ne M 0 (by decide) (by decide) (by decide)
  have h111 : (gm_h1 M) 11 0 = M 11 0 := gm_h1_ne M 0 (by decide) (by decide) (by decide)
  have h19 : (gm_h1 M) 9 0 = M 9 0 := gm_h1_ne M 0 (by decide) (by decide) (by decide)
  have h116 : (gm_h1 M) 16 0 = M 16 0 := gm_h1_ne M 0 (by decide) (by decide) (by decide)
  have wf1 := gm_h1_wf wf
  have hwnd : gm_wnd M ≤ 20 := hz5 _ (Nat.mod_lt _ (by decide))
  have L251 : ∀ (g1 : Nat → Int32), ∀ (n : Nat) (k : Nat) (f1 : Nat → Int32), M 11 0 - k < n → k ≤ M 11 0 → gr_now f1 (gm_fnp (gm_inc (gm_h2 M)) k) → gk_C p l e ({ frames := 2, cells := 0, slots := 0, locals := 44 } : Room) s m ([.ref h] : List Value).toArray below meth c 5 D A Q 0 0 (gd_W cI h q F B f1 kp g1) [(0, .ref h), (2, .int (nI k))] 251 [] := by
    intro g1 n
    induction n with
    | zero => intro k f1 h0; exact absurd h0 (Nat.not_lt_zero _)
    | succ n ih =>
      intro k f1 h0 w0 w1
      have hsX : gr_st F B (gm_fnp (gm_inc (gm_h2 M)) k) := gr_st_eq hs2 (fun k i h3 h5 h7 h8 h9 h13 h16 => gm_fnp_ne _ _ i h8 h7)
      have e11x : (gm_fnp (gm_inc (gm_h2 M)) k) 11 0 = M 11 0 := (gm_fnp_ne _ _ _ (by decide) (by decide)).trans zi11
      have e9x : (gm_fnp (gm_inc (gm_h2 M)) k) 9 0 = (gm_inc (gm_h2 M)) 9 0 := gm_fnp_ne _ _ _ (by decide) (by decide)
      have wfX := gm_fnp_wf wfZ k
      have x10 := wfX.1
      refine gk_iload_n G dX2_hourOn_251 1 rfl ?_
      refine gk_aload_n G dX2_hourOn_252 0 rfl ?_
      refine gk_get (v' := .int (nI ((gm_fnp (gm_inc (gm_h2 M)) k) 11 0))) G hinX2 (q0 := 0) rfl rfl 6 (by decide) k42 rfl (congrArg Value.int (hsX.2.2.2.1)) dX2_hourOn_253 ?_
      refine gk_icmp_ge (tgt := 317) G dX2_hourOn_256 (by decide) (fun c_256 => ?_) (fun c_256 => ?_)
      · replace c_256 := (nI_leI (a := (gm_fnp (gm_inc (gm_h2 M)) k) 11 0) (b := k) (by omega) (by omega)).mp c_256
        exact RET _ _ _ _ _ (f1, g1) dX2_hourOn_317 (by rw [show gm_hour M = gm_fnp (gm_inc (gm_h2 M)) k by unfold gm_hour; rw [show M 11 0 = k by omega]]; exact w1) rfl (Nat.le_of_ble_eq_true rfl) (Nat.le_of_ble_eq_true rfl)
      · replace c_256 := (not_congr (nI_leI (a := (gm_fnp (gm_inc (gm_h2 M)) k) 11 0) (b := k) (by omega) (by omega))).mp c_256
        have hX7 := wfX.2.2.2.2.2.2.1 k (by omega)
        refine gk_aload_n G dX2_hourOn_259 0 rfl ?_
        refine gk_get (v' := .ref (q 9)) G hinX2 (q0 := 0) rfl rfl 9 (by decide) k22 rfl rfl dX2_hourOn_260 ?_
        refine gk_bipush (v := nI 35) G dX2_hourOn_263 (by decide) ?_
        refine gk_iload_n G dX2_hourOn_265 1 rfl ?_
        refine gk_iadd (v := nI (35 + k)) G dX2_hourOn_266 (nI_add 35 k) ?_
        refine gk_iald (v := gm_e ((gm_fnp (gm_inc (gm_h2 M)) k) 7 k)) G (q0 := 5) (t0 := 0) rfl rfl (35 + k) rfl (by omega) (by decide) (w1.2.2.2.2.2 k (by omega)) dX2_hourOn_267 ?_
        refine gk_iconst (v := -1) G dX2_hourOn_268 (by decide) ?_
        refine gk_icmp_eq (tgt := 311) G dX2_hourOn_269 (by decide) (fun c_269 => ?_) (fun c_269 => ?_)
        · replace c_269 := (gm_e_none (a := (gm_fnp (gm_inc (gm_h2 M)) k) 7 k) (by omega)).mp c_269
          have x70 : (gm_inc (gm_h2 M)) 7 k = 0 := by rw [gm_fnp_7, if_neg (by omega)] at c_269; exact c_269
          refine gk_iinc (j := 1) (v := nI (k + 1)) (lv' := [(2, .int (nI (k + 1))), (0, .ref h)]) G dX2_hourOn_311 rfl (nI_add k 1) (by decide) rfl ?_
          refine gk_goto (tgt := 251) G dX2_hourOn_314 (by decide) ?_
          have r9 : gr_now f1 (gm_fnp (gm_inc (gm_h2 M)) (k + 1)) := by rw [gm_fnp_skip (by first | exact Or.inl x70 | (right; intro q; exact x50 q))]; exact w1
          exact gk_lsub [1,0] rfl (ih (k + 1) _ (by omega) (by omega) r9)
        · replace c_269 := (not_congr (gm_e_none (a := (gm_fnp (gm_inc (gm_h2 M)) k) 7 k) (by omega))).mp c_269
          have x70 : (gm_inc (gm_h2 M)) 7 k ≠ 0 := by rw [gm_fnp_7, if_neg (by omega)] at c_269; exact c_269
          refine gk_aload_n G dX2_hourOn_272 0 rfl ?_
          refine gk_get (v' := .ref (q 9)) G hinX2 (q0 := 0) rfl rfl 9 (by decide) k22 rfl rfl dX2_hourOn_273 ?_
          refine gk_iconst (v := nI 3) G dX2_hourOn_276 (by decide) ?_
          refine gk_iload_n G dX2_hourOn_277 1 rfl ?_
          refine gk_iadd (v := nI (3 + k)) G dX2_hourOn_278 (nI_add 3 k) ?_
          refine gk_iald (v := nI ((gm_fnp (gm_inc (gm_h2 M)) k) 5 k)) G (q0 := 5) (t0 := 0) rfl rfl (3 + k) rfl (by omega) (by decide) (w1.2.2.2.1 k (by omega)) dX2_hourOn_279 ?_
          refine gk_if_le (tgt := 286) G dX2_hourOn_280 (by decide) (fun c_280 => ?_) (fun c_280 => ?_)
          · replace c_280 := (nI_leI (a := (gm_fnp (gm_inc (gm_h2 M)) k) 5 k) (b := 0) (by omega) (by omega)).mp c_280
            have x50 : (gm_inc (gm_h2 M)) 5 k = 0 := by rw [gm_fnp_ne _ _ _ (by decide) (by decide)] at c_280; omega
            refine gk_aload_n G dX2_hourOn_286 0 rfl ?_
            refine gk_get (v' := .ref (q 9)) G hinX2 (q0 := 0) rfl rfl 9 (by decide) k22 rfl rfl dX2_hourOn_287 ?_
            refine gk_bipush (v := nI 19) G dX2_hourOn_290 (by decide) ?_
            refine gk_iload_n G dX2_hourOn_292 1 rfl ?_
            refine gk_iadd (v := nI (19 + k)) G dX2_hourOn_293 (nI_add 19 k) ?_
            refine gk_aload_n G dX2_hourOn_294 0 rfl ?_
            refine gk_get (v' := .ref (q 9)) G hinX2 (q0 := 0) rfl rfl 9 (by decide) k22 rfl rfl dX2_hourOn_295 ?_
            refine gk_iconst (v := nI 0) G dX2_hourOn_298 (by decide) ?_
            refine gk_iald (v := nI ((gm_fnp (gm_inc (gm_h2 M)) k) 9 0)) G (q0 := 5) (t0 := 0) rfl rfl 0 rfl (by omega) (by decide) w1.1 dX2_hourOn_299 ?_
            refine gk_topi (fun v300 ev300 => ?_)
            refine gk_iast (w' := (gd_W cI h q F B (upd f1 (19 + k) v300) kp g1)) G (q0 := 5) (t0 := 0) rfl rfl (19 + k) rfl (by omega) (by decide) rfl dX2_hourOn_300 ?_
            generalize ef300 : upd f1 (19 + k) v300 = f300
            refine gk_aload_n G dX2_hourOn_301 0 rfl ?_
            refine gk_get (v' := .ref (q 9)) G hinX2 (q0 := 0) rfl rfl 9 (by decide) k22 rfl rfl dX2_hourOn_302 ?_
            refine gk_bipush (v := nI 35) G dX2_hourOn_305 (by decide) ?_
            refine gk_iload_n G dX2_hourOn_307 1 rfl ?_
            refine gk_iadd (v := nI (35 + k)) G dX2_hourOn_308 (nI_add 35 k) ?_
            refine gk_iconst (v := -1) G dX2_hourOn_309 (by decide) ?_
            refine gk_topi (fun v310 ev310 => ?_)
            refine gk_iast (w' := (gd_W cI h q F B (upd f300 (35 + k) v310) kp g1)) G (q0 := 5) (t0 := 0) rfl rfl (35 + k) rfl (by omega) (by decide) rfl dX2_hourOn_310 ?_
            generalize ef310 : upd f300 (35 + k) v310 = f310
            refine gk_iinc (j := 1) (v := nI (k + 1)) (lv' := [(2, .int (nI (k + 1))), (0, .ref h)]) G dX2_hourOn_311 rfl (nI_add k 1) (by decide) rfl ?_
            refine gk_goto (tgt := 251) G dX2_hourOn_314 (by decide) ?_
            have r9 : gr_now f310 (gm_fnp (gm_inc (gm_h2 M)) (k + 1)) := by
              rw [gm_fnp_do x70 x50]
              subst ef310; subst ev310; subst ef300; subst ev300
              exact gr_now_7 (gr_now_8 w1 (by omega) (by omega) (by rw [e9x, ← gm_eS])) (by rw [gm_set_k _ _ (by decide)]; omega) (by rw [gm_set_k _ _ (by decide)]; omega) gm_e0.symm
            exact gk_lsub [1,0] rfl (ih (k + 1) _ (by omega) (by omega) r9)
          · replace c_280 := (not_congr (nI_leI (a := (gm_fnp (gm_inc (gm_h2 M)) k) 5 k) (b := 0) (by omega) (by omega))).mp c_280
            have x50 : ¬ (gm_inc (gm_h2 M)) 5 k = 0 := by rw [gm_fnp_ne _ _ _ (by decide) (by decide)] at c_280; omega
            refine gk_goto (tgt := 311) G dX2_hourOn_283 (by decide) ?_
            refine gk_iinc (j := 1) (v := nI (k + 1)) (lv' := [(2, .int (nI (k + 1))), (0, .ref h)]) G dX2_hourOn_311 rfl (nI_add k 1) (by decide) rfl ?_
            refine gk_goto (tgt := 251) G dX2_hourOn_314 (by decide) ?_
            have r9 : gr_now f1 (gm_fnp (gm_inc (gm_h2 M)) (k + 1)) := by rw [gm_fnp_skip (by first | exact Or.inl x70 | (right; intro q; exact x50 q))]; exact w1
            exact gk_lsub [1,0] rfl (ih (k + 1) _ (by omega) (by omega) r9)
  have L152 : ∀ (g1 : Nat → Int32), (∀ i, i < M 10 0 → g1 i = nI ((gm_h1 M) 3 i)) → (∀ i, i < M 10 0 → (gm_h1 M) 3 i ≤ 1) → ∀ (n : Nat) (k : Nat) (f1 : Nat → Int32), M 10 0 - k < n → k ≤ M 10 0 → gr_now f1 (gm_grd (M 16 0 + gm_wnd M) (gm_h1 M) k) → gk_C p l e ({ frames := 2, cells := 0, slots := 0, locals := 44 } : Room) s m ([.ref h] : List Value).toArray below meth c 5 D A Q 0 0 (gd_W cI h q F B f1 kp g1) [(0, .ref h), (1, .int (nI ((M 16 0 + gm_wnd M) - (gm_grd (M 16 0 + gm_wnd M) (gm_h1 M) k) 16 0))), (2, .int (nI k))] 152 [] := by
    intro g1 hg1 hg2 n
    induction n with
    | zero => intro k f1 h0; exact absurd h0 (Nat.not_lt_zero _)
    | succ n ih =>
      intro k f1 h0 w0 w1
      have hsX : gr_st F B (gm_grd (M 16 0 + gm_wnd M) (gm_h1 M) k) := gr_st_eq hs1 (fun k i h3 h5 h7 h8 h9 h13 h16 => gm_grd_ne _ _ i h5 h16 _)
      have wfX := gm_grd_wf (b := (M 16 0 + gm_wnd M)) wf1 k
      have e10x : (gm_grd (M 16 0 + gm_wnd M) (gm_h1 M) k) 10 0 = M 10 0 := (gm_grd_ne _ _ _ (by decide) (by decide) k).trans h110
      have e11x : (gm_grd (M 16 0 + gm_wnd M) (gm_h1 M) k) 11 0 = M 11 0 := (gm_grd_ne _ _ _ (by decide) (by decide) k).trans h111
      have e9x : (gm_grd (M 16 0 + gm_wnd M) (gm_h1 M) k) 9 0 = M 9 0 := (gm_grd_ne _ _ _ (by decide) (by decide) k).trans h19
      have e16x := gm_grd_16 (M 16 0 + gm_wnd M) (gm_h1 M) (by omega) k
      have hwl := gm_who_le (gm_grd (M 16 0 + gm_wnd M) (gm_h1 M) k) k ((gm_grd (M 16 0 + gm_wnd M) (gm_h1 M) k) 11 0)
      have hh2 : (gm_inc (gm_h2 M)) = gm_inc (gm_grd (M 16 0 + gm_wnd M) (gm_h1 M) (M 10 0)) := rfl
      refine gk_iload_n G dX2_hourOn_152 2 rfl ?_
      refine gk_aload_n G dX2_hourOn_153 0 rfl ?_
      refine gk_get (v' := .int (nI ((gm_grd (M 16 0 + gm_wnd M) (gm_h1 M) k) 10 0))) G hinX2 (q0 := 0) rfl rfl 1 (by decide) k35 rfl (congrArg Value.int (hsX.1)) dX2_hourOn_154 ?_
      refine gk_icmp_ge (tgt := 239) G dX2_hourOn_157 (by decide) (fun c_157 => ?_) (fun c_157 => ?_)
      · replace c_157 := (nI_leI (a := (gm_grd (M 16 0 + gm_wnd M) (gm_h1 M) k) 10 0) (b := k) (by omega) (by omega)).mp c_157
        refine gk_aload_n G dX2_hourOn_239 0 rfl ?_
        refine gk_get (v' := .ref (q 9)) G hinX2 (q0 := 0) rfl rfl 9 (by decide) k22 rfl rfl dX2_hourOn_240 ?_
        refine gk_iconst (v := nI 0) G dX2_hourOn_243 (by decide) ?_
        refine gk_dup2 G dX2_hourOn_244 rfl rfl ?_
        refine gk_iald (v := nI ((gm_grd (M 16 0 + gm_wnd M) (gm_h1 M) k) 9 0)) G (q0 := 5) (t0 := 0) rfl rfl 0 rfl (by omega) (by decide) w1.1 dX2_hourOn_245 ?_
        refine gk_iconst (v := nI 1) G dX2_hourOn_246 (by decide) ?_
        refine gk_iadd (v := nI (((gm_grd (M 16 0 + gm_wnd M) (gm_h1 M) k) 9 0) + 1)) G dX2_hourOn_247 (nI_add ((gm_grd (M 16 0 + gm_wnd M) (gm_h1 M) k) 9 0) 1) ?_
        refine gk_topi (fun v248 ev248 => ?_)
        refine gk_iast (w' := (gd_W cI h q F B (upd f1 0 v248) kp g1)) G (q0 := 5) (t0 := 0) rfl rfl 0 rfl (by omega) (by decide) rfl dX2_hourOn_248 ?_
        generalize ef248 : upd f1 0 v248 = f248
        have h248 : gr_now f248 (gm_inc (gm_h2 M)) := by subst ef248; subst ev248; rw [show M 10 0 = k by omega] at hh2; rw [hh2]; exact gr_now_9 w1 (by omega) rfl
        refine gk_iconst (v := nI 0) G dX2_hourOn_249 (by decide) ?_
        refine gk_istore_n (lv' := [(2, .int (nI 0)), (0, .ref h), (1, .int (nI ((M 16 0 + gm_wnd M) - (gm_grd (M 16 0 + gm_wnd M) (gm_h1 M) k) 16 0)))]) G dX2_hourOn_250 rfl (by decide) rfl ?_
        exact gk_lsub [1,0] rfl (L251 g1 (M 11 0 + 1) 0 f248 (by omega) (by omega) (by rw [gm_fnp_0]; exact h248))
      · replace c_157 := (not_congr (nI_leI (a := (gm_grd (M 16 0 + gm_wnd M) (gm_h1 M) k) 10 0) (b := k) (by omega) (by omega))).mp c_157
        have h1k := wfX.2.2.2.2.2.1 k (by omega)
        have h3k := hg2 k (by omega)
        have e3x : (gm_grd (M 16 0 + gm_wnd M) (gm_h1 M) k) 3 k = (gm_h1 M) 3 k := gm_grd_ne _ _ _ (by decide) (by decide) k
        refine gk_aload_n G dX2_hourOn_160 0 rfl ?_
        refine gk_iload_n G dX2_hourOn_161 2 rfl ?_
        refine gk_callIV (wr := []) G (c2_on l D cI cZ cJ h q F B f1 kp g1 (gm_grd (M 16 0 + gm_wnd M) (gm_h1 M) k) k wfX hsX w1 (by omega)) gX2_hourOn_X2_on rfl 1 (by decide +kernel) rfl rfl ⟨(Nat.le_of_ble_eq_true rfl), (Nat.le_of_ble_eq_true rfl)⟩ rfl (q0 := 0) rfl (T := TX2) (N := 12) rfl gk_ok0 trivial [0, 1, 2, 3, 4, 5, 6, 7] rfl (by decide) [] rfl (by decide) (by decide) rfl (Nat.le_of_ble_eq_true rfl) dX2_hourOn_162 ⟨(Nat.le_of_ble_eq_true rfl), (Nat.le_of_ble_eq_true rfl)⟩ (fun r162 u162 hp162 => ?_)
        obtain rfl : r162 = gm_e (gm_who (gm_grd (M 16 0 + gm_wnd M) (gm_h1 M) k) k ((gm_grd (M 16 0 + gm_wnd M) (gm_h1 M) k) 11 0)) := hp162
        show gk_C p l e ({ frames := 2, cells := 0, slots := 0, locals := 44 } : Room) s m ([.ref h] : List Value).toArray below meth c 5 D A Q 0 0 (gd_W cI h q F B f1 kp g1) [(0, .ref h), (1, .int (nI ((M 16 0 + gm_wnd M) - (gm_grd (M 16 0 + gm_wnd M) (gm_h1 M) k) 16 0))), (2, .int (nI k))] 165 [.int (gm_e (gm_who (gm_grd (M 16 0 + gm_wnd M) (gm_h1 M) k) k ((gm_grd (M 16 0 + gm_wnd M) (gm_h1 M) k) 11 0)))]
        refine gk_istore_n (lv' := [(3, .int (gm_e (gm_who (gm_grd (M 16 0 + gm_wnd M) (gm_h1 M) k) k ((gm_grd (M 16 0 + gm_wnd M) (gm_h1 M) k) 11 0)))), (0, .ref h), (1, .int (nI ((M 16 0 + gm_wnd M) - (gm_grd (M 16 0 + gm_wnd M) (gm_h1 M) k) 16 0))), (2, .int (nI k))]) G dX2_hourOn_165 rfl (by decide) rfl ?_
        refine gk_iload_n G dX2_hourOn_166 0 rfl ?_
        refine gk_iconst (v := -1) G dX2_hourOn_167 (by decide) ?_
        refine gk_icmp_ne (tgt := 174) G dX2_hourOn_168 (by decide) (fun c_168 => ?_) (fun c_168 => ?_)
        · replace c_168 := (not_congr (gm_e_none (a := gm_who (gm_grd (M 16 0 + gm_wnd M) (gm_h1 M) k) k ((gm_grd (M 16 0 + gm_wnd M) (gm_h1 M) k) 11 0)) (by omega))).mp c_168
          have hlk := (wfX.2.2.2.2.2.2.1 (gm_who (gm_grd (M 16 0 + gm_wnd M) (gm_h1 M) k) k ((gm_grd (M 16 0 + gm_wnd M) (gm_h1 M) k) 11 0) - 1) (by omega)).2.1
          have hal : gm_amt (M 16 0 + gm_wnd M) (gm_grd (M 16 0 + gm_wnd M) (gm_h1 M) k) k (gm_who (gm_grd (M 16 0 + gm_wnd M) (gm_h1 M) k) k ((gm_grd (M 16 0 + gm_wnd M) (gm_h1 M) k) 11 0) - 1) ≤ (gm_grd (M 16 0 + gm_wnd M) (gm_h1 M) k) 5 (gm_who (gm_grd (M 16 0 + gm_wnd M) (gm_h1 M) k) k ((gm_grd (M 16 0 + gm_wnd M) (gm_h1 M) k) 11 0) - 1) := by unfold gm_amt; omega
          have hal2 : gm_amt (M 16 0 + gm_wnd M) (gm_grd (M 16 0 + gm_wnd M) (gm_h1 M) k) k (gm_who (gm_grd (M 16 0 + gm_wnd M) (gm_h1 M) k) k ((gm_grd (M 16 0 + gm_wnd M) (gm_h1 M) k) 11 0) - 1) ≤ (M 16 0 + gm_wnd M) - (gm_grd (M 16 0 + gm_wnd M) (gm_h1 M) k) 16 0 := by unfold gm_amt; omega
          refine gk_aload_n G dX2_hourOn_174 1 rfl ?_
          refine gk_get (v' := .ref (q 2)) G hinX2 (q0 := 0) rfl rfl 2 (by decide) k9 rfl rfl dX2_hourOn_175 ?_
          refine gk_iload_n G dX2_hourOn_178 3 rfl ?_
          refine gk_iald (v := nI ((gm_grd (M 16 0 + gm_wnd M) (gm_h1 M) k) 1 k)) G (q0 := 1) (t0 := 0) rfl rfl k rfl (by omega) (by decide) (hsX.2.2.2.2.1 k (by omega)) dX2_hourOn_179 ?_
          refine gk_aload_n G dX2_hourOn_180 1 rfl ?_
          refine gk_get (v' := .ref (q 11)) G hinX2 (q0 := 0) rfl rfl 11 (by decide) k28 rfl rfl dX2_hourOn_181 ?_
          refine gk_iload_n G dX2_hourOn_184 3 rfl ?_
          refine gk_iald (v := nI ((gm_h1 M) 3 k)) G (q0 := 7) (t0 := 0) rfl rfl k rfl (by omega) (by decide) (hg1 k (by omega)) dX2_hourOn_185 ?_
          refine gk_isub (v := nI ((gm_grd (M 16 0 + gm_wnd M) (gm_h1 M) k) 1 k - (gm_grd (M 16 0 + gm_wnd M) (gm_h1 M) k) 3 k)) G dX2_hourOn_186 (by rw [← e3x]; exact pk_sub (by omega)) ?_
          refine gk_aload_n G dX2_hourOn_187 1 rfl ?_
          refine gk_get (v' := .ref (q 9)) G hinX2 (q0 := 0) rfl rfl 9 (by decide) k22 rfl rfl dX2_hourOn_188 ?_
          refine gk_iconst (v := nI 3) G dX2_hourOn_191 (by decide) ?_
          refine gk_iload_n G dX2_hourOn_192 0 rfl ?_
          refine gk_iadd (v := nI 3 + gm_e (gm_who (gm_grd (M 16 0 + gm_wnd M) (gm_h1 M) k) k ((gm_grd (M 16 0 + gm_wnd M) (gm_h1 M) k) 11 0))) G dX2_hourOn_193 rfl ?_
          refine gk_iald (v := nI ((gm_grd (M 16 0 + gm_wnd M) (gm_h1 M) k) 5 (gm_who (gm_grd (M 16 0 + gm_wnd M) (gm_h1 M) k) k ((gm_grd (M 16 0 + gm_wnd M) (gm_h1 M) k) 11 0) - 1))) G (q0 := 5) (t0 := 0) rfl rfl (3 + (gm_who (gm_grd (M 16 0 + gm_wnd M) (gm_h1 M) k) k ((gm_grd (M 16 0 + gm_wnd M) (gm_h1 M) k) 11 0) - 1)) (by rw [gm_e_pred c_168, nI_add]) (by omega) (by decide) (w1.2.2.2.1 (gm_who (gm_grd (M 16 0 + gm_wnd M) (gm_h1 M) k) k ((gm_grd (M 16 0 + gm_wnd M) (gm_h1 M) k) 11 0) - 1) (by omega)) dX2_hourOn_194 ?_
          refine gk_mmin (v := nI (min ((gm_grd (M 16 0 + gm_wnd M) (gm_h1 M) k) 1 k - (gm_grd (M 16 0 + gm_wnd M) (gm_h1 M) k) 3 k) ((gm_grd (M 16 0 + gm_wnd M) (gm_h1 M) k) 5 (gm_who (gm_grd (M 16 0 + gm_wnd M) (gm_h1 M) k) k ((gm_grd (M 16 0 + gm_wnd M) (gm_h1 M) k) 11 0) - 1)))) G (G.2.2.2.2.1 (.methodLink RX2 76 Lib.Math.min.name) (List.mem_cons_of_mem _ (List.mem_append_left _ (List.mem_append_left _ (List.mem_of_getElem? (i := 7) rfl))))) (G.2.2.2.2.1 (.static Lib.Math.min.name) (List.mem_cons_of_mem _ (List.mem_append_left _ (List.mem_append_left _ (List.mem_of_getElem? (i := 8) rfl))))) (G.2.2.2.2.1 (.initialized "java/lang/Math") (List.mem_cons_of_mem _ (List.mem_append_left _ (List.mem_append_left _ (List.mem_of_getElem? (i := 9) rfl))))) (G.2.2.2.2.1 (.code Lib.Math.min.name Lib.Math.min.code 2 (some .int)) (List.mem_cons_of_mem _ (List.mem_append_left _ (List.mem_append_left _ (List.mem_of_getElem? (i := 10) rfl))))) (Nat.le_of_ble_eq_true rfl) (Nat.le_of_ble_eq_true rfl) (Nat.le_of_ble_eq_true rfl) (Nat.le_of_ble_eq_true rfl) (gm_min (by omega) (by omega)) dX2_hourOn_195 ?_
          refine gk_iload_n G dX2_hourOn_198 2 rfl ?_
          refine gk_mmin (v := nI (gm_amt (M 16 0 + gm_wnd M) (gm_grd (M 16 0 + gm_wnd M) (gm_h1 M) k) k (gm_who (gm_grd (M 16 0 + gm_wnd M) (gm_h1 M) k) k ((gm_grd (M 16 0 + gm_wnd M) (gm_h1 M) k) 11 0) - 1))) G (G.2.2.2.2.1 (.methodLink RX2 76 Lib.Math.min.name) (List.mem_cons_of_mem _ (List.mem_append_left _ (List.mem_append_left _ (List.mem_of_getElem? (i := 7) rfl))))) (G.2.2.2.2.1 (.static Lib.Math.min.name) (List.mem_cons_of_mem _ (List.mem_append_left _ (List.mem_append_left _ (List.mem_of_getElem? (i := 8) rfl))))) (G.2.2.2.2.1 (.initialized "java/lang/Math") (List.mem_cons_of_mem _ (List.mem_append_left _ (List.mem_append_left _ (List.mem_of_getElem? (i := 9) rfl))))) (G.2.2.2.2.1 (.code Lib.Math.min.name Lib.Math.min.code 2 (some .int)) (List.mem_cons_of_mem _ (List.mem_append_left _ (List.mem_append_left _ (List.mem_of_getElem? (i := 10) rfl))))) (Nat.le_of_ble_eq_true rfl) (Nat.le_of_ble_eq_true rfl) (Nat.le_of_ble_eq_true rfl) (Nat.le_of_ble_eq_true rfl) ((gm_min (by omega) (by omega)).trans (congrArg nI (by unfold gm_amt; omega))) dX2_hourOn_199 ?_
          refine gk_istore (lv' := [(4, .int (nI (gm_amt (M 16 0 + gm_wnd M) (gm_grd (M 16 0 + gm_wnd M) (gm_h1 M) k) k (gm_who (gm_grd (M 16 0 + gm_wnd M) (gm_h1 M) k) k ((gm_grd (M 16 0 + gm_wnd M) (gm_h1 M) k) 11 0) - 1)))), (3, .int (gm_e (gm_who (gm_grd (M 16 0 + gm_wnd M) (gm_h1 M) k) k ((gm_grd (M 16 0 + gm_wnd M) (gm_h1 M) k) 11 0)))), (0, .ref h), (1, .int (nI ((M 16 0 + gm_wnd M) - (gm_grd (M 16 0 + gm_wnd M) (gm_h1 M) k) 16 0))), (2, .int (nI k))]) G dX2_hourOn_202 (by decide) rfl ?_
          refine gk_aload_n G dX2_hourOn_204 2 rfl ?_
          refine gk_get (v' := .ref (q 9)) G hinX2 (q0 := 0) rfl rfl 9 (by decide) k22 rfl rfl dX2_hourOn_205 ?_
          refine gk_iconst (v := nI 3) G dX2_hourOn_208 (by decide) ?_
          refine gk_iload_n G dX2_hourOn_209 1 rfl ?_
          refine gk_iadd (v := nI 3 + gm_e (gm_who (gm_grd (M 16 0 + gm_wnd M) (gm_h1 M) k) k ((gm_grd (M 16 0 + gm_wnd M) (gm_h1 M) k) 11 0))) G dX2_hourOn_210 rfl ?_
          refine gk_dup2 G dX2_hourOn_211 rfl rfl ?_
          refine gk_iald (v := nI ((gm_grd (M 16 0 + gm_wnd M) (gm_h1 M) k) 5 (gm_who (gm_grd (M 16 0 + gm_wnd M) (gm_h1 M) k) k ((gm_grd (M 16 0 + gm_wnd M) (gm_h1 M) k) 11 0) - 1))) G (q0 := 5) (t0 := 0) rfl rfl (3 + (gm_who (gm_grd (M 16 0 + gm_wnd M) (gm_h1 M) k) k ((gm_grd (M 16 0 + gm_wnd M) (gm_h1 M) k) 11 0) - 1)) (by rw [gm_e_pred c_168, nI_add]) (by omega) (by decide) (w1.2.2.2.1 (gm_who (gm_grd (M 16 0 + gm_wnd M) (gm_h1 M) k) k ((gm_grd (M 16 0 + gm_wnd M) (gm_h1 M) k) 11 0) - 1) (by omega)) dX2_hourOn_212 ?_
          refine gk_iload G dX2_hourOn_213 0 rfl ?_
          refine gk_isub (v := nI ((gm_grd (M 16 0 + gm_wnd M) (gm_h1 M) k) 5 (gm_who (gm_grd (M 16 0 + gm_wnd M) (gm_h1 M) k) k ((gm_grd (M 16 0 + gm_wnd M) (gm_h1 M) k) 11 0) - 1) - gm_amt (M 16 0 + gm_wnd M) (gm_grd (M 16 0 + gm_wnd M) (gm_h1 M) k) k (gm_who (gm_grd (M 16 0 + gm_wnd M) (gm_h1 M) k) k ((gm_grd (M 16 0 + gm_wnd M) (gm_h1 M) k) 11 0) - 1))) G dX2_hourOn_215 (pk_sub hal) ?_
          refine gk_topi (fun v216 ev216 => ?_)
          refine gk_iast (w' := (gd_W cI h q F B (upd f1 (3 + (gm_who (gm_grd (M 16 0 + gm_wnd M) (gm_h1 M) k) k ((gm_grd (M 16 0 + gm_wnd M) (gm_h1 M) k) 11 0) - 1)) v216) kp g1)) G (q0 := 5) (t0 := 0) rfl rfl (3 + (gm_who (gm_grd (M 16 0 + gm_wnd M) (gm_h1 M) k) k ((gm_grd (M 16 0 + gm_wnd M) (gm_h1 M) k) 11 0) - 1)) (by rw [gm_e_pred c_168, nI_add]) (by omega) (by decide) rfl dX2_hourOn_216 ?_
          generalize ef216 : upd f1 (3 + (gm_who (gm_grd (M 16 0 + gm_wnd M) (gm_h1 M) k) k ((gm_grd (M 16 0 + gm_wnd M) (gm_h1 M) k) 11 0) - 1)) v216 = f216
          have hn216 : gr_now f216 (gm_set (gm_grd (M 16 0 + gm_wnd M) (gm_h1 M) k) 5 (gm_who (gm_grd (M 16 0 + gm_wnd M) (gm_h1 M) k) k ((gm_grd (M 16 0 + gm_wnd M) (gm_h1 M) k) 11 0) - 1) ((gm_grd (M 16 0 + gm_wnd M) (gm_h1 M) k) 5 (gm_who (gm_grd (M 16 0 + gm_wnd M) (gm_h1 M) k) k ((gm_grd (M 16 0 + gm_wnd M) (gm_h1 M) k) 11 0) - 1) - gm_amt (M 16 0 + gm_wnd M) (gm_grd (M 16 0 + gm_wnd M) (gm_h1 M) k) k (gm_who (gm_grd (M 16 0 + gm_wnd M) (gm_h1 M) k) k ((gm_grd (M 16 0 + gm_wnd M) (gm_h1 M) k) 11 0) - 1))) := by subst ef216; subst ev216; exact gr_now_5 w1 (by omega) (by omega) rfl
          have e162 : gm_set (gm_grd (M 16 0 + gm_wnd M) (gm_h1 M) k) 5 (gm_who (gm_grd (M 16 0 + gm_wnd M) (gm_h1 M) k) k ((gm_grd (M 16 0 + gm_wnd M) (gm_h1 M) k) 11 0) - 1) ((gm_grd (M 16 0 + gm_wnd M) (gm_h1 M) k) 5 (gm_who (gm_grd (M 16 0 + gm_wnd M) (gm_h1 M) k) k ((gm_grd (M 16 0 + gm_wnd M) (gm_h1 M) k) 11 0) - 1) - gm_amt (M 16 0 + gm_wnd M) (gm_grd (M 16 0 + gm_wnd M) (gm_h1 M) k) k (gm_who (gm_grd (M 16 0 + gm_wnd M) (gm_h1 M) k) k ((gm_grd (M 16 0 + gm_wnd M) (gm_h1 M) k) 11 0) - 1)) 16 0 = (gm_grd (M 16 0 + gm_wnd M) (gm_h1 M) k) 16 0 := gm_set_k _ _ (by decide)
          refine gk_aload_n G dX2_hourOn_217 2 rfl ?_
          refine gk_get (v' := .ref (q 9)) G hinX2 (q0 := 0) rfl rfl 9 (by decide) k22 rfl rfl dX2_hourOn_218 ?_
          refine gk_iconst (v := nI 2) G dX2_hourOn_221 (by decide) ?_
          refine gk_dup2 G dX2_hourOn_222 rfl rfl ?_
          refine gk_iald (v := nI ((gm_grd (M 16 0 + gm_wnd M) (gm_h1 M) k) 16 0)) G (q0 := 5) (t0 := 0) rfl rfl 2 rfl (by omega) (by decide) (hn216.2.2.1.trans (congrArg nI e162)) dX2_hourOn_223 ?_
          refine gk_iload G dX2_hourOn_224 0 rfl ?_
          refine gk_iadd (v := nI (((gm_grd (M 16 0 + gm_wnd M) (gm_h1 M) k) 16 0) + (gm_amt (M 16 0 + gm_wnd M) (gm_grd (M 16 0 + gm_wnd M) (gm_h1 M) k) k (gm_who (gm_grd (M 16 0 + gm_wnd M) (gm_h1 M) k) k ((gm_grd (M 16 0 + gm_wnd M) (gm_h1 M) k) 11 0) - 1)))) G dX2_hourOn_226 (nI_add ((gm_grd (M 16 0 + gm_wnd M) (gm_h1 M) k) 16 0) (gm_amt (M 16 0 + gm_wnd M) (gm_grd (M 16 0 + gm_wnd M) (gm_h1 M) k) k (gm_who (gm_grd (M 16 0 + gm_wnd M) (gm_h1 M) k) k ((gm_grd (M 16 0 + gm_wnd M) (gm_h1 M) k) 11 0) - 1))) ?_
          refine gk_topi (fun v227 ev227 => ?_)
          refine gk_iast (w' := (gd_W cI h q F B (upd f216 2 v227) kp g1)) G (q0 := 5) (t0 := 0) rfl rfl 2 rfl (by omega) (by decide) rfl dX2_hourOn_227 ?_
          generalize ef227 : upd f216 2 v227 = f227
          refine gk_iload_n G dX2_hourOn_228 3 rfl ?_
          refine gk_iload G dX2_hourOn_229 0 rfl ?_
          refine gk_isub (v := nI ((M 16 0 + gm_wnd M) - (gm_grd (M 16 0 + gm_wnd M) (gm_h1 M) k) 16 0 - gm_amt (M 16 0 + gm_wnd M) (gm_grd (M 16 0 + gm_wnd M) (gm_h1 M) k) k (gm_who (gm_grd (M 16 0 + gm_wnd M) (gm_h1 M) k) k ((gm_grd (M 16 0 + gm_wnd M) (gm_h1 M) k) 11 0) - 1))) G dX2_hourOn_231 (pk_sub hal2) ?_
          refine gk_istore_n (lv' := [(1, .int (nI ((M 16 0 + gm_wnd M) - (gm_grd (M 16 0 + gm_wnd M) (gm_h1 M) k) 16 0 - gm_amt (M 16 0 + gm_wnd M) (gm_grd (M 16 0 + gm_wnd M) (gm_h1 M) k) k (gm_who (gm_grd (M 16 0 + gm_wnd M) (gm_h1 M) k) k ((gm_grd (M 16 0 + gm_wnd M) (gm_h1 M) k) 11 0) - 1)))), (4, .int (nI (gm_amt (M 16 0 + gm_wnd M) (gm_grd (M 16 0 + gm_wnd M) (gm_h1 M) k) k (gm_who (gm_grd (M 16 0 + gm_wnd M) (gm_h1 M) k) k ((gm_grd (M 16 0 + gm_wnd M) (gm_h1 M) k) 11 0) - 1)))), (3, .int (gm_e (gm_who (gm_grd (M 16 0 + gm_wnd M) (gm_h1 M) k) k ((gm_grd (M 16 0 + gm_wnd M) (gm_h1 M) k) 11 0)))), (0, .ref h), (2, .int (nI k))]) G dX2_hourOn_232 rfl (by decide) rfl ?_
          refine gk_iinc (j := 4) (v := nI (k + 1)) (lv' := [(2, .int (nI (k + 1))), (1, .int (nI ((M 16 0 + gm_wnd M) - (gm_grd (M 16 0 + gm_wnd M) (gm_h1 M) k) 16 0 - gm_amt (M 16 0 + gm_wnd M) (gm_grd (M 16 0 + gm_wnd M) (gm_h1 M) k) k (gm_who (gm_grd (M 16 0 + gm_wnd M) (gm_h1 M) k) k ((gm_grd (M 16 0 + gm_wnd M) (gm_h1 M) k) 11 0) - 1)))), (4, .int (nI (gm_amt (M 16 0 + gm_wnd M) (gm_grd (M 16 0 + gm_wnd M) (gm_h1 M) k) k (gm_who (gm_grd (M 16 0 + gm_wnd M) (gm_h1 M) k) k ((gm_grd (M 16 0 + gm_wnd M) (gm_h1 M) k) 11 0) - 1)))), (3, .int (gm_e (gm_who (gm_grd (M 16 0 + gm_wnd M) (gm_h1 M) k) k ((gm_grd (M 16 0 + gm_wnd M) (gm_h1 M) k) 11 0)))), (0, .ref h)]) G dX2_hourOn_233 rfl (nI_add k 1) (by decide) rfl ?_
          refine gk_goto (tgt := 152) G dX2_hourOn_236 (by decide) ?_
          have ge : gm_grd (M 16 0 + gm_wnd M) (gm_h1 M) (k + 1) = gm_les (gm_grd (M 16 0 + gm_wnd M) (gm_h1 M) k) (gm_who (gm_grd (M 16 0 + gm_wnd M) (gm_h1 M) k) k ((gm_grd (M 16 0 + gm_wnd M) (gm_h1 M) k) 11 0) - 1) (gm_amt (M 16 0 + gm_wnd M) (gm_grd (M 16 0 + gm_wnd M) (gm_h1 M) k) k (gm_who (gm_grd (M 16 0 + gm_wnd M) (gm_h1 M) k) k ((gm_grd (M 16 0 + gm_wnd M) (gm_h1 M) k) 11 0) - 1)) := gm_gs_1 c_168
          have r9 : gr_now f227 (gm_grd (M 16 0 + gm_wnd M) (gm_h1 M) (k + 1)) := by
            rw [ge]; subst ef227; subst ev227
            exact gr_now_16 hn216 (by rw [gm_set_k _ _ (by decide)]; omega) rfl
          have v9 : (M 16 0 + gm_wnd M) - gm_grd (M 16 0 + gm_wnd M) (gm_h1 M) (k + 1) 16 0 = (M 16 0 + gm_wnd M) - (gm_grd (M 16 0 + gm_wnd M) (gm_h1 M) k) 16 0 - gm_amt (M 16 0 + gm_wnd M) (gm_grd (M 16 0 + gm_wnd M) (gm_h1 M) k) k (gm_who (gm_grd (M 16 0 + gm_wnd M) (gm_h1 M) k) k ((gm_grd (M 16 0 + gm_wnd M) (gm_h1 M) k) 11 0) - 1) := by rw [ge, gm_les_16]; omega
          have t9 := ih (k + 1) _ (by omega) (by omega) r9
          rw [v9] at t9
          exact gk_lsub [4,1,0] rfl t9
        · replace c_168 := (gm_e_none (a := gm_who (gm_grd (M 16 0 + gm_wnd M) (gm_h1 M) k) k ((gm_grd (M 16 0 + gm_wnd M) (gm_h1 M) k) 11 0)) (by omega)).mp c_168
          refine gk_goto (tgt := 233) G dX2_hourOn_171 (by decide) ?_
          refine gk_iinc (j := 3) (v := nI (k + 1)) (lv' := [(2, .int (nI (k + 1))), (3, .int (gm_e (gm_who (gm_grd (M 16 0 + gm_wnd M) (gm_h1 M) k) k ((gm_grd (M 16 0 + gm_wnd M) (gm_h1 M) k) 11 0)))), (0, .ref h), (1, .int (nI ((M 16 0 + gm_wnd M) - (gm_grd (M 16 0 + gm_wnd M) (gm_h1 M) k) 16 0)))]) G dX2_hourOn_233 rfl (nI_add k 1) (by decide) rfl ?_
          refine gk_goto (tgt := 152) G dX2_hourOn_236 (by decide) ?_
          have ge : gm_grd (M 16 0 + gm_wnd M) (gm_h1 M) (k + 1) = (gm_grd (M 16 0 + gm_wnd M) (gm_h1 M) k) := gm_gs_0 (by first | exact c_168 | exact Decidable.not_not.mp c_168)
          have t9 := ih (k + 1) f1 (by omega) (by omega) (by rw [ge]; exact w1)
          rw [ge] at t9
          exact gk_lsub [2,3,0] rfl t9
  have J135 : ∀ (f3 g3 : Nat → Int32), gr_now f3 (gm_h1 M) → (∀ i, i < M 10 0 → g3 i = nI ((gm_h1 M) 3 i)) → gk_C p l e ({ frames := 2, cells := 0, slots := 0, locals := 44 } : Room) s m ([.ref h] : List Value).toArray below meth c 5 D A Q 0 0 (gd_W cI h q F B f3 kp g3) [(0, .ref h)] 135 [] := by
    intro f3 g3 hn1 hg3
    refine gk_aload_n G dX2_hourOn_135 0 rfl ?_
    refine gk_get (v' := .ref (q 3)) G hinX2 (q0 := 0) rfl rfl 3 (by decide) k13 rfl rfl dX2_hourOn_136 ?_
    refine gk_aload_n G dX2_hourOn_139 0 rfl ?_
    refine gk_get (v' := .ref (q 9)) G hinX2 (q0 := 0) rfl rfl 9 (by decide) k22 rfl rfl dX2_hourOn_140 ?_
    refine gk_iconst (v := nI 0) G dX2_hourOn_143 (by decide) ?_
    refine gk_iald (v := nI ((gm_h1 M) 9 0)) G (q0 := 5) (t0 := 0) rfl rfl 0 rfl (by omega) (by decide) hn1.1 dX2_hourOn_144 ?_
    refine gk_bipush (v := nI 12) G dX2_hourOn_145 (by decide) ?_
    refine gk_irem (v := nI (M 9 0 % 12)) G dX2_hourOn_147 (fun q => by rw [gm_0 (by decide)] at q; omega) (by rw [h19]; exact pk_rem (by omega) (by decide) (by decide)) ?_
    refine gk_iald (v := nI (gm_wnd M)) G (q0 := 2) (t0 := 0) rfl rfl (M 9 0 % 12) rfl (Nat.mod_lt _ (by decide)) (by decide) (hs.2.2.2.2.2.1 _ (Nat.mod_lt _ (by decide))) dX2_hourOn_148 ?_
    refine gk_istore_n (lv' := [(1, .int (nI (gm_wnd M))), (0, .ref h)]) G dX2_hourOn_149 rfl (by decide) rfl ?_
    refine gk_iconst (v := nI 0) G dX2_hourOn_150 (by decide) ?_
    refine gk_istore_n (lv' := [(2, .int (nI 0)), (1, .int (nI (gm_wnd M))), (0, .ref h)]) G dX2_hourOn_151 rfl (by decide) rfl ?_
    have t9 := L152 g3 hg3 (fun i hi => gm_fil_3 _ _ i hi) (M 10 0 + 1) 0 f3 (by omega) (by omega) hn1
    rw [show (M 16 0 + gm_wnd M) - gm_grd (M 16 0 + gm_wnd M) (gm_h1 M) 0 16 0 = gm_wnd M by show (M 16 0 + gm_wnd M) - (gm_h1 M) 16 0 = gm_wnd M; omega] at t9
    exact gk_lsub [2,1,0] rfl t9
  have L60 : ∀ (n : Nat) (k : Nat) (f1 : Nat → Int32) (g1 : Nat → Int32), M 10 0 - k < n → (k ≤ M 10 0) → (gr_now f1 (gm_fil (gm_tk M) k)) → (∀ i, i < k → g1 i = nI ((gm_fil (gm_tk M) k) 3 i)) → gk_C p l e ({ frames := 2, cells := 0, slots := 0, locals := 44 } : Room) s m ([.ref h] : List Value).toArray below meth c 5 D A Q 0 0 (gd_W cI h q F B f1 kp g1) [(0, .ref h), (1, .int (nI k))] 60 [] := by
    intro n
    induction n with
    | zero => intro k f1 g1 h0; exact absurd h0 (Nat.not_lt_zero _)
    | succ n ih =>
      intro k f1 g1 h0 w0 w1 w2
      have hsX : gr_st F B (gm_fil (gm_tk M) k) := gr_st_eq hsY (fun k i h3 h5 h7 h8 h9 h13 h16 => gm_fil_ne _ i h3 h7 h13 _)
      have wfX := gm_fil_wf (gm_tk_wf wf) k (by rw [gm_tk_ne _ _ (by decide)]; exact w0)
      have e9x : (gm_fil (gm_tk M) k) 9 0 = M 9 0 := (gm_fil_ne _ 0 (by decide) (by decide) (by decide) k).trans (gm_tk_ne M 0 (by decide))
      have e10x : (gm_fil (gm_tk M) k) 10 0 = M 10 0 := (gm_fil_ne _ 0 (by decide) (by decide) (by decide) k).trans (gm_tk_ne M 0 (by decide))
      have e11x : (gm_fil (gm_tk M) k) 11 0 = M 11 0 := (gm_fil_ne _ 0 (by decide) (by decide) (by decide) k).trans (gm_tk_ne M 0 (by decide))
      have hwl := gm_who_le (gm_fil (gm_tk M) k) k ((gm_fil (gm_tk M) k) 11 0)
      have hnl := gm_nxt_le (gm_fil (gm_tk M) k) 1 ((gm_fil (gm_tk M) k) 11 0)
      refine gk_iload_n G dX2_hourOn_60 1 rfl ?_
      refine gk_aload_n G dX2_hourOn_61 0 rfl ?_
      refine gk_get (v' := .int (nI ((gm_fil (gm_tk M) k) 10 0))) G hinX2 (q0 := 0) rfl rfl 1 (by decide) k35 rfl (congrArg Value.int (hsX.1)) dX2_hourOn_62 ?_
      refine gk_icmp_ge (tgt := 135) G dX2_hourOn_65 (by decide) (fun c_65 => ?_) (fun c_65 => ?_)
      · replace c_65 := (nI_leI (a := (gm_fil (gm_tk M) k) 10 0) (b := k) (by omega) (by omega)).mp c_65
        have hk : gm_fil (gm_tk M) k = (gm_h1 M) := by unfold gm_h1; rw [show M 10 0 = k by omega]
        rw [hk] at w1 w2
        exact gk_lsub [0] rfl (J135 f1 g1 w1 (fun i hi => w2 i (by omega)))
      · replace c_65 := (not_congr (nI_leI (a := (gm_fil (gm_tk M) k) 10 0) (b := k) (by omega) (by omega))).mp c_65
        have J93 : ∀ (g2 : Nat → Int32) (z : Nat), (∀ i, g2 i = if i = k then nI 0 else g1 i) → z ≤ (gm_fil (gm_tk M) k) 11 0 → ((gm_who (gm_fil (gm_tk M) k) k ((gm_fil (gm_tk M) k) 11 0) ≠ 0 → z = 0) ∧ (gm_who (gm_fil (gm_tk M) k) k ((gm_fil (gm_tk M) k) 11 0) = 0 → z = gm_nxt (gm_fil (gm_tk M) k) 1 ((gm_fil (gm_tk M) k) 11 0))) → gk_C p l e ({ frames := 2, cells := 0, slots := 0, locals := 44 } : Room) s m ([.ref h] : List Value).toArray below meth c 5 D A Q 0 0 (gd_W cI h q F B f1 kp g2) [(0, .ref h), (1, .int (nI k))] 93 [.int (gm_e z)] := by
          intro g2 z hg2 hzl hz
          refine gk_istore_n (lv' := [(2, .int (gm_e z)), (0, .ref h), (1, .int (nI k))]) G dX2_hourOn_93 rfl (by decide) rfl ?_
          refine gk_iload_n G dX2_hourOn_94 0 rfl ?_
          refine gk_iconst (v := -1) G dX2_hourOn_95 (by decide) ?_
          refine gk_icmp_ne (tgt := 102) G dX2_hourOn_96 (by decide) (fun c_96 => ?_) (fun c_96 => ?_)
          · replace c_96 := (not_congr (gm_e_none (a := z) (by omega))).mp c_96
            refine gk_aload_n G dX2_hourOn_102 1 rfl ?_
            refine gk_get (v' := .ref (q 9)) G hinX2 (q0 := 0) rfl rfl 9 (by decide) k22 rfl rfl dX2_hourOn_103 ?_
            refine gk_bipush (v := nI 35) G dX2_hourOn_106 (by decide) ?_
            refine gk_iload_n G dX2_hourOn_108 0 rfl ?_
            refine gk_iadd (v := nI 35 + gm_e z) G dX2_hourOn_109 rfl ?_
            refine gk_iload_n G dX2_hourOn_110 2 rfl ?_
            refine gk_topi (fun v111 ev111 => ?_)
            refine gk_iast (w' := (gd_W cI h q F B (upd f1 (35 + (z - 1)) v111) kp g2)) G (q0 := 5) (t0 := 0) rfl rfl (35 + (z - 1)) (by rw [gm_e_pred c_96, nI_add]) (by omega) (by decide) rfl dX2_hourOn_111 ?_
            generalize ef111 : upd f1 (35 + (z - 1)) v111 = f111
            have hn111 : gr_now f111 (gm_set (gm_fil (gm_tk M) k) 7 (z - 1) (k + 1)) := by subst ef111; subst ev111; exact gr_now_7 w1 (by omega) (by omega) (gm_eS k).symm
            have e131 : gm_set (gm_fil (gm_tk M) k) 7 (z - 1) (k + 1) 13 0 = (gm_fil (gm_tk M) k) 13 0 := gm_set_k _ _ (by decide)
            refine gk_aload_n G dX2_hourOn_112 1 rfl ?_
            refine gk_get (v' := .ref (q 9)) G hinX2 (q0 := 0) rfl rfl 9 (by decide) k22 rfl rfl dX2_hourOn_113 ?_
            refine gk_iconst (v := nI 1) G dX2_hourOn_116 (by decide) ?_
            refine gk_dup2 G dX2_hourOn_117 rfl rfl ?_
            refine gk_iald (v := nI ((gm_fil (gm_tk M) k) 13 0)) G (q0 := 5) (t0 := 0) rfl rfl 1 rfl (by omega) (by decide) (hn111.2.1.trans (congrArg nI e131)) dX2_hourOn_118 ?_
            refine gk_iconst (v := nI 1) G dX2_hourOn_119 (by decide) ?_
            refine gk_iadd (v := nI (((gm_fil (gm_tk M) k) 13 0) + 1)) G dX2_hourOn_120 (nI_add ((gm_fil (gm_tk M) k) 13 0) 1) ?_
            refine gk_topi (fun v121 ev121 => ?_)
            refine gk_iast (w' := (gd_W cI h q F B (upd f111 1 v121) kp g2)) G (q0 := 5) (t0 := 0) rfl rfl 1 rfl (by omega) (by decide) rfl dX2_hourOn_121 ?_
            generalize ef121 : upd f111 1 v121 = f121
            refine gk_aload_n G dX2_hourOn_122 1 rfl ?_
            refine gk_get (v' := .ref (q 11)) G hinX2 (q0 := 0) rfl rfl 11 (by decide) k28 rfl rfl dX2_hourOn_123 ?_
            refine gk_iload_n G dX2_hourOn_126 2 rfl ?_
            refine gk_iconst (v := nI 1) G dX2_hourOn_127 (by decide) ?_
            refine gk_topi (fun v128 ev128 => ?_)
            refine gk_iast (w' := (gd_W cI h q F B f121 kp (upd g2 k v128))) G (q0 := 7) (t0 := 0) rfl rfl k rfl (by omega) (by decide) rfl dX2_hourOn_128 ?_
            generalize eg128 : upd g2 k v128 = g128
            refine gk_iinc (j := 2) (v := nI (k + 1)) (lv' := [(1, .int (nI (k + 1))), (2, .int (gm_e z)), (0, .ref h)]) G dX2_hourOn_129 rfl (nI_add k 1) (by decide) rfl ?_
            refine gk_goto (tgt := 60) G dX2_hourOn_132 (by decide) ?_
            have zw : gm_who (gm_fil (gm_tk M) k) k ((gm_fil (gm_tk M) k) 11 0) = 0 := by
              by_cases h9 : gm_who (gm_fil (gm_tk M) k) k ((gm_fil (gm_tk M) k) 11 0) = 0
              · exact h9
              · exact absurd (hz.1 h9) c_96
            have zn : z = gm_nxt (gm_fil (gm_tk M) k) 1 ((gm_fil (gm_tk M) k) 11 0) := hz.2 zw
            have fe : gm_fil (gm_tk M) (k + 1) = gm_set (gm_put (gm_fil (gm_tk M) k) k (z - 1)) 3 k 1 := by rw [zn]; exact gm_fs_2 zw (zn ▸ c_96)
            have r9 : gr_now f121 (gm_fil (gm_tk M) (k + 1)) := by
              rw [fe]; subst ef121; subst ev121
              exact gr_now_same (gr_now_13 hn111 (by rw [gm_set_k _ _ (by decide)]; omega) rfl) (gm_same_set3 _ _ _)
            have f9 : ∀ i, i < k + 1 → g128 i = nI (gm_fil (gm_tk M) (k + 1) 3 i) := fun i hi => by
              rw [fe]; subst eg128; subst ev128
              by_cases hik : i = k
              · rw [hik, pk_us, gm_set_at]
              · rw [pk_un hik, gm_set_i _ _ hik, gm_put_ne _ _ _ _ (by decide) (by decide), hg2 i, if_neg hik]; exact w2 i (by omega)
            exact gk_lsub [2,0] rfl (ih (k + 1) _ _ (by omega) (by omega) r9 f9)
          · replace c_96 := (gm_e_none (a := z) (by omega)).mp c_96
            refine gk_goto (tgt := 129) G dX2_hourOn_99 (by decide) ?_
            refine gk_iinc (j := 2) (v := nI (k + 1)) (lv' := [(1, .int (nI (k + 1))), (2, .int (gm_e z)), (0, .ref h)]) G dX2_hourOn_129 rfl (nI_add k 1) (by decide) rfl ?_
            refine gk_goto (tgt := 60) G dX2_hourOn_132 (by decide) ?_
            have fe : gm_fil (gm_tk M) (k + 1) = gm_set (gm_fil (gm_tk M) k) 3 k 0 := by
              show gm_fs (gm_fil (gm_tk M) k) k = _
              by_cases h9 : gm_who (gm_fil (gm_tk M) k) k ((gm_fil (gm_tk M) k) 11 0) = 0
              · exact gm_fs_1 h9 (by rw [← hz.2 h9]; first | exact c_96 | exact Decidable.not_not.mp c_96)
              · exact gm_fs_0 h9
            have r9 : gr_now f1 (gm_fil (gm_tk M) (k + 1)) := by rw [fe]; exact gr_now_same w1 (gm_same_set3 _ _ _)
            have f9 : ∀ i, i < k + 1 → g2 i = nI (gm_fil (gm_tk M) (k + 1) 3 i) := fun i hi => by
              rw [fe, hg2 i]
              by_cases hik : i = k
              · rw [if_pos hik, hik, gm_set_at]
              · rw [if_neg hik, gm_set_i _ _ hik]; exact w2 i (by omega)
            exact gk_lsub [2,0] rfl (ih (k + 1) _ _ (by omega) (by omega) r9 f9)
        refine gk_aload_n G dX2_hourOn_68 0 rfl ?_
        refine gk_get (v' := .ref (q 11)) G hinX2 (q0 := 0) rfl rfl 11 (by decide) k28 rfl rfl dX2_hourOn_69 ?_
        refine gk_iload_n G dX2_hourOn_72 1 rfl ?_
        refine gk_iconst (v := nI 0) G dX2_hourOn_73 (by decide) ?_
        refine gk_topi (fun v74 ev74 => ?_)
        refine gk_iast (w' := (gd_W cI h q F B f1 kp (upd g1 k v74))) G (q0 := 7) (t0 := 0) rfl rfl k rfl (by omega) (by decide) rfl dX2_hourOn_74 ?_
        generalize eg74 : upd g1 k v74 = g74
        refine gk_aload_n G dX2_hourOn_75 0 rfl ?_
        refine gk_iload_n G dX2_hourOn_76 1 rfl ?_
        refine gk_callIV (wr := []) G (c2_on l D cI cZ cJ h q F B f1 kp g74 (gm_fil (gm_tk M) k) k wfX hsX w1 (by omega)) gX2_hourOn_X2_on rfl 1 (by decide +kernel) rfl rfl ⟨(Nat.le_of_ble_eq_true rfl), (Nat.le_of_ble_eq_true rfl)⟩ rfl (q0 := 0) rfl (T := TX2) (N := 12) rfl gk_ok0 trivial [0, 1, 2, 3, 4, 5, 6, 7] rfl (by decide) [] rfl (by decide) (by decide) rfl (Nat.le_of_ble_eq_true rfl) dX2_hourOn_77 ⟨(Nat.le_of_ble_eq_true rfl), (Nat.le_of_ble_eq_true rfl)⟩ (fun r77 u77 hp77 => ?_)
        obtain rfl : r77 = gm_e (gm_who (gm_fil (gm_tk M) k) k ((gm_fil (gm_tk M) k) 11 0)) := hp77
        show gk_C p l e ({ frames := 2, cells := 0, slots := 0, locals := 44 } : Room) s m ([.ref h] : List Value).toArray below meth c 5 D A Q 0 0 (gd_W cI h q F B f1 kp g74) [(0, .ref h), (1, .int (nI k))] 80 [.int (gm_e (gm_who (gm_fil (gm_tk M) k) k ((gm_fil (gm_tk M) k) 11 0)))]
        refine gk_iconst (v := -1) G dX2_hourOn_80 (by decide) ?_
        refine gk_icmp_ne (tgt := 92) G dX2_hourOn_81 (by decide) (fun c_81 => ?_) (fun c_81 => ?_)
        · replace c_81 := (not_congr (gm_e_none (a := gm_who (gm_fil (gm_tk M) k) k ((gm_fil (gm_tk M) k) 11 0)) (by omega))).mp c_81
          refine gk_iconst (v := -1) G dX2_hourOn_92 (by decide) ?_
          have t9 := J93 g74 0 (fun i => by rw [← eg74, ev74]; rfl) (by omega) ⟨fun _ => rfl, fun q => absurd q (by first | exact c_81 | exact fun z => c_81 z)⟩
          rw [gm_e0] at t9
          exact gk_lsub [0,1] rfl t9
        · replace c_81 := (gm_e_none (a := gm_who (gm_fil (gm_tk M) k) k ((gm_fil (gm_tk M) k) 11 0)) (by omega)).mp c_81
          refine gk_aload_n G dX2_hourOn_84 0 rfl ?_
          refine gk_iconst (v := nI 1) G dX2_hourOn_85 (by decide) ?_
          refine gk_callIV (wr := []) G (c2_next l D cI cZ cJ h q F B f1 kp g74 (gm_fil (gm_tk M) k) 1 wfX hsX w1 (by omega) (by omega)) gX2_hourOn_X2_next rfl 1 (by decide +kernel) rfl rfl ⟨(Nat.le_of_ble_eq_true rfl), (Nat.le_of_ble_eq_true rfl)⟩ rfl (q0 := 0) rfl (T := TX2) (N := 12) rfl gk_ok0 trivial [0, 1, 2, 3, 4, 5, 6, 7] rfl (by decide) [] rfl (by decide) (by decide) rfl (Nat.le_of_ble_eq_true rfl) dX2_hourOn_86 ⟨(Nat.le_of_ble_eq_true rfl), (Nat.le_of_ble_eq_true rfl)⟩ (fun r86 u86 hp86 => ?_)
          obtain rfl : r86 = gm_e (gm_nxt (gm_fil (gm_tk M) k) 1 ((gm_fil (gm_tk M) k) 11 0)) := hp86
          show gk_C p l e ({ frames := 2, cells := 0, slots := 0, locals := 44 } : Room) s m ([.ref h] : List Value).toArray below meth c 5 D A Q 0 0 (gd_W cI h q F B f1 kp g74) [(0, .ref h), (1, .int (nI k))] 89 [.int (gm_e (gm_nxt (gm_fil (gm_tk M) k) 1 ((gm_fil (gm_tk M) k) 11 0)))]
          refine gk_goto (tgt := 93) G dX2_hourOn_89 (by decide) ?_
          exact gk_lsub [0,1] rfl (J93 g74 (gm_nxt (gm_fil (gm_tk M) k) 1 ((gm_fil (gm_tk M) k) 11 0)) (fun i => by rw [← eg74, ev74]; rfl) (by omega) ⟨fun q => absurd c_81 q, fun _ => rfl⟩)
  have J58 : ∀ (f2 : Nat → Int32), gr_now f2 (gm_tk M) → gk_C p l e ({ frames := 2, cells := 0, slots := 0, locals := 44 } : Room) s m ([.ref h] : List Value).toArray below meth c 5 D A Q 0 0 (gd_W cI h q F B f2 kp g) [(0, .ref h)] 58 [] := by
    intro f2 hn2
    refine gk_iconst (v := nI 0) G dX2_hourOn_58 (by decide) ?_
    refine gk_istore_n (lv' := [(1, .int (nI 0)), (0, .ref h)]) G dX2_hourOn_59 rfl (by decide) rfl ?_
    exact gk_lsub [1,0] rfl (L60 (M 10 0 + 1) 0 f2 g (by omega) (by omega) hn2 (fun i hi => absurd hi (Nat.not_lt_zero i)))
  by_cases hoff : M 15 0 = 0
  · refine gk_iconst (v := nI 0) G dX2_hourOn_0 (by decide) ?_
    refine gk_istore_n (lv' := [(1, .int (nI 0)), (0, .ref h)]) G dX2_hourOn_1 rfl (by decide) rfl ?_
    refine gk_iload_n G dX2_hourOn_2 0 rfl ?_
    refine gk_aload_n G dX2_hourOn_3 1 rfl ?_
    refine gk_get (v' := .int (nI (M 11 0))) G hinX2 (q0 := 0) rfl rfl 6 (by decide) k42 rfl (congrArg Value.int (hs.2.2.2.1)) dX2_hourOn_4 ?_
    refine gk_icmp_ge (tgt := 58) G dX2_hourOn_7 (by decide) (fun c_7 => ?_) (fun c_7 => ?_)
    · replace c_7 := (nI_leI (a := M 11 0) (b := 0) (by omega) (by omega)).mp c_7
      exact gk_lsub [1] rfl (J58 f (by rw [show gm_tk M = M from if_pos hoff]; exact hn))
    · replace c_7 := (not_congr (nI_leI (a := M 11 0) (b := 0) (by omega) (by omega))).mp c_7
      refine gk_aload_n G dX2_hourOn_10 1 rfl ?_
      refine gk_get (v' := .int (nI (M 15 0))) G hinX2 (q0 := 0) rfl rfl 5 (by decide) k62 rfl (congrArg Value.int (hs.2.2.1)) dX2_hourOn_11 ?_
      refine gk_if_eq (tgt := 58) G dX2_hourOn_14 (by decide) (fun c_14 => ?_) (fun c_14 => ?_)
      · replace c_14 := (nI_eq (a := M 15 0) (b := 0) (by omega) (by omega)).mp c_14
        exact gk_lsub [1] rfl (J58 f (by rw [show gm_tk M = M from if_pos hoff]; exact hn))
      · replace c_14 := (not_congr (nI_eq (a := M 15 0) (b := 0) (by omega) (by omega))).mp c_14
        exact absurd hoff c_14
  · have L2 : ∀ (n : Nat) (k : Nat) (f1 : Nat → Int32), M 11 0 - k < n → (k ≤ M 11 0) → (gr_now f1 (gm_tkp M k)) → gk_C p l e ({ frames := 2, cells := 0, slots := 0, locals := 44 } : Room) s m ([.ref h] : List Value).toArray below meth c 5 D A Q 0 0 (gd_W cI h q F B f1 kp g) [(0, .ref h), (1, .int (nI k))] 2 [] := by
      intro n
      induction n with
      | zero => intro k f1 h0; exact absurd h0 (Nat.not_lt_zero _)
      | succ n ih =>
        intro k f1 h0 w0 w1
        have hsX : gr_st F B (gm_tkp M k) := gr_st_eq hs (fun k i h3 h5 h7 h8 h9 h13 h16 => gm_tkp_ne M _ i h7)
        have wfX := gm_tkp_wf k wf
        have e9x : (gm_tkp M k) 9 0 = M 9 0 := gm_tkp_ne M _ 0 (by decide)
        have e10x : (gm_tkp M k) 10 0 = M 10 0 := gm_tkp_ne M _ 0 (by decide)
        have e11x : (gm_tkp M k) 11 0 = M 11 0 := gm_tkp_ne M _ 0 (by decide)
        have e15x : (gm_tkp M k) 15 0 = M 15 0 := gm_tkp_ne M _ 0 (by decide)
        have x7 : gm_tkp M k 7 k = M 7 k := by rw [gm_tkp_7, if_neg (by omega)]
        have xc : gm_cnt (gm_tkp M k) k ((gm_tkp M k) 11 0) = gm_cnt M k (M 11 0) := by rw [gm_tkp_cnt, e11x]
        have hcl := gm_cnt_le M k (M 11 0)
        refine gk_iload_n G dX2_hourOn_2 1 rfl ?_
        refine gk_aload_n G dX2_hourOn_3 0 rfl ?_
        refine gk_get (v' := .int (nI ((gm_tkp M k) 11 0))) G hinX2 (q0 := 0) rfl rfl 6 (by decide) k42 rfl (congrArg Value.int (hsX.2.2.2.1)) dX2_hourOn_4 ?_
        refine gk_icmp_ge (tgt := 58) G dX2_hourOn_7 (by decide) (fun c_7 => ?_) (fun c_7 => ?_)
        · replace c_7 := (nI_leI (a := (gm_tkp M k) 11 0) (b := k) (by omega) (by omega)).mp c_7
          exact gk_lsub [0] rfl (J58 f1 (by rw [show gm_tk M = gm_tkp M k by unfold gm_tk; rw [if_neg hoff, show M 11 0 = k by omega]]; exact w1))
        · replace c_7 := (not_congr (nI_leI (a := (gm_tkp M k) 11 0) (b := k) (by omega) (by omega))).mp c_7
          have hX7 := wfX.2.2.2.2.2.2.1 k (by omega)
          refine gk_aload_n G dX2_hourOn_10 0 rfl ?_
          refine gk_get (v' := .int (nI ((gm_tkp M k) 15 0))) G hinX2 (q0 := 0) rfl rfl 5 (by decide) k62 rfl (congrArg Value.int (hsX.2.2.1)) dX2_hourOn_11 ?_
          refine gk_if_eq (tgt := 58) G dX2_hourOn_14 (by decide) (fun c_14 => ?_) (fun c_14 => ?_)
          · replace c_14 := (nI_eq (a := (gm_tkp M k) 15 0) (b := 0) (by omega) (by omega)).mp c_14
            exact absurd (e15x ▸ c_14) hoff
          · replace c_14 := (not_congr (nI_eq (a := (gm_tkp M k) 15 0) (b := 0) (by omega) (by omega))).mp c_14
            refine gk_aload_n G dX2_hourOn_17 0 rfl ?_
            refine gk_get (v' := .ref (q 9)) G hinX2 (q0 := 0) rfl rfl 9 (by decide) k22 rfl rfl dX2_hourOn_18 ?_
            refine gk_bipush (v := nI 35) G dX2_hourOn_21 (by decide) ?_
            refine gk_iload_n G dX2_hourOn_23 1 rfl ?_
            refine gk_iadd (v := nI (35 + k)) G dX2_hourOn_24 (nI_add 35 k) ?_
            refine gk_iald (v := gm_e ((gm_tkp M k) 7 k)) G (q0 := 5) (t0 := 0) rfl rfl (35 + k) rfl (by omega) (by decide) (w1.2.2.2.2.2 k (by omega)) dX2_hourOn_25 ?_
            refine gk_iconst (v := -1) G dX2_hourOn_26 (by decide) ?_
            refine gk_icmp_eq (tgt := 52) G dX2_hourOn_27 (by decide) (fun c_27 => ?_) (fun c_27 => ?_)
            · replace c_27 := (gm_e_none (a := (gm_tkp M k) 7 k) (by omega)).mp c_27
              refine gk_iinc (j := 1) (v := nI (k + 1)) (lv' := [(1, .int (nI (k + 1))), (0, .ref h)]) G dX2_hourOn_52 rfl (nI_add k 1) (by decide) rfl ?_
              refine gk_goto (tgt := 2) G dX2_hourOn_55 (by decide) ?_
              have r9 : gr_now f1 (gm_tkp M (k + 1)) := by rw [gm_tkp_skip (by first | (left; omega) | (right; omega))]; exact w1
              exact gk_lsub [1,0] rfl (ih (k + 1) _ (by omega) (by omega) r9)
            · replace c_27 := (not_congr (gm_e_none (a := (gm_tkp M k) 7 k) (by omega))).mp c_27
              refine gk_aload_n G dX2_hourOn_30 0 rfl ?_
              refine gk_iload_n G dX2_hourOn_31 1 rfl ?_
              refine gk_callIV (wr := []) G (c2_ahead l D cI cZ cJ h q F B f1 kp g (gm_tkp M k) k wfX hsX w1 (by omega) (by omega)) gX2_hourOn_X2_ahead rfl 1 (by decide +kernel) rfl rfl ⟨(Nat.le_of_ble_eq_true rfl), (Nat.le_of_ble_eq_true rfl)⟩ rfl (q0 := 0) rfl (T := TX2) (N := 12) rfl gk_ok0 trivial [0, 1, 2, 3, 4, 5, 6, 7] rfl (by decide) [] rfl (by decide) (by decide) rfl (Nat.le_of_ble_eq_true rfl) dX2_hourOn_32 ⟨(Nat.le_of_ble_eq_true rfl), (Nat.le_of_ble_eq_true rfl)⟩ (fun r32 u32 hp32 => ?_)
              obtain rfl : r32 = nI (gm_cnt (gm_tkp M k) k ((gm_tkp M k) 11 0)) := hp32
              show gk_C p l e ({ frames := 2, cells := 0, slots := 0, locals := 44 } : Room) s m ([.ref h] : List Value).toArray below meth c 5 D A Q 0 0 (gd_W cI h q F B f1 kp g) [(0, .ref h), (1, .int (nI k))] 35 [.int (nI (gm_cnt (gm_tkp M k) k ((gm_tkp M k) 11 0)))]
              refine gk_aload_n G dX2_hourOn_35 0 rfl ?_
              refine gk_get (v' := .int (nI ((gm_tkp M k) 10 0))) G hinX2 (q0 := 0) rfl rfl 1 (by decide) k35 rfl (congrArg Value.int (hsX.1)) dX2_hourOn_36 ?_
              refine gk_icmp_lt (tgt := 52) G dX2_hourOn_39 (by decide) (fun c_39 => ?_) (fun c_39 => ?_)
              · replace c_39 := (nI_ltI (a := gm_cnt (gm_tkp M k) k ((gm_tkp M k) 11 0)) (b := (gm_tkp M k) 10 0) (by omega) (by omega)).mp c_39
                refine gk_iinc (j := 1) (v := nI (k + 1)) (lv' := [(1, .int (nI (k + 1))), (0, .ref h)]) G dX2_hourOn_52 rfl (nI_add k 1) (by decide) rfl ?_
                refine gk_goto (tgt := 2) G dX2_hourOn_55 (by decide) ?_
                have r9 : gr_now f1 (gm_tkp M (k + 1)) := by rw [gm_tkp_skip (by first | (left; omega) | (right; omega))]; exact w1
                exact gk_lsub [1,0] rfl (ih (k + 1) _ (by omega) (by omega) r9)
              · replace c_39 := (not_congr (nI_ltI (a := gm_cnt (gm_tkp M k) k ((gm_tkp M k) 11 0)) (b := (gm_tkp M k) 10 0) (by omega) (by omega))).mp c_39
                refine gk_aload_n G dX2_hourOn_42 0 rfl ?_
                refine gk_get (v' := .ref (q 9)) G hinX2 (q0 := 0) rfl rfl 9 (by decide) k22 rfl rfl dX2_hourOn_43 ?_
                refine gk_bipush (v := nI 35) G dX2_hourOn_46 (by decide) ?_
                refine gk_iload_n G dX2_hourOn_48 1 rfl ?_
                refine gk_iadd (v := nI (35 + k)) G dX2_hourOn_49 (nI_add 35 k) ?_
                refine gk_iconst (v := -1) G dX2_hourOn_50 (by decide) ?_
                refine gk_topi (fun v51 ev51 => ?_)
                refine gk_iast (w' := (gd_W cI h q F B (upd f1 (35 + k) v51) kp g)) G (q0 := 5) (t0 := 0) rfl rfl (35 + k) rfl (by omega) (by decide) rfl dX2_hourOn_51 ?_
                generalize ef51 : upd f1 (35 + k) v51 = f51
                refine gk_iinc (j := 1) (v := nI (k + 1)) (lv' := [(1, .int (nI (k + 1))), (0, .ref h)]) G dX2_hourOn_52 rfl (nI_add k 1) (by decide) rfl ?_
                refine gk_goto (tgt := 2) G dX2_hourOn_55 (by decide) ?_
                have r9 : gr_now f51 (gm_tkp M (k + 1)) := by
                  rw [gm_tkp_off (by omega)]; subst ef51; subst ev51
                  exact gr_now_7 w1 (by omega) (by omega) gm_e0.symm
                exact gk_lsub [1,0] rfl (ih (k + 1) _ (by omega) (by omega) r9)
    refine gk_iconst (v := nI 0) G dX2_hourOn_0 (by decide) ?_
    refine gk_istore_n (lv' := [(1, .int (nI 0)), (0, .ref h)]) G dX2_hourOn_1 rfl (by decide) rfl ?_
    exact gk_lsub [1,0] rfl (L2 (M 11 0 + 1) 0 f (by omega) (by omega) (by rw [gm_tkp_0]; exact hn))
