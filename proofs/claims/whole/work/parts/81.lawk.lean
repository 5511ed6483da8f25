theorem gl_cmp {x y : Int64} (h : x = y) : lg_cmp x y = 0 := by
  subst h
  unfold lg_cmp
  rw [if_neg (show ¬ x > x from Int64.lt_irrefl), if_pos rfl]
theorem gl_dc {M : gm_M} {x y : UInt64} (hx : x = gm_ml M) (hy : y = gm_ml M) (h : M 11 0 < 2 ^ 31) : Op.cmpValue (FP.dcmp x y) .l = 0 := by
  rw [hx, hy, gm_ml_cmp M h]; rfl
theorem gl_hgl {M : gm_M} {v : Nat} (wf : gm_wf M) (hh : M 9 0 < 1999000) (hv : v < M 11 0) : gm_hrs M 200 8 v < 2000000 := by
  have a := (gm_hrs_wf wf 200).2.2.2.2.2.2.1 v (by rw [gm_hrs_ne M 0 (by decide) (by decide) (by decide) (by decide) (by decide) (by decide) (by decide)]; exact hv)
  have a9 := a.2.2.2.2.2.2
  rw [gm_hrs_9] at a9
  exact Nat.lt_of_le_of_lt a9 (by omega)
set_option maxRecDepth 100000 in
set_option maxHeartbeats 1000000 in
theorem lg_addStone_no {p : Program} {l : Launch} {e : Env} {s : State} {m : MethodId} {args : Array Value} {below : List Frame} {meth : Method} {c : Code} {D : va_G} {A : Nat → Prop} {Q : State → Prop} {cI cZ cJ : ClassId} {b L : Nat} {xs : Nat → Int32} (G : gk_G p s m args meth c RL 9 cL_law (some .boolean) wsL_law D (g_T cI cZ cJ) A) (hE : gl_F A s s.heap) (hl9 : l.stackTraces = false) (hX : va_X b L xs s s.heap) (hbl : b < s.heap.size) (hbA : ¬ A b) (hL : L ≤ 2048) {g h1 h2 o h : Nat} {q q2 q3 : Nat → Nat} {f : Nat → Int64} {u0 : gw_U} {v0 : gd_U} {M : gm_M} (wf : gm_wf M) (hrest : gm_rest M) (hh : M 9 0 < 1999000) (hr : gc_rep u0.1.1 u0.1.2 M) (hs : gr_st v0.1 v0.2.1 M) (hn : gr_now v0.2.2.1 M) {i cells slots : Nat} (hi : i + 4 ≤ L) (hc : cells ≤ 500000) (hsl : slots ≤ 7000000) (p0 : Int32) (hb : ¬ gm_rg p0 1 10) (hx1 : xs (i + 1) = p0) (K : ∀ (f9 : Nat → Int64) (u9 : gw_U) (v9 : gd_U) (c9 s9 : Nat), c9 ≤ cells + 20 → s9 ≤ slots + 240 → gc_rep u9.1.1 u9.1.2 M → gr_st v9.1 v9.2.1 M → gr_now v9.2.2.1 M → gk_C p l e room_1 s m args below meth c 9 D A Q c9 s9 (gd_X cI h q3 v9 ++ (gw_O cJ o f9 ++ (gw_X cI cZ g h1 h2 q q2 u9))) [(4, .int (nI i)), (3, .ref o), (2, .ref h), (1, .ref g), (0, .ref b)] 1565 []) : gk_C p l e room_1 s m args below meth c 9 D A Q cells slots (gd_X cI h q3 v0 ++ (gw_O cJ o f ++ (gw_X cI cZ g h1 h2 q q2 u0))) [(4, .int (nI i)), (3, .ref o), (2, .ref h), (1, .ref g), (0, .ref b)] 180 [] := by
  refine gk_aload_n G dL_law_180 3 rfl ?_
  refine gk_aload_n G dL_law_181 4 rfl ?_
  refine gk_iload G dL_law_182 0 rfl ?_
  refine gk_iconst (v := nI 1) G dL_law_184 (by decide) ?_
  refine gk_iadd (v := nI (i + 1)) G dL_law_185 (nI_add i 1) ?_
  refine gk_sld (v := p0) G hX hbl hbA (i + 1) rfl (by omega) (by omega) hx1 dL_law_186 ?_
  refine gk_aload_n G dL_law_187 1 rfl ?_
  refine gk_callISW (wr := gd_X cI h q3 v0) G (cl_addStone_no l D cI cZ cJ o f g h1 h2 q q2 u0 M hl9 p0 wf hr hb) gL_law_L_addStone rfl 3 (by decide +kernel) rfl rfl ⟨(Nat.le_of_ble_eq_true rfl), (Nat.le_of_ble_eq_true rfl)⟩ rfl gl_Fok hE [8, 9, 10, 11, 12, 13, 14, 15, 16, 17, 18, 19, 20, 21, 22, 23, 24, 25, 26, 27, 28, 29] rfl (by decide) [0, 1, 2, 3, 4, 5, 6, 7] rfl (by decide) (by decide) rfl (Nat.le_of_ble_eq_true rfl) dL_law_188 ⟨(show cells + 1 ≤ 601024 by omega), (show slots + 6 ≤ 7293034 by omega)⟩ (fun r188 uu188 hp188 => ?_)
  obtain ⟨f188, u188⟩ := uu188
  have hK188 : r188 = nI 1 := hp188.1
  have hr188 : gc_rep u188.1.1 u188.1.2 M := hp188.2
  show gk_C p l e room_1 s m args below meth c 9 D A Q (cells + 1) (slots + 6) (gd_X cI h q3 v0 ++ (gw_O cJ o f188 ++ (gw_X cI cZ g h1 h2 q q2 u188))) [(4, .int (nI i)), (3, .ref o), (2, .ref h), (1, .ref g), (0, .ref b)] 191 [.int r188]
  refine gk_istore (lv' := [(5, .int r188), (4, .int (nI i)), (3, .ref o), (2, .ref h), (1, .ref g), (0, .ref b)]) G dL_law_191 (by decide) rfl ?_
  refine gk_aload_n G dL_law_193 3 rfl ?_
  refine gk_aload_n G dL_law_194 5 rfl ?_
  refine gk_iload G dL_law_195 1 rfl ?_
  refine gk_iconst (v := nI 1) G dL_law_197 (by decide) ?_
  refine gk_iadd (v := nI (i + 1)) G dL_law_198 (nI_add i 1) ?_
  refine gk_sld (v := p0) G hX hbl hbA (i + 1) rfl (by omega) (by omega) hx1 dL_law_199 ?_
  refine gk_callIV (wr := gw_O cJ o f188 ++ (gw_X cI cZ g h1 h2 q q2 u188)) G (c2_addStone_no l D cI cZ cJ h q3 v0.1 v0.2.1 v0.2.2.1 v0.2.2.2.1 v0.2.2.2.2 M p0 wf hs hn hb) gL_law_X2_addStone rfl 1 (by decide +kernel) rfl rfl ⟨(Nat.le_of_ble_eq_true rfl), (Nat.le_of_ble_eq_true rfl)⟩ rfl (q0 := 0) rfl (T := TX2) (N := 12) rfl gk_ok0 trivial [0, 1, 2, 3, 4, 5, 6, 7] rfl (by decide) [8, 9, 10, 11, 12, 13, 14, 15, 16, 17, 18, 19, 20, 21, 22, 23, 24, 25, 26, 27, 28, 29] rfl (by decide) (by decide) rfl (Nat.le_of_ble_eq_true rfl) dL_law_200 ⟨(show (cells + 1) + 0 ≤ 601024 by omega), (show (slots + 6) + 0 ≤ 7293034 by omega)⟩ (fun r200 v200 hp200 => ?_)
  have hR200 : r200 = nI 0 := hp200.1
  have hs200 : gr_st v200.1 v200.2.1 M := hp200.2.1
  have hn200 : gr_now v200.2.2.1 M := hp200.2.2.1
  have hF200 : v200.1 0 = nI 1 := hp200.2.2.2
  refine gk_wsub (w' := (gd_X cI h q3 v200 ++ (gw_O cJ o f188 ++ (gw_X cI cZ g h1 h2 q q2 u188)))) [22, 23, 24, 25, 26, 27, 28, 29, 0, 1, 2, 3, 4, 5, 6, 7, 8, 9, 10, 11, 12, 13, 14, 15, 16, 17, 18, 19, 20, 21] rfl (by decide) ?_
  show gk_C p l e room_1 s m args below meth c 9 D A Q ((cells + 1) + 0) ((slots + 6) + 0) (gd_X cI h q3 v200 ++ (gw_O cJ o f188 ++ (gw_X cI cZ g h1 h2 q q2 u188))) [(5, .int r188), (4, .int (nI i)), (3, .ref o), (2, .ref h), (1, .ref g), (0, .ref b)] 203 [.int r200]
  refine gk_istore (lv' := [(6, .int r200), (5, .int r188), (4, .int (nI i)), (3, .ref o), (2, .ref h), (1, .ref g), (0, .ref b)]) G dL_law_203 (by decide) rfl ?_
  refine gk_aload_n G dL_law_205 4 rfl ?_
  refine gk_callIV (wr := gw_O cJ o f188 ++ (gw_X cI cZ g h1 h2 q q2 u188)) G (c2_thrown l D cI cZ cJ h q3 v200.1 v200.2.1 v200.2.2.1 v200.2.2.2.1 v200.2.2.2.2 M) gL_law_X2_thrown rfl 0 (by decide +kernel) rfl rfl ⟨(Nat.le_of_ble_eq_true rfl), (Nat.le_of_ble_eq_true rfl)⟩ rfl (q0 := 0) rfl (T := TX2) (N := 12) rfl gk_ok0 trivial [0, 1, 2, 3, 4, 5, 6, 7] rfl (by decide) [8, 9, 10, 11, 12, 13, 14, 15, 16, 17, 18, 19, 20, 21, 22, 23, 24, 25, 26, 27, 28, 29] rfl (by decide) (by decide) rfl (Nat.le_of_ble_eq_true rfl) dL_law_206 ⟨(show ((cells + 1) + 0) + 0 ≤ 601024 by omega), (show ((slots + 6) + 0) + 0 ≤ 7293034 by omega)⟩ (fun r206 u206 hp206 => ?_)
  have hT206 : r206 = nI 1 := (show r206 = v200.1 0 from hp206).trans hF200
  refine gk_wsub (w' := (gd_X cI h q3 v200 ++ (gw_O cJ o f188 ++ (gw_X cI cZ g h1 h2 q q2 u188)))) [22, 23, 24, 25, 26, 27, 28, 29, 0, 1, 2, 3, 4, 5, 6, 7, 8, 9, 10, 11, 12, 13, 14, 15, 16, 17, 18, 19, 20, 21] rfl (by decide) ?_
  show gk_C p l e room_1 s m args below meth c 9 D A Q (((cells + 1) + 0) + 0) (((slots + 6) + 0) + 0) (gd_X cI h q3 v200 ++ (gw_O cJ o f188 ++ (gw_X cI cZ g h1 h2 q q2 u188))) [(6, .int r200), (5, .int r188), (4, .int (nI i)), (3, .ref o), (2, .ref h), (1, .ref g), (0, .ref b)] 209 [.int r206]
  refine gk_iload G dL_law_209 1 rfl ?_
  refine gk_icmp_eq (tgt := 216) G dL_law_211 (by decide) (fun c_211 => ?_) (fun c_211 => ?_)
  · refine gk_iload G dL_law_216 1 rfl ?_
    refine gk_if_ne (tgt := 233) G dL_law_218 (by decide) (fun c_218 => ?_) (fun c_218 => ?_)
    · refine gk_goto (tgt := 1565) G dL_law_233 (by decide) ?_
      exact gk_lsub [2, 3, 4, 5, 6] rfl (K f188 u188 v200 _ _ (by omega) (by omega) hr188 hs200 hn200)
    · exact absurd (hK188.symm.trans c_218) (by decide)
  · exact absurd (hT206.trans hK188.symm) c_211
set_option maxRecDepth 100000 in
set_option maxHeartbeats 1000000 in
theorem lg_addStone_full {p : Program} {l : Launch} {e : Env} {s : State} {m : MethodId} {args : Array Value} {below : List Frame} {meth : Method} {c : Code} {D : va_G} {A : Nat → Prop} {Q : State → Prop} {cI cZ cJ : ClassId} {b L : Nat} {xs : Nat → Int32} (G : gk_G p s m args meth c RL 9 cL_law (some .boolean) wsL_law D (g_T cI cZ cJ) A) (hE : gl_F A s s.heap) (hl9 : l.stackTraces = false) (hX : va_X b L xs s s.heap) (hbl : b < s.heap.size) (hbA : ¬ A b) (hL : L ≤ 2048) {g h1 h2 o h : Nat} {q q2 q3 : Nat → Nat} {f : Nat → Int64} {u0 : gw_U} {v0 : gd_U} {M : gm_M} (wf : gm_wf M) (hrest : gm_rest M) (hh : M 9 0 < 1999000) (hr : gc_rep u0.1.1 u0.1.2 M) (hs : gr_st v0.1 v0.2.1 M) (hn : gr_now v0.2.2.1 M) {i cells slots : Nat} (hi : i + 4 ≤ L) (hc : cells ≤ 500000) (hsl : slots ≤ 7000000) (v : Nat) (hv0 : 1 ≤ v) (hv : v < 10) (h4 : M 10 0 = 4) (hx1 : xs (i + 1) = nI v) (K : ∀ (f9 : Nat → Int64) (u9 : gw_U) (v9 : gd_U) (c9 s9 : Nat), c9 ≤ cells + 20 → s9 ≤ slots + 240 → gc_rep u9.1.1 u9.1.2 M → gr_st v9.1 v9.2.1 M → gr_now v9.2.2.1 M → gk_C p l e room_1 s m args below meth c 9 D A Q c9 s9 (gd_X cI h q3 v9 ++ (gw_O cJ o f9 ++ (gw_X cI cZ g h1 h2 q q2 u9))) [(4, .int (nI i)), (3, .ref o), (2, .ref h), (1, .ref g), (0, .ref b)] 1565 []) : gk_C p l e room_1 s m args below meth c 9 D A Q cells slots (gd_X cI h q3 v0 ++ (gw_O cJ o f ++ (gw_X cI cZ g h1 h2 q q2 u0))) [(4, .int (nI i)), (3, .ref o), (2, .ref h), (1, .ref g), (0, .ref b)] 180 [] := by
  refine gk_aload_n G dL_law_180 3 rfl ?_
  refine gk_aload_n G dL_law_181 4 rfl ?_
  refine gk_iload G dL_law_182 0 rfl ?_
  refine gk_iconst (v := nI 1) G dL_law_184 (by decide) ?_
  refine gk_iadd (v := nI (i + 1)) G dL_law_185 (nI_add i 1) ?_
  refine gk_sld (v := (nI v)) G hX hbl hbA (i + 1) rfl (by omega) (by omega) hx1 dL_law_186 ?_
  refine gk_aload_n G dL_law_187 1 rfl ?_
  refine gk_callISW (wr := gd_X cI h q3 v0) G (cl_addStone_full l D cI cZ cJ o f g h1 h2 q q2 u0 M hl9 v wf hr hv0 hv h4) gL_law_L_addStone rfl 3 (by decide +kernel) rfl rfl ⟨(Nat.le_of_ble_eq_true rfl), (Nat.le_of_ble_eq_true rfl)⟩ rfl gl_Fok hE [8, 9, 10, 11, 12, 13, 14, 15, 16, 17, 18, 19, 20, 21, 22, 23, 24, 25, 26, 27, 28, 29] rfl (by decide) [0, 1, 2, 3, 4, 5, 6, 7] rfl (by decide) (by decide) rfl (Nat.le_of_ble_eq_true rfl) dL_law_188 ⟨(show cells + 1 ≤ 601024 by omega), (show slots + 6 ≤ 7293034 by omega)⟩ (fun r188 uu188 hp188 => ?_)
  obtain ⟨f188, u188⟩ := uu188
  have hK188 : r188 = nI 2 := hp188.1
  have hr188 : gc_rep u188.1.1 u188.1.2 M := hp188.2
  show gk_C p l e room_1 s m args below meth c 9 D A Q (cells + 1) (slots + 6) (gd_X cI h q3 v0 ++ (gw_O cJ o f188 ++ (gw_X cI cZ g h1 h2 q q2 u188))) [(4, .int (nI i)), (3, .ref o), (2, .ref h), (1, .ref g), (0, .ref b)] 191 [.int r188]
  refine gk_istore (lv' := [(5, .int r188), (4, .int (nI i)), (3, .ref o), (2, .ref h), (1, .ref g), (0, .ref b)]) G dL_law_191 (by decide) rfl ?_
  refine gk_aload_n G dL_law_193 3 rfl ?_
  refine gk_aload_n G dL_law_194 5 rfl ?_
  refine gk_iload G dL_law_195 1 rfl ?_
  refine gk_iconst (v := nI 1) G dL_law_197 (by decide) ?_
  refine gk_iadd (v := nI (i + 1)) G dL_law_198 (nI_add i 1) ?_
  refine gk_sld (v := (nI v)) G hX hbl hbA (i + 1) rfl (by omega) (by omega) hx1 dL_law_199 ?_
  refine gk_callIV (wr := gw_O cJ o f188 ++ (gw_X cI cZ g h1 h2 q q2 u188)) G (c2_addStone_full l D cI cZ cJ h q3 v0.1 v0.2.1 v0.2.2.1 v0.2.2.2.1 v0.2.2.2.2 M v wf hs hn (by omega) (by omega) (by omega)) gL_law_X2_addStone rfl 1 (by decide +kernel) rfl rfl ⟨(Nat.le_of_ble_eq_true rfl), (Nat.le_of_ble_eq_true rfl)⟩ rfl (q0 := 0) rfl (T := TX2) (N := 12) rfl gk_ok0 trivial [0, 1, 2, 3, 4, 5, 6, 7] rfl (by decide) [8, 9, 10, 11, 12, 13, 14, 15, 16, 17, 18, 19, 20, 21, 22, 23, 24, 25, 26, 27, 28, 29] rfl (by decide) (by decide) rfl (Nat.le_of_ble_eq_true rfl) dL_law_200 ⟨(show (cells + 1) + 0 ≤ 601024 by omega), (show (slots + 6) + 0 ≤ 7293034 by omega)⟩ (fun r200 v200 hp200 => ?_)
  have hR200 : r200 = nI 0 := hp200.1
  have hs200 : gr_st v200.1 v200.2.1 M := hp200.2.1
  have hn200 : gr_now v200.2.2.1 M := hp200.2.2.1
  have hF200 : v200.1 0 = nI 2 := hp200.2.2.2
  refine gk_wsub (w' := (gd_X cI h q3 v200 ++ (gw_O cJ o f188 ++ (gw_X cI cZ g h1 h2 q q2 u188)))) [22, 23, 24, 25, 26, 27, 28, 29, 0, 1, 2, 3, 4, 5, 6, 7, 8, 9, 10, 11, 12, 13, 14, 15, 16, 17, 18, 19, 20, 21] rfl (by decide) ?_
  show gk_C p l e room_1 s m args below meth c 9 D A Q ((cells + 1) + 0) ((slots + 6) + 0) (gd_X cI h q3 v200 ++ (gw_O cJ o f188 ++ (gw_X cI cZ g h1 h2 q q2 u188))) [(5, .int r188), (4, .int (nI i)), (3, .ref o), (2, .ref h), (1, .ref g), (0, .ref b)] 203 [.int r200]
  refine gk_istore (lv' := [(6, .int r200), (5, .int r188), (4, .int (nI i)), (3, .ref o), (2, .ref h), (1, .ref g), (0, .ref b)]) G dL_law_203 (by decide) rfl ?_
  refine gk_aload_n G dL_law_205 4 rfl ?_
  refine gk_callIV (wr := gw_O cJ o f188 ++ (gw_X cI cZ g h1 h2 q q2 u188)) G (c2_thrown l D cI cZ cJ h q3 v200.1 v200.2.1 v200.2.2.1 v200.2.2.2.1 v200.2.2.2.2 M) gL_law_X2_thrown rfl 0 (by decide +kernel) rfl rfl ⟨(Nat.le_of_ble_eq_true rfl), (Nat.le_of_ble_eq_true rfl)⟩ rfl (q0 := 0) rfl (T := TX2) (N := 12) rfl gk_ok0 trivial [0, 1, 2, 3, 4, 5, 6, 7] rfl (by decide) [8, 9, 10, 11, 12, 13, 14, 15, 16, 17, 18, 19, 20, 21, 22, 23, 24, 25, 26, 27, 28, 29] rfl (by decide) (by decide) rfl (Nat.le_of_ble_eq_true rfl) dL_law_206 ⟨(show ((cells + 1) + 0) + 0 ≤ 601024 by omega), (show ((slots + 6) + 0) + 0 ≤ 7293034 by omega)⟩ (fun r206 u206 hp206 => ?_)
  have hT206 : r206 = nI 2 := (show r206 = v200.1 0 from hp206).trans hF200
  refine gk_wsub (w' := (gd_X cI h q3 v200 ++ (gw_O cJ o f188 ++ (gw_X cI cZ g h1 h2 q q2 u188)))) [22, 23, 24, 25, 26, 27, 28, 29, 0, 1, 2, 3, 4, 5, 6, 7, 8, 9, 10, 11, 12, 13, 14, 15, 16, 17, 18, 19, 20, 21] rfl (by decide) ?_
  show gk_C p l e room_1 s m args below meth c 9 D A Q (((cells + 1) + 0) + 0) (((slots + 6) + 0) + 0) (gd_X cI h q3 v200 ++ (gw_O cJ o f188 ++ (gw_X cI cZ g h1 h2 q q2 u188))) [(6, .int r200), (5, .int r188), (4, .int (nI i)), (3, .ref o), (2, .ref h), (1, .ref g), (0, .ref b)] 209 [.int r206]
  refine gk_iload G dL_law_209 1 rfl ?_
  refine gk_icmp_eq (tgt := 216) G dL_law_211 (by decide) (fun c_211 => ?_) (fun c_211 => ?_)
  · refine gk_iload G dL_law_216 1 rfl ?_
    refine gk_if_ne (tgt := 233) G dL_law_218 (by decide) (fun c_218 => ?_) (fun c_218 => ?_)
    · refine gk_goto (tgt := 1565) G dL_law_233 (by decide) ?_
      exact gk_lsub [2, 3, 4, 5, 6] rfl (K f188 u188 v200 _ _ (by omega) (by omega) hr188 hs200 hn200)
    · exact absurd (hK188.symm.trans c_218) (by decide)
  · exact absurd (hT206.trans hK188.symm) c_211
set_option maxRecDepth 100000 in
set_option maxHeartbeats 1000000 in
theorem lg_addStone_ok {p : Program} {l : Launch} {e : Env} {s : State} {m : MethodId} {args : Array Value} {below : List Frame} {meth : Method} {c : Code} {D : va_G} {A : Nat → Prop} {Q : State → Prop} {cI cZ cJ : ClassId} {b L : Nat} {xs : Nat → Int32} (G : gk_G p s m args meth c RL 9 cL_law (some .boolean) wsL_law D (g_T cI cZ cJ) A) (hE : gl_F A s s.heap) (hl9 : l.stackTraces = false) (hX : va_X b L xs s s.heap) (hbl : b < s.heap.size) (hbA : ¬ A b) (hL : L ≤ 2048) {g h1 h2 o h : Nat} {q q2 q3 : Nat → Nat} {f : Nat → Int64} {u0 : gw_U} {v0 : gd_U} {M : gm_M} (wf : gm_wf M) (hrest : gm_rest M) (hh : M 9 0 < 1999000) (hr : gc_rep u0.1.1 u0.1.2 M) (hs : gr_st v0.1 v0.2.1 M) (hn : gr_now v0.2.2.1 M) {i cells slots : Nat} (hi : i + 4 ≤ L) (hc : cells ≤ 500000) (hsl : slots ≤ 7000000) (v : Nat) (hv0 : 1 ≤ v) (hv : v < 10) (h4 : M 10 0 < 4) (hx1 : xs (i + 1) = nI v) (K : ∀ (f9 : Nat → Int64) (u9 : gw_U) (v9 : gd_U) (c9 s9 : Nat), c9 ≤ cells + 20 → s9 ≤ slots + 240 → gc_rep u9.1.1 u9.1.2 (gm_adds M v) → gr_st v9.1 v9.2.1 (gm_adds M v) → gr_now v9.2.2.1 (gm_adds M v) → gk_C p l e room_1 s m args below meth c 9 D A Q c9 s9 (gd_X cI h q3 v9 ++ (gw_O cJ o f9 ++ (gw_X cI cZ g h1 h2 q q2 u9))) [(4, .int (nI i)), (3, .ref o), (2, .ref h), (1, .ref g), (0, .ref b)] 1565 []) : gk_C p l e room_1 s m args below meth c 9 D A Q cells slots (gd_X cI h q3 v0 ++ (gw_O cJ o f ++ (gw_X cI cZ g h1 h2 q q2 u0))) [(4, .int (nI i)), (3, .ref o), (2, .ref h), (1, .ref g), (0, .ref b)] 180 [] := by
  refine gk_aload_n G dL_law_180 3 rfl ?_
  refine gk_aload_n G dL_law_181 4 rfl ?_
  refine gk_iload G dL_law_182 0 rfl ?_
  refine gk_iconst (v := nI 1) G dL_law_184 (by decide) ?_
  refine gk_iadd (v := nI (i + 1)) G dL_law_185 (nI_add i 1) ?_
  refine gk_sld (v := (nI v)) G hX hbl hbA (i + 1) rfl (by omega) (by omega) hx1 dL_law_186 ?_
  refine gk_aload_n G dL_law_187 1 rfl ?_
  refine gk_callISW (wr := gd_X cI h q3 v0) G (cl_addStone_ok l D cI cZ cJ o f g h1 h2 q q2 u0 M v wf hr hv0 hv h4) gL_law_L_addStone rfl 3 (by decide +kernel) rfl rfl ⟨(Nat.le_of_ble_eq_true rfl), (Nat.le_of_ble_eq_true rfl)⟩ rfl gl_Fok hE [8, 9, 10, 11, 12, 13, 14, 15, 16, 17, 18, 19, 20, 21, 22, 23, 24, 25, 26, 27, 28, 29] rfl (by decide) [0, 1, 2, 3, 4, 5, 6, 7] rfl (by decide) (by decide) rfl (Nat.le_of_ble_eq_true rfl) dL_law_188 ⟨(show cells + 0 ≤ 601024 by omega), (show slots + 0 ≤ 7293034 by omega)⟩ (fun r188 uu188 hp188 => ?_)
  obtain ⟨f188, u188⟩ := uu188
  have hK188 : r188 = nI 0 := hp188.1
  have hv188 : f188 0 = (nI (M 10 0)).toInt64 := hp188.2.1
  have hr188 : gc_rep u188.1.1 u188.1.2 (gm_adds M v) := hp188.2.2
  show gk_C p l e room_1 s m args below meth c 9 D A Q (cells + 0) (slots + 0) (gd_X cI h q3 v0 ++ (gw_O cJ o f188 ++ (gw_X cI cZ g h1 h2 q q2 u188))) [(4, .int (nI i)), (3, .ref o), (2, .ref h), (1, .ref g), (0, .ref b)] 191 [.int r188]
  refine gk_istore (lv' := [(5, .int r188), (4, .int (nI i)), (3, .ref o), (2, .ref h), (1, .ref g), (0, .ref b)]) G dL_law_191 (by decide) rfl ?_
  refine gk_aload_n G dL_law_193 3 rfl ?_
  refine gk_aload_n G dL_law_194 5 rfl ?_
  refine gk_iload G dL_law_195 1 rfl ?_
  refine gk_iconst (v := nI 1) G dL_law_197 (by decide) ?_
  refine gk_iadd (v := nI (i + 1)) G dL_law_198 (nI_add i 1) ?_
  refine gk_sld (v := (nI v)) G hX hbl hbA (i + 1) rfl (by omega) (by omega) hx1 dL_law_199 ?_
  refine gk_callIV (wr := gw_O cJ o f188 ++ (gw_X cI cZ g h1 h2 q q2 u188)) G (c2_addStone_ok l D cI cZ cJ h q3 v0.1 v0.2.1 v0.2.2.1 v0.2.2.2.1 v0.2.2.2.2 M v wf hs hn (by omega) (by omega) (by omega)) gL_law_X2_addStone rfl 1 (by decide +kernel) rfl rfl ⟨(Nat.le_of_ble_eq_true rfl), (Nat.le_of_ble_eq_true rfl)⟩ rfl (q0 := 0) rfl (T := TX2) (N := 12) rfl gk_ok0 trivial [0, 1, 2, 3, 4, 5, 6, 7] rfl (by decide) [8, 9, 10, 11, 12, 13, 14, 15, 16, 17, 18, 19, 20, 21, 22, 23, 24, 25, 26, 27, 28, 29] rfl (by decide) (by decide) rfl (Nat.le_of_ble_eq_true rfl) dL_law_200 ⟨(show (cells + 0) + 0 ≤ 601024 by omega), (show (slots + 0) + 0 ≤ 7293034 by omega)⟩ (fun r200 v200 hp200 => ?_)
  have hR200 : r200 = nI (M 10 0) := hp200.1
  have hs200 : gr_st v200.1 v200.2.1 (gm_adds M v) := hp200.2.1
  have hn200 : gr_now v200.2.2.1 (gm_adds M v) := hp200.2.2.1
  have hF200 : v200.1 0 = nI 0 := hp200.2.2.2
  refine gk_wsub (w' := (gd_X cI h q3 v200 ++ (gw_O cJ o f188 ++ (gw_X cI cZ g h1 h2 q q2 u188)))) [22, 23, 24, 25, 26, 27, 28, 29, 0, 1, 2, 3, 4, 5, 6, 7, 8, 9, 10, 11, 12, 13, 14, 15, 16, 17, 18, 19, 20, 21] rfl (by decide) ?_
  show gk_C p l e room_1 s m args below meth c 9 D A Q ((cells + 0) + 0) ((slots + 0) + 0) (gd_X cI h q3 v200 ++ (gw_O cJ o f188 ++ (gw_X cI cZ g h1 h2 q q2 u188))) [(5, .int r188), (4, .int (nI i)), (3, .ref o), (2, .ref h), (1, .ref g), (0, .ref b)] 203 [.int r200]
  refine gk_istore (lv' := [(6, .int r200), (5, .int r188), (4, .int (nI i)), (3, .ref o), (2, .ref h), (1, .ref g), (0, .ref b)]) G dL_law_203 (by decide) rfl ?_
  refine gk_aload_n G dL_law_205 4 rfl ?_
  refine gk_callIV (wr := gw_O cJ o f188 ++ (gw_X cI cZ g h1 h2 q q2 u188)) G (c2_thrown l D cI cZ cJ h q3 v200.1 v200.2.1 v200.2.2.1 v200.2.2.2.1 v200.2.2.2.2 M) gL_law_X2_thrown rfl 0 (by decide +kernel) rfl rfl ⟨(Nat.le_of_ble_eq_true rfl), (Nat.le_of_ble_eq_true rfl)⟩ rfl (q0 := 0) rfl (T := TX2) (N := 12) rfl gk_ok0 trivial [0, 1, 2, 3, 4, 5, 6, 7] rfl (by decide) [8, 9, 10, 11, 12, 13, 14, 15, 16, 17, 18, 19, 20, 21, 22, 23, 24, 25, 26, 27, 28, 29] rfl (by decide) (by decide) rfl (Nat.le_of_ble_eq_true rfl) dL_law_206 ⟨(show ((cells + 0) + 0) + 0 ≤ 601024 by omega), (show ((slots + 0) + 0) + 0 ≤ 7293034 by omega)⟩ (fun r206 u206 hp206 => ?_)
  have hT206 : r206 = nI 0 := (show r206 = v200.1 0 from hp206).trans hF200
  refine gk_wsub (w' := (gd_X cI h q3 v200 ++ (gw_O cJ o f188 ++ (gw_X cI cZ g h1 h2 q q2 u188)))) [22, 23, 24, 25, 26, 27, 28, 29, 0, 1, 2, 3, 4, 5, 6, 7, 8, 9, 10, 11, 12, 13, 14, 15, 16, 17, 18, 19, 20, 21] rfl (by decide) ?_
  show gk_C p l e room_1 s m args below meth c 9 D A Q (((cells + 0) + 0) + 0) (((slots + 0) + 0) + 0) (gd_X cI h q3 v200 ++ (gw_O cJ o f188 ++ (gw_X cI cZ g h1 h2 q q2 u188))) [(6, .int r200), (5, .int r188), (4, .int (nI i)), (3, .ref o), (2, .ref h), (1, .ref g), (0, .ref b)] 209 [.int r206]
  refine gk_iload G dL_law_209 1 rfl ?_
  refine gk_icmp_eq (tgt := 216) G dL_law_211 (by decide) (fun c_211 => ?_) (fun c_211 => ?_)
  · refine gk_iload G dL_law_216 1 rfl ?_
    refine gk_if_ne (tgt := 233) G dL_law_218 (by decide) (fun c_218 => ?_) (fun c_218 => ?_)
    · exact absurd (hK188.trans nI_0) c_218
    · refine gk_aload_n G dL_law_221 3 rfl ?_
      refine gk_iconst (v := nI 0) G dL_law_222 (by decide) ?_
      refine gk_lald (v := f188 0) G (q0 := 8) (t0 := 2) rfl rfl 0 rfl (by decide) (by decide) rfl dL_law_223 ?_
      refine gk_iload G dL_law_224 0 rfl ?_
      refine gk_i2l (v := (r200).toInt64) G dL_law_226 rfl ?_
      refine gk_lcmp G dL_law_227 ?_
      refine gk_if_eq (tgt := 233) G dL_law_228 (by decide) (fun c_228 => ?_) (fun c_228 => ?_)
      · refine gk_goto (tgt := 1565) G dL_law_233 (by decide) ?_
        exact gk_lsub [2, 3, 4, 5, 6] rfl (K f188 u188 v200 _ _ (by omega) (by omega) hr188 hs200 hn200)
      · exact absurd (gl_cmp (hv188.trans (congrArg Int32.toInt64 hR200).symm)) c_228
  · exact absurd (hT206.trans hK188.symm) c_211
set_option maxRecDepth 100000 in
set_option maxHeartbeats 1000000 in
theorem lg_setWind_no {p : Program} {l : Launch} {e : Env} {s : State} {m : MethodId} {args : Array Value} {below : List Frame} {meth : Method} {c : Code} {D : va_G} {A : Nat → Prop} {Q : State → Prop} {cI cZ cJ : ClassId} {b L : Nat} {xs : Nat → Int32} (G : gk_G p s m args meth c RL 9 cL_law (some .boolean) wsL_law D (g_T cI cZ cJ) A) (hE : gl_F A s s.heap) (hl9 : l.stackTraces = false) (hX : va_X b L xs s s.heap) (hbl : b < s.heap.size) (hbA : ¬ A b) (hL : L ≤ 2048) {g h1 h2 o h : Nat} {q q2 q3 : Nat → Nat} {f : Nat → Int64} {u0 : gw_U} {v0 : gd_U} {M : gm_M} (wf : gm_wf M) (hrest : gm_rest M) (hh : M 9 0 < 1999000) (hr : gc_rep u0.1.1 u0.1.2 M) (hs : gr_st v0.1 v0.2.1 M) (hn : gr_now v0.2.2.1 M) {i cells slots : Nat} (hi : i + 4 ≤ L) (hc : cells ≤ 500000) (hsl : slots ≤ 7000000) (p0 : Int32) (p1 : Int32) (hb : ¬ gm_rg p0 0 12) (hx1 : xs (i + 1) = p0) (hx2 : xs (i + 2) = p1) (K : ∀ (f9 : Nat → Int64) (u9 : gw_U) (v9 : gd_U) (c9 s9 : Nat), c9 ≤ cells + 20 → s9 ≤ slots + 240 → gc_rep u9.1.1 u9.1.2 M → gr_st v9.1 v9.2.1 M → gr_now v9.2.2.1 M → gk_C p l e room_1 s m args below meth c 9 D A Q c9 s9 (gd_X cI h q3 v9 ++ (gw_O cJ o f9 ++ (gw_X cI cZ g h1 h2 q q2 u9))) [(4, .int (nI i)), (3, .ref o), (2, .ref h), (1, .ref g), (0, .ref b)] 1565 []) : gk_C p l e room_1 s m args below meth c 9 D A Q cells slots (gd_X cI h q3 v0 ++ (gw_O cJ o f ++ (gw_X cI cZ g h1 h2 q q2 u0))) [(4, .int (nI i)), (3, .ref o), (2, .ref h), (1, .ref g), (0, .ref b)] 236 [] := by
  refine gk_aload_n G dL_law_236 3 rfl ?_
  refine gk_aload_n G dL_law_237 4 rfl ?_
  refine gk_iload G dL_law_238 0 rfl ?_
  refine gk_iconst (v := nI 1) G dL_law_240 (by decide) ?_
  refine gk_iadd (v := nI (i + 1)) G dL_law_241 (nI_add i 1) ?_
  refine gk_sld (v := p0) G hX hbl hbA (i + 1) rfl (by omega) (by omega) hx1 dL_law_242 ?_
  refine gk_aload_n G dL_law_243 4 rfl ?_
  refine gk_iload G dL_law_244 0 rfl ?_
  refine gk_iconst (v := nI 2) G dL_law_246 (by decide) ?_
  refine gk_iadd (v := nI (i + 2)) G dL_law_247 (nI_add i 2) ?_
  refine gk_sld (v := p1) G hX hbl hbA (i + 2) rfl (by omega) (by omega) hx2 dL_law_248 ?_
  refine gk_aload_n G dL_law_249 1 rfl ?_
  refine gk_callISW (wr := gd_X cI h q3 v0) G (cl_setWind_no l D cI cZ cJ o f g h1 h2 q q2 u0 M hl9 p0 p1 wf hr hb) gL_law_L_setWind rfl 4 (by decide +kernel) rfl rfl ⟨(Nat.le_of_ble_eq_true rfl), (Nat.le_of_ble_eq_true rfl)⟩ rfl gl_Fok hE [8, 9, 10, 11, 12, 13, 14, 15, 16, 17, 18, 19, 20, 21, 22, 23, 24, 25, 26, 27, 28, 29] rfl (by decide) [0, 1, 2, 3, 4, 5, 6, 7] rfl (by decide) (by decide) rfl (Nat.le_of_ble_eq_true rfl) dL_law_250 ⟨(show cells + 1 ≤ 601024 by omega), (show slots + 6 ≤ 7293034 by omega)⟩ (fun r250 uu250 hp250 => ?_)
  obtain ⟨f250, u250⟩ := uu250
  have hK250 : r250 = nI 1 := hp250.1
  have hr250 : gc_rep u250.1.1 u250.1.2 M := hp250.2
  show gk_C p l e room_1 s m args below meth c 9 D A Q (cells + 1) (slots + 6) (gd_X cI h q3 v0 ++ (gw_O cJ o f250 ++ (gw_X cI cZ g h1 h2 q q2 u250))) [(4, .int (nI i)), (3, .ref o), (2, .ref h), (1, .ref g), (0, .ref b)] 253 [.int r250]
  refine gk_istore (lv' := [(5, .int r250), (4, .int (nI i)), (3, .ref o), (2, .ref h), (1, .ref g), (0, .ref b)]) G dL_law_253 (by decide) rfl ?_
  refine gk_aload_n G dL_law_255 3 rfl ?_
  refine gk_aload_n G dL_law_256 5 rfl ?_
  refine gk_iload G dL_law_257 1 rfl ?_
  refine gk_iconst (v := nI 1) G dL_law_259 (by decide) ?_
  refine gk_iadd (v := nI (i + 1)) G dL_law_260 (nI_add i 1) ?_
  refine gk_sld (v := p0) G hX hbl hbA (i + 1) rfl (by omega) (by omega) hx1 dL_law_261 ?_
  refine gk_aload_n G dL_law_262 5 rfl ?_
  refine gk_iload G dL_law_263 1 rfl ?_
  refine gk_iconst (v := nI 2) G dL_law_265 (by decide) ?_
  refine gk_iadd (v := nI (i + 2)) G dL_law_266 (nI_add i 2) ?_
  refine gk_sld (v := p1) G hX hbl hbA (i + 2) rfl (by omega) (by omega) hx2 dL_law_267 ?_
  refine gk_callIV (wr := gw_O cJ o f250 ++ (gw_X cI cZ g h1 h2 q q2 u250)) G (c2_setWind_no l D cI cZ cJ h q3 v0.1 v0.2.1 v0.2.2.1 v0.2.2.2.1 v0.2.2.2.2 M p0 p1 wf hs hn hb) gL_law_X2_setWind rfl 2 (by decide +kernel) rfl rfl ⟨(Nat.le_of_ble_eq_true rfl), (Nat.le_of_ble_eq_true rfl)⟩ rfl (q0 := 0) rfl (T := TX2) (N := 12) rfl gk_ok0 trivial [0, 1, 2, 3, 4, 5, 6, 7] rfl (by decide) [8, 9, 10, 11, 12, 13, 14, 15, 16, 17, 18, 19, 20, 21, 22, 23, 24, 25, 26, 27, 28, 29] rfl (by decide) (by decide) rfl (Nat.le_of_ble_eq_true rfl) dL_law_268 ⟨(show (cells + 1) + 0 ≤ 601024 by omega), (show (slots + 6) + 0 ≤ 7293034 by omega)⟩ (fun r268 v268 hp268 => ?_)
  have hR268 : r268 = nI 0 := hp268.1
  have hs268 : gr_st v268.1 v268.2.1 M := hp268.2.1
  have hn268 : gr_now v268.2.2.1 M := hp268.2.2.1
  have hF268 : v268.1 0 = nI 1 := hp268.2.2.2
  refine gk_wsub (w' := (gd_X cI h q3 v268 ++ (gw_O cJ o f250 ++ (gw_X cI cZ g h1 h2 q q2 u250)))) [22, 23, 24, 25, 26, 27, 28, 29, 0, 1, 2, 3, 4, 5, 6, 7, 8, 9, 10, 11, 12, 13, 14, 15, 16, 17, 18, 19, 20, 21] rfl (by decide) ?_
  show gk_C p l e room_1 s m args below meth c 9 D A Q ((cells + 1) + 0) ((slots + 6) + 0) (gd_X cI h q3 v268 ++ (gw_O cJ o f250 ++ (gw_X cI cZ g h1 h2 q q2 u250))) [(5, .int r250), (4, .int (nI i)), (3, .ref o), (2, .ref h), (1, .ref g), (0, .ref b)] 271 [.int r268]
  refine gk_istore (lv' := [(6, .int r268), (5, .int r250), (4, .int (nI i)), (3, .ref o), (2, .ref h), (1, .ref g), (0, .ref b)]) G dL_law_271 (by decide) rfl ?_
  refine gk_aload_n G dL_law_273 4 rfl ?_
  refine gk_callIV (wr := gw_O cJ o f250 ++ (gw_X cI cZ g h1 h2 q q2 u250)) G (c2_thrown l D cI cZ cJ h q3 v268.1 v268.2.1 v268.2.2.1 v268.2.2.2.1 v268.2.2.2.2 M) gL_law_X2_thrown rfl 0 (by decide +kernel) rfl rfl ⟨(Nat.le_of_ble_eq_true rfl), (Nat.le_of_ble_eq_true rfl)⟩ rfl (q0 := 0) rfl (T := TX2) (N := 12) rfl gk_ok0 trivial [0, 1, 2, 3, 4, 5, 6, 7] rfl (by decide) [8, 9, 10, 11, 12, 13, 14, 15, 16, 17, 18, 19, 20, 21, 22, 23, 24, 25, 26, 27, 28, 29] rfl (by decide) (by decide) rfl (Nat.le_of_ble_eq_true rfl) dL_law_274 ⟨(show ((cells + 1) + 0) + 0 ≤ 601024 by omega), (show ((slots + 6) + 0) + 0 ≤ 7293034 by omega)⟩ (fun r274 u274 hp274 => ?_)
  have hT274 : r274 = nI 1 := (show r274 = v268.1 0 from hp274).trans hF268
  refine gk_wsub (w' := (gd_X cI h q3 v268 ++ (gw_O cJ o f250 ++ (gw_X cI cZ g h1 h2 q q2 u250)))) [22, 23, 24, 25, 26, 27, 28, 29, 0, 1, 2, 3, 4, 5, 6, 7, 8, 9, 10, 11, 12, 13, 14, 15, 16, 17, 18, 19, 20, 21] rfl (by decide) ?_
  show gk_C p l e room_1 s m args below meth c 9 D A Q (((cells + 1) + 0) + 0) (((slots + 6) + 0) + 0) (gd_X cI h q3 v268 ++ (gw_O cJ o f250 ++ (gw_X cI cZ g h1 h2 q q2 u250))) [(6, .int r268), (5, .int r250), (4, .int (nI i)), (3, .ref o), (2, .ref h), (1, .ref g), (0, .ref b)] 277 [.int r274]
  refine gk_iload G dL_law_277 1 rfl ?_
  refine gk_icmp_eq (tgt := 284) G dL_law_279 (by decide) (fun c_279 => ?_) (fun c_279 => ?_)
  · refine gk_iload G dL_law_284 1 rfl ?_
    refine gk_if_ne (tgt := 301) G dL_law_286 (by decide) (fun c_286 => ?_) (fun c_286 => ?_)
    · refine gk_goto (tgt := 1565) G dL_law_301 (by decide) ?_
      exact gk_lsub [2, 3, 4, 5, 6] rfl (K f250 u250 v268 _ _ (by omega) (by omega) hr250 hs268 hn268)
    · exact absurd (hK250.symm.trans c_286) (by decide)
  · exact absurd (hT274.trans hK250.symm) c_279
set_option maxRecDepth 100000 in
set_option maxHeartbeats 1000000 in
theorem lg_setWind_no2 {p : Program} {l : Launch} {e : Env} {s : State} {m : MethodId} {args : Array Value} {below : List Frame} {meth : Method} {c : Code} {D : va_G} {A : Nat → Prop} {Q : State → Prop} {cI cZ cJ : ClassId} {b L : Nat} {xs : Nat → Int32} (G : gk_G p s m args meth c RL 9 cL_law (some .boolean) wsL_law D (g_T cI cZ cJ) A) (hE : gl_F A s s.heap) (hl9 : l.stackTraces = false) (hX : va_X b L xs s s.heap) (hbl : b < s.heap.size) (hbA : ¬ A b) (hL : L ≤ 2048) {g h1 h2 o h : Nat} {q q2 q3 : Nat → Nat} {f : Nat → Int64} {u0 : gw_U} {v0 : gd_U} {M : gm_M} (wf : gm_wf M) (hrest : gm_rest M) (hh : M 9 0 < 1999000) (hr : gc_rep u0.1.1 u0.1.2 M) (hs : gr_st v0.1 v0.2.1 M) (hn : gr_now v0.2.2.1 M) {i cells slots : Nat} (hi : i + 4 ≤ L) (hc : cells ≤ 500000) (hsl : slots ≤ 7000000) (v : Nat) (p1 : Int32) (hv : v < 12) (hb : ¬ gm_rg p1 0 21) (hx1 : xs (i + 1) = nI v) (hx2 : xs (i + 2) = p1) (K : ∀ (f9 : Nat → Int64) (u9 : gw_U) (v9 : gd_U) (c9 s9 : Nat), c9 ≤ cells + 20 → s9 ≤ slots + 240 → gc_rep u9.1.1 u9.1.2 M → gr_st v9.1 v9.2.1 M → gr_now v9.2.2.1 M → gk_C p l e room_1 s m args below meth c 9 D A Q c9 s9 (gd_X cI h q3 v9 ++ (gw_O cJ o f9 ++ (gw_X cI cZ g h1 h2 q q2 u9))) [(4, .int (nI i)), (3, .ref o), (2, .ref h), (1, .ref g), (0, .ref b)] 1565 []) : gk_C p l e room_1 s m args below meth c 9 D A Q cells slots (gd_X cI h q3 v0 ++ (gw_O cJ o f ++ (gw_X cI cZ g h1 h2 q q2 u0))) [(4, .int (nI i)), (3, .ref o), (2, .ref h), (1, .ref g), (0, .ref b)] 236 [] := by
  refine gk_aload_n G dL_law_236 3 rfl ?_
  refine gk_aload_n G dL_law_237 4 rfl ?_
  refine gk_iload G dL_law_238 0 rfl ?_
  refine gk_iconst (v := nI 1) G dL_law_240 (by decide) ?_
  refine gk_iadd (v := nI (i + 1)) G dL_law_241 (nI_add i 1) ?_
  refine gk_sld (v := (nI v)) G hX hbl hbA (i + 1) rfl (by omega) (by omega) hx1 dL_law_242 ?_
  refine gk_aload_n G dL_law_243 4 rfl ?_
  refine gk_iload G dL_law_244 0 rfl ?_
  refine gk_iconst (v := nI 2) G dL_law_246 (by decide) ?_
  refine gk_iadd (v := nI (i + 2)) G dL_law_247 (nI_add i 2) ?_
  refine gk_sld (v := p1) G hX hbl hbA (i + 2) rfl (by omega) (by omega) hx2 dL_law_248 ?_
  refine gk_aload_n G dL_law_249 1 rfl ?_
  refine gk_callISW (wr := gd_X cI h q3 v0) G (cl_setWind_no2 l D cI cZ cJ o f g h1 h2 q q2 u0 M hl9 v p1 wf hr hv hb) gL_law_L_setWind rfl 4 (by decide +kernel) rfl rfl ⟨(Nat.le_of_ble_eq_true rfl), (Nat.le_of_ble_eq_true rfl)⟩ rfl gl_Fok hE [8, 9, 10, 11, 12, 13, 14, 15, 16, 17, 18, 19, 20, 21, 22, 23, 24, 25, 26, 27, 28, 29] rfl (by decide) [0, 1, 2, 3, 4, 5, 6, 7] rfl (by decide) (by decide) rfl (Nat.le_of_ble_eq_true rfl) dL_law_250 ⟨(show cells + 1 ≤ 601024 by omega), (show slots + 6 ≤ 7293034 by omega)⟩ (fun r250 uu250 hp250 => ?_)
  obtain ⟨f250, u250⟩ := uu250
  have hK250 : r250 = nI 2 := hp250.1
  have hr250 : gc_rep u250.1.1 u250.1.2 M := hp250.2
  show gk_C p l e room_1 s m args below meth c 9 D A Q (cells + 1) (slots + 6) (gd_X cI h q3 v0 ++ (gw_O cJ o f250 ++ (gw_X cI cZ g h1 h2 q q2 u250))) [(4, .int (nI i)), (3, .ref o), (2, .ref h), (1, .ref g), (0, .ref b)] 253 [.int r250]
  refine gk_istore (lv' := [(5, .int r250), (4, .int (nI i)), (3, .ref o), (2, .ref h), (1, .ref g), (0, .ref b)]) G dL_law_253 (by decide) rfl ?_
  refine gk_aload_n G dL_law_255 3 rfl ?_
  refine gk_aload_n G dL_law_256 5 rfl ?_
  refine gk_iload G dL_law_257 1 rfl ?_
  refine gk_iconst (v := nI 1) G dL_law_259 (by decide) ?_
  refine gk_iadd (v := nI (i + 1)) G dL_law_260 (nI_add i 1) ?_
  refine gk_sld (v := (nI v)) G hX hbl hbA (i + 1) rfl (by omega) (by omega) hx1 dL_law_261 ?_
  refine gk_aload_n G dL_law_262 5 rfl ?_
  refine gk_iload G dL_law_263 1 rfl ?_
  refine gk_iconst (v := nI 2) G dL_law_265 (by decide) ?_
  refine gk_iadd (v := nI (i + 2)) G dL_law_266 (nI_add i 2) ?_
  refine gk_sld (v := p1) G hX hbl hbA (i + 2) rfl (by omega) (by omega) hx2 dL_law_267 ?_
  refine gk_callIV (wr := gw_O cJ o f250 ++ (gw_X cI cZ g h1 h2 q q2 u250)) G (c2_setWind_no2 l D cI cZ cJ h q3 v0.1 v0.2.1 v0.2.2.1 v0.2.2.2.1 v0.2.2.2.2 M v p1 wf hs hn (by omega) hb) gL_law_X2_setWind rfl 2 (by decide +kernel) rfl rfl ⟨(Nat.le_of_ble_eq_true rfl), (Nat.le_of_ble_eq_true rfl)⟩ rfl (q0 := 0) rfl (T := TX2) (N := 12) rfl gk_ok0 trivial [0, 1, 2, 3, 4, 5, 6, 7] rfl (by decide) [8, 9, 10, 11, 12, 13, 14, 15, 16, 17, 18, 19, 20, 21, 22, 23, 24, 25, 26, 27, 28, 29] rfl (by decide) (by decide) rfl (Nat.le_of_ble_eq_true rfl) dL_law_268 ⟨(show (cells + 1) + 0 ≤ 601024 by omega), (show (slots + 6) + 0 ≤ 7293034 by omega)⟩ (fun r268 v268 hp268 => ?_)
  have hR268 : r268 = nI 0 := hp268.1
  have hs268 : gr_st v268.1 v268.2.1 M := hp268.2.1
  have hn268 : gr_now v268.2.2.1 M := hp268.2.2.1
  have hF268 : v268.1 0 = nI 2 := hp268.2.2.2
  refine gk_wsub (w' := (gd_X cI h q3 v268 ++ (gw_O cJ o f250 ++ (gw_X cI cZ g h1 h2 q q2 u250)))) [22, 23, 24, 25, 26, 27, 28, 29, 0, 1, 2, 3, 4, 5, 6, 7, 8, 9, 10, 11, 12, 13, 14, 15, 16, 17, 18, 19, 20, 21] rfl (by decide) ?_
  show gk_C p l e room_1 s m args below meth c 9 D A Q ((cells + 1) + 0) ((slots + 6) + 0) (gd_X cI h q3 v268 ++ (gw_O cJ o f250 ++ (gw_X cI cZ g h1 h2 q q2 u250))) [(5, .int r250), (4, .int (nI i)), (3, .ref o), (2, .ref h), (1, .ref g), (0, .ref b)] 271 [.int r268]
  refine gk_istore (lv' := [(6, .int r268), (5, .int r250), (4, .int (nI i)), (3, .ref o), (2, .ref h), (1, .ref g), (0, .ref b)]) G dL_law_271 (by decide) rfl ?_
  refine gk_aload_n G dL_law_273 4 rfl ?_
  refine gk_callIV (wr := gw_O cJ o f250 ++ (gw_X cI cZ g h1 h2 q q2 u250)) G (c2_thrown l D cI cZ cJ h q3 v268.1 v268.2.1 v268.2.2.1 v268.2.2.2.1 v268.2.2.2.2 M) gL_law_X2_thrown rfl 0 (by decide +kernel) rfl rfl ⟨(Nat.le_of_ble_eq_true rfl), (Nat.le_of_ble_eq_true rfl)⟩ rfl (q0 := 0) rfl (T := TX2) (N := 12) rfl gk_ok0 trivial [0, 1, 2, 3, 4, 5, 6, 7] rfl (by decide) [8, 9, 10, 11, 12, 13, 14, 15, 16, 17, 18, 19, 20, 21, 22, 23, 24, 25, 26, 27, 28, 29] rfl (by decide) (by decide) rfl (Nat.le_of_ble_eq_true rfl) dL_law_274 ⟨(show ((cells + 1) + 0) + 0 ≤ 601024 by omega), (show ((slots + 6) + 0) + 0 ≤ 7293034 by omega)⟩ (fun r274 u274 hp274 => ?_)
  have hT274 : r274 = nI 2 := (show r274 = v268.1 0 from hp274).trans hF268
  refine gk_wsub (w' := (gd_X cI h q3 v268 ++ (gw_O cJ o f250 ++ (gw_X cI cZ g h1 h2 q q2 u250)))) [22, 23, 24, 25, 26, 27, 28, 29, 0, 1, 2, 3, 4, 5, 6, 7, 8, 9, 10, 11, 12, 13, 14, 15, 16, 17, 18, 19, 20, 21] rfl (by decide) ?_
  show gk_C p l e room_1 s m args below meth c 9 D A Q (((cells + 1) + 0) + 0) (((slots + 6) + 0) + 0) (gd_X cI h q3 v268 ++ (gw_O cJ o f250 ++ (gw_X cI cZ g h1 h2 q q2 u250))) [(6, .int r268), (5, .int r250), (4, .int (nI i)), (3, .ref o), (2, .ref h), (1, .ref g), (0, .ref b)] 277 [.int r274]
  refine gk_iload G dL_law_277 1 rfl ?_
  refine gk_icmp_eq (tgt := 284) G dL_law_279 (by decide) (fun c_279 => ?_) (fun c_279 => ?_)
  · refine gk_iload G dL_law_284 1 rfl ?_
    refine gk_if_ne (tgt := 301) G dL_law_286 (by decide) (fun c_286 => ?_) (fun c_286 => ?_)
    · refine gk_goto (tgt := 1565) G dL_law_301 (by decide) ?_
      exact gk_lsub [2, 3, 4, 5, 6] rfl (K f250 u250 v268 _ _ (by omega) (by omega) hr250 hs268 hn268)
    · exact absurd (hK250.symm.trans c_286) (by decide)
  · exact absurd (hT274.trans hK250.symm) c_279
set_option maxRecDepth 100000 in
set_option maxHeartbeats 1000000 in
theorem lg_setWind_ok {p : Program} {l : Launch} {e : Env} {s : State} {m : MethodId} {args : Array Value} {below : List Frame} {meth : Method} {c : Code} {D : va_G} {A : Nat → Prop} {Q : State → Prop} {cI cZ cJ : ClassId} {b L : Nat} {xs : Nat → Int32} (G : gk_G p s m args meth c RL 9 cL_law (some .boolean) wsL_law D (g_T cI cZ cJ) A) (hE : gl_F A s s.heap) (hl9 : l.stackTraces = false) (hX : va_X b L xs s s.heap) (hbl : b < s.heap.size) (hbA : ¬ A b) (hL : L ≤ 2048) {g h1 h2 o h : Nat} {q q2 q3 : Nat → Nat} {f : Nat → Int64} {u0 : gw_U} {v0 : gd_U} {M : gm_M} (wf : gm_wf M) (hrest : gm_rest M) (hh : M 9 0 < 1999000) (hr : gc_rep u0.1.1 u0.1.2 M) (hs : gr_st v0.1 v0.2.1 M) (hn : gr_now v0.2.2.1 M) {i cells slots : Nat} (hi : i + 4 ≤ L) (hc : cells ≤ 500000) (hsl : slots ≤ 7000000) (v : Nat) (x : Nat) (hv : v < 12) (hx : x < 21) (hx1 : xs (i + 1) = nI v) (hx2 : xs (i + 2) = nI x) (K : ∀ (f9 : Nat → Int64) (u9 : gw_U) (v9 : gd_U) (c9 s9 : Nat), c9 ≤ cells + 20 → s9 ≤ slots + 240 → gc_rep u9.1.1 u9.1.2 (gm_set M 0 v x) → gr_st v9.1 v9.2.1 (gm_set M 0 v x) → gr_now v9.2.2.1 (gm_set M 0 v x) → gk_C p l e room_1 s m args below meth c 9 D A Q c9 s9 (gd_X cI h q3 v9 ++ (gw_O cJ o f9 ++ (gw_X cI cZ g h1 h2 q q2 u9))) [(4, .int (nI i)), (3, .ref o), (2, .ref h), (1, .ref g), (0, .ref b)] 1565 []) : gk_C p l e room_1 s m args below meth c 9 D A Q cells slots (gd_X cI h q3 v0 ++ (gw_O cJ o f ++ (gw_X cI cZ g h1 h2 q q2 u0))) [(4, .int (nI i)), (3, .ref o), (2, .ref h), (1, .ref g), (0, .ref b)] 236 [] := by
  refine gk_aload_n G dL_law_236 3 rfl ?_
  refine gk_aload_n G dL_law_237 4 rfl ?_
  refine gk_iload G dL_law_238 0 rfl ?_
  refine gk_iconst (v := nI 1) G dL_law_240 (by decide) ?_
  refine gk_iadd (v := nI (i + 1)) G dL_law_241 (nI_add i 1) ?_
  refine gk_sld (v := (nI v)) G hX hbl hbA (i + 1) rfl (by omega) (by omega) hx1 dL_law_242 ?_
  refine gk_aload_n G dL_law_243 4 rfl ?_
  refine gk_iload G dL_law_244 0 rfl ?_
  refine gk_iconst (v := nI 2) G dL_law_246 (by decide) ?_
  refine gk_iadd (v := nI (i + 2)) G dL_law_247 (nI_add i 2) ?_
  refine gk_sld (v := (nI x)) G hX hbl hbA (i + 2) rfl (by omega) (by omega) hx2 dL_law_248 ?_
  refine gk_aload_n G dL_law_249 1 rfl ?_
  refine gk_callISW (wr := gd_X cI h q3 v0) G (cl_setWind_ok l D cI cZ cJ o f g h1 h2 q q2 u0 M v x wf hr hv hx) gL_law_L_setWind rfl 4 (by decide +kernel) rfl rfl ⟨(Nat.le_of_ble_eq_true rfl), (Nat.le_of_ble_eq_true rfl)⟩ rfl gl_Fok hE [8, 9, 10, 11, 12, 13, 14, 15, 16, 17, 18, 19, 20, 21, 22, 23, 24, 25, 26, 27, 28, 29] rfl (by decide) [0, 1, 2, 3, 4, 5, 6, 7] rfl (by decide) (by decide) rfl (Nat.le_of_ble_eq_true rfl) dL_law_250 ⟨(show cells + 0 ≤ 601024 by omega), (show slots + 0 ≤ 7293034 by omega)⟩ (fun r250 uu250 hp250 => ?_)
  obtain ⟨f250, u250⟩ := uu250
  have hK250 : r250 = nI 0 := hp250.1
  have hv250 : f250 0 = (nI (M 0 v)).toInt64 := hp250.2.1
  have hr250 : gc_rep u250.1.1 u250.1.2 (gm_set M 0 v x) := hp250.2.2
  show gk_C p l e room_1 s m args below meth c 9 D A Q (cells + 0) (slots + 0) (gd_X cI h q3 v0 ++ (gw_O cJ o f250 ++ (gw_X cI cZ g h1 h2 q q2 u250))) [(4, .int (nI i)), (3, .ref o), (2, .ref h), (1, .ref g), (0, .ref b)] 253 [.int r250]
  refine gk_istore (lv' := [(5, .int r250), (4, .int (nI i)), (3, .ref o), (2, .ref h), (1, .ref g), (0, .ref b)]) G dL_law_253 (by decide) rfl ?_
  refine gk_aload_n G dL_law_255 3 rfl ?_
  refine gk_aload_n G dL_law_256 5 rfl ?_
  refine gk_iload G dL_law_257 1 rfl ?_
  refine gk_iconst (v := nI 1) G dL_law_259 (by decide) ?_
  refine gk_iadd (v := nI (i + 1)) G dL_law_260 (nI_add i 1) ?_
  refine gk_sld (v := (nI v)) G hX hbl hbA (i + 1) rfl (by omega) (by omega) hx1 dL_law_261 ?_
  refine gk_aload_n G dL_law_262 5 rfl ?_
  refine gk_iload G dL_law_263 1 rfl ?_
  refine gk_iconst (v := nI 2) G dL_law_265 (by decide) ?_
  refine gk_iadd (v := nI (i + 2)) G dL_law_266 (nI_add i 2) ?_
  refine gk_sld (v := (nI x)) G hX hbl hbA (i + 2) rfl (by omega) (by omega) hx2 dL_law_267 ?_
  refine gk_callIV (wr := gw_O cJ o f250 ++ (gw_X cI cZ g h1 h2 q q2 u250)) G (c2_setWind_ok l D cI cZ cJ h q3 v0.1 v0.2.1 v0.2.2.1 v0.2.2.2.1 v0.2.2.2.2 M v x wf hs hn (by omega) (by omega)) gL_law_X2_setWind rfl 2 (by decide +kernel) rfl rfl ⟨(Nat.le_of_ble_eq_true rfl), (Nat.le_of_ble_eq_true rfl)⟩ rfl (q0 := 0) rfl (T := TX2) (N := 12) rfl gk_ok0 trivial [0, 1, 2, 3, 4, 5, 6, 7] rfl (by decide) [8, 9, 10, 11, 12, 13, 14, 15, 16, 17, 18, 19, 20, 21, 22, 23, 24, 25, 26, 27, 28, 29] rfl (by decide) (by decide) rfl (Nat.le_of_ble_eq_true rfl) dL_law_268 ⟨(show (cells + 0) + 0 ≤ 601024 by omega), (show (slots + 0) + 0 ≤ 7293034 by omega)⟩ (fun r268 v268 hp268 => ?_)
  have hR268 : r268 = nI (M 0 v) := hp268.1
  have hs268 : gr_st v268.1 v268.2.1 (gm_set M 0 v x) := hp268.2.1
  have hn268 : gr_now v268.2.2.1 (gm_set M 0 v x) := hp268.2.2.1
  have hF268 : v268.1 0 = nI 0 := hp268.2.2.2
  refine gk_wsub (w' := (gd_X cI h q3 v268 ++ (gw_O cJ o f250 ++ (gw_X cI cZ g h1 h2 q q2 u250)))) [22, 23, 24, 25, 26, 27, 28, 29, 0, 1, 2, 3, 4, 5, 6, 7, 8, 9, 10, 11, 12, 13, 14, 15, 16, 17, 18, 19, 20, 21] rfl (by decide) ?_
  show gk_C p l e room_1 s m args below meth c 9 D A Q ((cells + 0) + 0) ((slots + 0) + 0) (gd_X cI h q3 v268 ++ (gw_O cJ o f250 ++ (gw_X cI cZ g h1 h2 q q2 u250))) [(5, .int r250), (4, .int (nI i)), (3, .ref o), (2, .ref h), (1, .ref g), (0, .ref b)] 271 [.int r268]
  refine gk_istore (lv' := [(6, .int r268), (5, .int r250), (4, .int (nI i)), (3, .ref o), (2, .ref h), (1, .ref g), (0, .ref b)]) G dL_law_271 (by decide) rfl ?_
  refine gk_aload_n G dL_law_273 4 rfl ?_
  refine gk_callIV (wr := gw_O cJ o f250 ++ (gw_X cI cZ g h1 h2 q q2 u250)) G (c2_thrown l D cI cZ cJ h q3 v268.1 v268.2.1 v268.2.2.1 v268.2.2.2.1 v268.2.2.2.2 M) gL_law_X2_thrown rfl 0 (by decide +kernel) rfl rfl ⟨(Nat.le_of_ble_eq_true rfl), (Nat.le_of_ble_eq_true rfl)⟩ rfl (q0 := 0) rfl (T := TX2) (N := 12) rfl gk_ok0 trivial [0, 1, 2, 3, 4, 5, 6, 7] rfl (by decide) [8, 9, 10, 11, 12, 13, 14, 15, 16, 17, 18, 19, 20, 21, 22, 23, 24, 25, 26, 27, 28, 29] rfl (by decide) (by decide) rfl (Nat.le_of_ble_eq_true rfl) dL_law_274 ⟨(show ((cells + 0) + 0) + 0 ≤ 601024 by omega), (show ((slots + 0) + 0) + 0 ≤ 7293034 by omega)⟩ (fun r274 u274 hp274 => ?_)
  have hT274 : r274 = nI 0 := (show r274 = v268.1 0 from hp274).trans hF268
  refine gk_wsub (w' := (gd_X cI h q3 v268 ++ (gw_O cJ o f250 ++ (gw_X cI cZ g h1 h2 q q2 u250)))) [22, 23, 24, 25, 26, 27, 28, 29, 0, 1, 2, 3, 4, 5, 6, 7, 8, 9, 10, 11, 12, 13, 14, 15, 16, 17, 18, 19, 20, 21] rfl (by decide) ?_
  show gk_C p l e room_1 s m args below meth c 9 D A Q (((cells + 0) + 0) + 0) (((slots + 0) + 0) + 0) (gd_X cI h q3 v268 ++ (gw_O cJ o f250 ++ (gw_X cI cZ g h1 h2 q q2 u250))) [(6, .int r268), (5, .int r250), (4, .int (nI i)), (3, .ref o), (2, .ref h), (1, .ref g), (0, .ref b)] 277 [.int r274]
  refine gk_iload G dL_law_277 1 rfl ?_
  refine gk_icmp_eq (tgt := 284) G dL_law_279 (by decide) (fun c_279 => ?_) (fun c_279 => ?_)
  · refine gk_iload G dL_law_284 1 rfl ?_
    refine gk_if_ne (tgt := 301) G dL_law_286 (by decide) (fun c_286 => ?_) (fun c_286 => ?_)
    · exact absurd (hK250.trans nI_0) c_286
    · refine gk_aload_n G dL_law_289 3 rfl ?_
      refine gk_iconst (v := nI 0) G dL_law_290 (by decide) ?_
      refine gk_lald (v := f250 0) G (q0 := 8) (t0 := 2) rfl rfl 0 rfl (by decide) (by decide) rfl dL_law_291 ?_
      refine gk_iload G dL_law_292 0 rfl ?_
      refine gk_i2l (v := (r268).toInt64) G dL_law_294 rfl ?_
      refine gk_lcmp G dL_law_295 ?_
      refine gk_if_eq (tgt := 301) G dL_law_296 (by decide) (fun c_296 => ?_) (fun c_296 => ?_)
      · refine gk_goto (tgt := 1565) G dL_law_301 (by decide) ?_
        exact gk_lsub [2, 3, 4, 5, 6] rfl (K f250 u250 v268 _ _ (by omega) (by omega) hr250 hs268 hn268)
      · exact absurd (gl_cmp (hv250.trans (congrArg Int32.toInt64 hR268).symm)) c_296
  · exact absurd (hT274.trans hK250.symm) c_279
set_option maxRecDepth 100000 in
set_option maxHeartbeats 1000000 in
theorem lg_setRule_no {p : Program} {l : Launch} {e : Env} {s : State} {m : MethodId} {args : Array Value} {below : List Frame} {meth : Method} {c : Code} {D : va_G} {A : Nat → Prop} {Q : State → Prop} {cI cZ cJ : ClassId} {b L : Nat} {xs : Nat → Int32} (G : gk_G p s m args meth c RL 9 cL_law (some .boolean) wsL_law D (g_T cI cZ cJ) A) (hE : gl_F A s s.heap) (hl9 : l.stackTraces = false) (hX : va_X b L xs s s.heap) (hbl : b < s.heap.size) (hbA : ¬ A b) (hL : L ≤ 2048) {g h1 h2 o h : Nat} {q q2 q3 : Nat → Nat} {f : Nat → Int64} {u0 : gw_U} {v0 : gd_U} {M : gm_M} (wf : gm_wf M) (hrest : gm_rest M) (hh : M 9 0 < 1999000) (hr : gc_rep u0.1.1 u0.1.2 M) (hs : gr_st v0.1 v0.2.1 M) (hn : gr_now v0.2.2.1 M) {i cells slots : Nat} (hi : i + 4 ≤ L) (hc : cells ≤ 500000) (hsl : slots ≤ 7000000) (p0 : Int32) (hb : ¬ gm_rg p0 0 3) (hx1 : xs (i + 1) = p0) (K : ∀ (f9 : Nat → Int64) (u9 : gw_U) (v9 : gd_U) (c9 s9 : Nat), c9 ≤ cells + 20 → s9 ≤ slots + 240 → gc_rep u9.1.1 u9.1.2 M → gr_st v9.1 v9.2.1 M → gr_now v9.2.2.1 M → gk_C p l e room_1 s m args below meth c 9 D A Q c9 s9 (gd_X cI h q3 v9 ++ (gw_O cJ o f9 ++ (gw_X cI cZ g h1 h2 q q2 u9))) [(4, .int (nI i)), (3, .ref o), (2, .ref h), (1, .ref g), (0, .ref b)] 1565 []) : gk_C p l e room_1 s m args below meth c 9 D A Q cells slots (gd_X cI h q3 v0 ++ (gw_O cJ o f ++ (gw_X cI cZ g h1 h2 q q2 u0))) [(4, .int (nI i)), (3, .ref o), (2, .ref h), (1, .ref g), (0, .ref b)] 304 [] := by
  refine gk_aload_n G dL_law_304 3 rfl ?_
  refine gk_aload_n G dL_law_305 4 rfl ?_
  refine gk_iload G dL_law_306 0 rfl ?_
  refine gk_iconst (v := nI 1) G dL_law_308 (by decide) ?_
  refine gk_iadd (v := nI (i + 1)) G dL_law_309 (nI_add i 1) ?_
  refine gk_sld (v := p0) G hX hbl hbA (i + 1) rfl (by omega) (by omega) hx1 dL_law_310 ?_
  refine gk_aload_n G dL_law_311 1 rfl ?_
  refine gk_callISW (wr := gd_X cI h q3 v0) G (cl_setRule_no l D cI cZ cJ o f g h1 h2 q q2 u0 M hl9 p0 wf hr hb) gL_law_L_setRule rfl 3 (by decide +kernel) rfl rfl ⟨(Nat.le_of_ble_eq_true rfl), (Nat.le_of_ble_eq_true rfl)⟩ rfl gl_Fok hE [8, 9, 10, 11, 12, 13, 14, 15, 16, 17, 18, 19, 20, 21, 22, 23, 24, 25, 26, 27, 28, 29] rfl (by decide) [0, 1, 2, 3, 4, 5, 6, 7] rfl (by decide) (by decide) rfl (Nat.le_of_ble_eq_true rfl) dL_law_312 ⟨(show cells + 1 ≤ 601024 by omega), (show slots + 6 ≤ 7293034 by omega)⟩ (fun r312 uu312 hp312 => ?_)
  obtain ⟨f312, u312⟩ := uu312
  have hK312 : r312 = nI 1 := hp312.1
  have hr312 : gc_rep u312.1.1 u312.1.2 M := hp312.2
  show gk_C p l e room_1 s m args below meth c 9 D A Q (cells + 1) (slots + 6) (gd_X cI h q3 v0 ++ (gw_O cJ o f312 ++ (gw_X cI cZ g h1 h2 q q2 u312))) [(4, .int (nI i)), (3, .ref o), (2, .ref h), (1, .ref g), (0, .ref b)] 315 [.int r312]
  refine gk_istore (lv' := [(5, .int r312), (4, .int (nI i)), (3, .ref o), (2, .ref h), (1, .ref g), (0, .ref b)]) G dL_law_315 (by decide) rfl ?_
  refine gk_aload_n G dL_law_317 3 rfl ?_
  refine gk_aload_n G dL_law_318 5 rfl ?_
  refine gk_iload G dL_law_319 1 rfl ?_
  refine gk_iconst (v := nI 1) G dL_law_321 (by decide) ?_
  refine gk_iadd (v := nI (i + 1)) G dL_law_322 (nI_add i 1) ?_
  refine gk_sld (v := p0) G hX hbl hbA (i + 1) rfl (by omega) (by omega) hx1 dL_law_323 ?_
  refine gk_callIV (wr := gw_O cJ o f312 ++ (gw_X cI cZ g h1 h2 q q2 u312)) G (c2_setRule_no l D cI cZ cJ h q3 v0.1 v0.2.1 v0.2.2.1 v0.2.2.2.1 v0.2.2.2.2 M p0 wf hs hn hb) gL_law_X2_setRule rfl 1 (by decide +kernel) rfl rfl ⟨(Nat.le_of_ble_eq_true rfl), (Nat.le_of_ble_eq_true rfl)⟩ rfl (q0 := 0) rfl (T := TX2) (N := 12) rfl gk_ok0 trivial [0, 1, 2, 3, 4, 5, 6, 7] rfl (by decide) [8, 9, 10, 11, 12, 13, 14, 15, 16, 17, 18, 19, 20, 21, 22, 23, 24, 25, 26, 27, 28, 29] rfl (by decide) (by decide) rfl (Nat.le_of_ble_eq_true rfl) dL_law_324 ⟨(show (cells + 1) + 0 ≤ 601024 by omega), (show (slots + 6) + 0 ≤ 7293034 by omega)⟩ (fun r324 v324 hp324 => ?_)
  have hR324 : r324 = nI 0 := hp324.1
  have hs324 : gr_st v324.1 v324.2.1 M := hp324.2.1
  have hn324 : gr_now v324.2.2.1 M := hp324.2.2.1
  have hF324 : v324.1 0 = nI 1 := hp324.2.2.2
  refine gk_wsub (w' := (gd_X cI h q3 v324 ++ (gw_O cJ o f312 ++ (gw_X cI cZ g h1 h2 q q2 u312)))) [22, 23, 24, 25, 26, 27, 28, 29, 0, 1, 2, 3, 4, 5, 6, 7, 8, 9, 10, 11, 12, 13, 14, 15, 16, 17, 18, 19, 20, 21] rfl (by decide) ?_
  show gk_C p l e room_1 s m args below meth c 9 D A Q ((cells + 1) + 0) ((slots + 6) + 0) (gd_X cI h q3 v324 ++ (gw_O cJ o f312 ++ (gw_X cI cZ g h1 h2 q q2 u312))) [(5, .int r312), (4, .int (nI i)), (3, .ref o), (2, .ref h), (1, .ref g), (0, .ref b)] 327 [.int r324]
  refine gk_istore (lv' := [(6, .int r324), (5, .int r312), (4, .int (nI i)), (3, .ref o), (2, .ref h), (1, .ref g), (0, .ref b)]) G dL_law_327 (by decide) rfl ?_
  refine gk_aload_n G dL_law_329 4 rfl ?_
  refine gk_callIV (wr := gw_O cJ o f312 ++ (gw_X cI cZ g h1 h2 q q2 u312)) G (c2_thrown l D cI cZ cJ h q3 v324.1 v324.2.1 v324.2.2.1 v324.2.2.2.1 v324.2.2.2.2 M) gL_law_X2_thrown rfl 0 (by decide +kernel) rfl rfl ⟨(Nat.le_of_ble_eq_true rfl), (Nat.le_of_ble_eq_true rfl)⟩ rfl (q0 := 0) rfl (T := TX2) (N := 12) rfl gk_ok0 trivial [0, 1, 2, 3, 4, 5, 6, 7] rfl (by decide) [8, 9, 10, 11, 12, 13, 14, 15, 16, 17, 18, 19, 20, 21, 22, 23, 24, 25, 26, 27, 28, 29] rfl (by decide) (by decide) rfl (Nat.le_of_ble_eq_true rfl) dL_law_330 ⟨(show ((cells + 1) + 0) + 0 ≤ 601024 by omega), (show ((slots + 6) + 0) + 0 ≤ 7293034 by omega)⟩ (fun r330 u330 hp330 => ?_)
  have hT330 : r330 = nI 1 := (show r330 = v324.1 0 from hp330).trans hF324
  refine gk_wsub (w' := (gd_X cI h q3 v324 ++ (gw_O cJ o f312 ++ (gw_X cI cZ g h1 h2 q q2 u312)))) [22, 23, 24, 25, 26, 27, 28, 29, 0, 1, 2, 3, 4, 5, 6, 7, 8, 9, 10, 11, 12, 13, 14, 15, 16, 17, 18, 19, 20, 21] rfl (by decide) ?_
  show gk_C p l e room_1 s m args below meth c 9 D A Q (((cells + 1) + 0) + 0) (((slots + 6) + 0) + 0) (gd_X cI h q3 v324 ++ (gw_O cJ o f312 ++ (gw_X cI cZ g h1 h2 q q2 u312))) [(6, .int r324), (5, .int r312), (4, .int (nI i)), (3, .ref o), (2, .ref h), (1, .ref g), (0, .ref b)] 333 [.int r330]
  refine gk_iload G dL_law_333 1 rfl ?_
  refine gk_icmp_eq (tgt := 340) G dL_law_335 (by decide) (fun c_335 => ?_) (fun c_335 => ?_)
  · refine gk_iload G dL_law_340 1 rfl ?_
    refine gk_if_ne (tgt := 357) G dL_law_342 (by decide) (fun c_342 => ?_) (fun c_342 => ?_)
    · refine gk_goto (tgt := 1565) G dL_law_357 (by decide) ?_
      exact gk_lsub [2, 3, 4, 5, 6] rfl (K f312 u312 v324 _ _ (by omega) (by omega) hr312 hs324 hn324)
    · exact absurd (hK312.symm.trans c_342) (by decide)
  · exact absurd (hT330.trans hK312.symm) c_335
set_option maxRecDepth 100000 in
set_option maxHeartbeats 1000000 in
theorem lg_setRule_ok {p : Program} {l : Launch} {e : Env} {s : State} {m : MethodId} {args : Array Value} {below : List Frame} {meth : Method} {c : Code} {D : va_G} {A : Nat → Prop} {Q : State → Prop} {cI cZ cJ : ClassId} {b L : Nat} {xs : Nat → Int32} (G : gk_G p s m args meth c RL 9 cL_law (some .boolean) wsL_law D (g_T cI cZ cJ) A) (hE : gl_F A s s.heap) (hl9 : l.stackTraces = false) (hX : va_X b L xs s s.heap) (hbl : b < s.heap.size) (hbA : ¬ A b) (hL : L ≤ 2048) {g h1 h2 o h : Nat} {q q2 q3 : Nat → Nat} {f : Nat → Int64} {u0 : gw_U} {v0 : gd_U} {M : gm_M} (wf : gm_wf M) (hrest : gm_rest M) (hh : M 9 0 < 1999000) (hr : gc_rep u0.1.1 u0.1.2 M) (hs : gr_st v0.1 v0.2.1 M) (hn : gr_now v0.2.2.1 M) {i cells slots : Nat} (hi : i + 4 ≤ L) (hc : cells ≤ 500000) (hsl : slots ≤ 7000000) (v : Nat) (hv : v < 3) (hx1 : xs (i + 1) = nI v) (K : ∀ (f9 : Nat → Int64) (u9 : gw_U) (v9 : gd_U) (c9 s9 : Nat), c9 ≤ cells + 20 → s9 ≤ slots + 240 → gc_rep u9.1.1 u9.1.2 (gm_set M 14 0 v) → gr_st v9.1 v9.2.1 (gm_set M 14 0 v) → gr_now v9.2.2.1 (gm_set M 14 0 v) → gk_C p l e room_1 s m args below meth c 9 D A Q c9 s9 (gd_X cI h q3 v9 ++ (gw_O cJ o f9 ++ (gw_X cI cZ g h1 h2 q q2 u9))) [(4, .int (nI i)), (3, .ref o), (2, .ref h), (1, .ref g), (0, .ref b)] 1565 []) : gk_C p l e room_1 s m args below meth c 9 D A Q cells slots (gd_X cI h q3 v0 ++ (gw_O cJ o f ++ (gw_X cI cZ g h1 h2 q q2 u0))) [(4, .int (nI i)), (3, .ref o), (2, .ref h), (1, .ref g), (0, .ref b)] 304 [] := by
  refine gk_aload_n G dL_law_304 3 rfl ?_
  refine gk_aload_n G dL_law_305 4 rfl ?_
  refine gk_iload G dL_law_306 0 rfl ?_
  refine gk_iconst (v := nI 1) G dL_law_308 (by decide) ?_
  refine gk_iadd (v := nI (i + 1)) G dL_law_309 (nI_add i 1) ?_
  refine gk_sld (v := (nI v)) G hX hbl hbA (i + 1) rfl (by omega) (by omega) hx1 dL_law_310 ?_
  refine gk_aload_n G dL_law_311 1 rfl ?_
  refine gk_callISW (wr := gd_X cI h q3 v0) G (cl_setRule_ok l D cI cZ cJ o f g h1 h2 q q2 u0 M v wf hr hv) gL_law_L_setRule rfl 3 (by decide +kernel) rfl rfl ⟨(Nat.le_of_ble_eq_true rfl), (Nat.le_of_ble_eq_true rfl)⟩ rfl gl_Fok hE [8, 9, 10, 11, 12, 13, 14, 15, 16, 17, 18, 19, 20, 21, 22, 23, 24, 25, 26, 27, 28, 29] rfl (by decide) [0, 1, 2, 3, 4, 5, 6, 7] rfl (by decide) (by decide) rfl (Nat.le_of_ble_eq_true rfl) dL_law_312 ⟨(show cells + 0 ≤ 601024 by omega), (show slots + 0 ≤ 7293034 by omega)⟩ (fun r312 uu312 hp312 => ?_)
  obtain ⟨f312, u312⟩ := uu312
  have hK312 : r312 = nI 0 := hp312.1
  have hv312 : f312 0 = (nI (M 14 0)).toInt64 := hp312.2.1
  have hr312 : gc_rep u312.1.1 u312.1.2 (gm_set M 14 0 v) := hp312.2.2
  show gk_C p l e room_1 s m args below meth c 9 D A Q (cells + 0) (slots + 0) (gd_X cI h q3 v0 ++ (gw_O cJ o f312 ++ (gw_X cI cZ g h1 h2 q q2 u312))) [(4, .int (nI i)), (3, .ref o), (2, .ref h), (1, .ref g), (0, .ref b)] 315 [.int r312]
  refine gk_istore (lv' := [(5, .int r312), (4, .int (nI i)), (3, .ref o), (2, .ref h), (1, .ref g), (0, .ref b)]) G dL_law_315 (by decide) rfl ?_
  refine gk_aload_n G dL_law_317 3 rfl ?_
  refine gk_aload_n G dL_law_318 5 rfl ?_
  refine gk_iload G dL_law_319 1 rfl ?_
  refine gk_iconst (v := nI 1) G dL_law_321 (by decide) ?_
  refine gk_iadd (v := nI (i + 1)) G dL_law_322 (nI_add i 1) ?_
  refine gk_sld (v := (nI v)) G hX hbl hbA (i + 1) rfl (by omega) (by omega) hx1 dL_law_323 ?_
  refine gk_callIV (wr := gw_O cJ o f312 ++ (gw_X cI cZ g h1 h2 q q2 u312)) G (c2_setRule_ok l D cI cZ cJ h q3 v0.1 v0.2.1 v0.2.2.1 v0.2.2.2.1 v0.2.2.2.2 M v wf hs hn (by omega)) gL_law_X2_setRule rfl 1 (by decide +kernel) rfl rfl ⟨(Nat.le_of_ble_eq_true rfl), (Nat.le_of_ble_eq_true rfl)⟩ rfl (q0 := 0) rfl (T := TX2) (N := 12) rfl gk_ok0 trivial [0, 1, 2, 3, 4, 5, 6, 7] rfl (by decide) [8, 9, 10, 11, 12, 13, 14, 15, 16, 17, 18, 19, 20, 21, 22, 23, 24, 25, 26, 27, 28, 29] rfl (by decide) (by decide) rfl (Nat.le_of_ble_eq_true rfl) dL_law_324 ⟨(show (cells + 0) + 0 ≤ 601024 by omega), (show (slots + 0) + 0 ≤ 7293034 by omega)⟩ (fun r324 v324 hp324 => ?_)
  have hR324 : r324 = nI (M 14 0) := hp324.1
  have hs324 : gr_st v324.1 v324.2.1 (gm_set M 14 0 v) := hp324.2.1
  have hn324 : gr_now v324.2.2.1 (gm_set M 14 0 v) := hp324.2.2.1
  have hF324 : v324.1 0 = nI 0 := hp324.2.2.2
  refine gk_wsub (w' := (gd_X cI h q3 v324 ++ (gw_O cJ o f312 ++ (gw_X cI cZ g h1 h2 q q2 u312)))) [22, 23, 24, 25, 26, 27, 28, 29, 0, 1, 2, 3, 4, 5, 6, 7, 8, 9, 10, 11, 12, 13, 14, 15, 16, 17, 18, 19, 20, 21] rfl (by decide) ?_
  show gk_C p l e room_1 s m args below meth c 9 D A Q ((cells + 0) + 0) ((slots + 0) + 0) (gd_X cI h q3 v324 ++ (gw_O cJ o f312 ++ (gw_X cI cZ g h1 h2 q q2 u312))) [(5, .int r312), (4, .int (nI i)), (3, .ref o), (2, .ref h), (1, .ref g), (0, .ref b)] 327 [.int r324]
  refine gk_istore (lv' := [(6, .int r324), (5, .int r312), (4, .int (nI i)), (3, .ref o), (2, .ref h), (1, .ref g), (0, .ref b)]) G dL_law_327 (by decide) rfl ?_
  refine gk_aload_n G dL_law_329 4 rfl ?_
  refine gk_callIV (wr := gw_O cJ o f312 ++ (gw_X cI cZ g h1 h2 q q2 u312)) G (c2_thrown l D cI cZ cJ h q3 v324.1 v324.2.1 v324.2.2.1 v324.2.2.2.1 v324.2.2.2.2 M) gL_law_X2_thrown rfl 0 (by decide +kernel) rfl rfl ⟨(Nat.le_of_ble_eq_true rfl), (Nat.le_of_ble_eq_true rfl)⟩ rfl (q0 := 0) rfl (T := TX2) (N := 12) rfl gk_ok0 trivial [0, 1, 2, 3, 4, 5, 6, 7] rfl (by decide) [8, 9, 10, 11, 12, 13, 14, 15, 16, 17, 18, 19, 20, 21, 22, 23, 24, 25, 26, 27, 28, 29] rfl (by decide) (by decide) rfl (Nat.le_of_ble_eq_true rfl) dL_law_330 ⟨(show ((cells + 0) + 0) + 0 ≤ 601024 by omega), (show ((slots + 0) + 0) + 0 ≤ 7293034 by omega)⟩ (fun r330 u330 hp330 => ?_)
  have hT330 : r330 = nI 0 := (show r330 = v324.1 0 from hp330).trans hF324
  refine gk_wsub (w' := (gd_X cI h q3 v324 ++ (gw_O cJ o f312 ++ (gw_X cI cZ g h1 h2 q q2 u312)))) [22, 23, 24, 25, 26, 27, 28, 29, 0, 1, 2, 3, 4, 5, 6, 7, 8, 9, 10, 11, 12, 13, 14, 15, 16, 17, 18, 19, 20, 21] rfl (by decide) ?_
  show gk_C p l e room_1 s m args below meth c 9 D A Q (((cells + 0) + 0) + 0) (((slots + 0) + 0) + 0) (gd_X cI h q3 v324 ++ (gw_O cJ o f312 ++ (gw_X cI cZ g h1 h2 q q2 u312))) [(6, .int r324), (5, .int r312), (4, .int (nI i)), (3, .ref o), (2, .ref h), (1, .ref g), (0, .ref b)] 333 [.int r330]
  refine gk_iload G dL_law_333 1 rfl ?_
  refine gk_icmp_eq (tgt := 340) G dL_law_335 (by decide) (fun c_335 => ?_) (fun c_335 => ?_)
  · refine gk_iload G dL_law_340 1 rfl ?_
    refine gk_if_ne (tgt := 357) G dL_law_342 (by decide) (fun c_342 => ?_) (fun c_342 => ?_)
    · exact absurd (hK312.trans nI_0) c_342
    · refine gk_aload_n G dL_law_345 3 rfl ?_
      refine gk_iconst (v := nI 0) G dL_law_346 (by decide) ?_
      refine gk_lald (v := f312 0) G (q0 := 8) (t0 := 2) rfl rfl 0 rfl (by decide) (by decide) rfl dL_law_347 ?_
      refine gk_iload G dL_law_348 0 rfl ?_
      refine gk_i2l (v := (r324).toInt64) G dL_law_350 rfl ?_
      refine gk_lcmp G dL_law_351 ?_
      refine gk_if_eq (tgt := 357) G dL_law_352 (by decide) (fun c_352 => ?_) (fun c_352 => ?_)
      · refine gk_goto (tgt := 1565) G dL_law_357 (by decide) ?_
        exact gk_lsub [2, 3, 4, 5, 6] rfl (K f312 u312 v324 _ _ (by omega) (by omega) hr312 hs324 hn324)
      · exact absurd (gl_cmp (hv312.trans (congrArg Int32.toInt64 hR324).symm)) c_352
  · exact absurd (hT330.trans hK312.symm) c_335
set_option maxRecDepth 100000 in
set_option maxHeartbeats 1000000 in
theorem lg_setTakingOff_0 {p : Program} {l : Launch} {e : Env} {s : State} {m : MethodId} {args : Array Value} {below : List Frame} {meth : Method} {c : Code} {D : va_G} {A : Nat → Prop} {Q : State → Prop} {cI cZ cJ : ClassId} {b L : Nat} {xs : Nat → Int32} (G : gk_G p s m args meth c RL 9 cL_law (some .boolean) wsL_law D (g_T cI cZ cJ) A) (hE : gl_F A s s.heap) (hl9 : l.stackTraces = false) (hX : va_X b L xs s s.heap) (hbl : b < s.heap.size) (hbA : ¬ A b) (hL : L ≤ 2048) {g h1 h2 o h : Nat} {q q2 q3 : Nat → Nat} {f : Nat → Int64} {u0 : gw_U} {v0 : gd_U} {M : gm_M} (wf : gm_wf M) (hrest : gm_rest M) (hh : M 9 0 < 1999000) (hr : gc_rep u0.1.1 u0.1.2 M) (hs : gr_st v0.1 v0.2.1 M) (hn : gr_now v0.2.2.1 M) {i cells slots : Nat} (hi : i + 4 ≤ L) (hc : cells ≤ 500000) (hsl : slots ≤ 7000000)   (x1 : Int32) (hx1 : xs (i + 1) = x1) (hz1 : x1 = 0) (K : ∀ (f9 : Nat → Int64) (u9 : gw_U) (v9 : gd_U) (c9 s9 : Nat), c9 ≤ cells + 20 → s9 ≤ slots + 240 → gc_rep u9.1.1 u9.1.2 (gm_set M 15 0 0) → gr_st v9.1 v9.2.1 (gm_set M 15 0 0) → gr_now v9.2.2.1 (gm_set M 15 0 0) → gk_C p l e room_1 s m args below meth c 9 D A Q c9 s9 (gd_X cI h q3 v9 ++ (gw_O cJ o f9 ++ (gw_X cI cZ g h1 h2 q q2 u9))) [(4, .int (nI i)), (3, .ref o), (2, .ref h), (1, .ref g), (0, .ref b)] 1565 []) : gk_C p l e room_1 s m args below meth c 9 D A Q cells slots (gd_X cI h q3 v0 ++ (gw_O cJ o f ++ (gw_X cI cZ g h1 h2 q q2 u0))) [(4, .int (nI i)), (3, .ref o), (2, .ref h), (1, .ref g), (0, .ref b)] 360 [] := by
  refine gk_aload_n G dL_law_360 3 rfl ?_
  refine gk_aload_n G dL_law_361 4 rfl ?_
  refine gk_iload G dL_law_362 0 rfl ?_
  refine gk_iconst (v := nI 1) G dL_law_364 (by decide) ?_
  refine gk_iadd (v := nI (i + 1)) G dL_law_365 (nI_add i 1) ?_
  refine gk_sld (v := x1) G hX hbl hbA (i + 1) rfl (by omega) (by omega) hx1 dL_law_366 ?_
  refine gk_if_eq (tgt := 374) G dL_law_367 (by decide) (fun c_367 => ?_) (fun c_367 => ?_)
  · refine gk_iconst (v := nI 0) G dL_law_374 (by decide) ?_
    refine gk_callIV (wr := gd_X cI h q3 v0 ++ gw_O cJ o f) G (c1_setTakingOff l D cI cZ cJ g h1 h2 q u0.1.1 u0.1.2 q2 u0.2.1 u0.2.2 M 0 wf hr (by decide)) gL_law_X1_setTakingOff rfl 1 (by decide +kernel) rfl rfl ⟨(Nat.le_of_ble_eq_true rfl), (Nat.le_of_ble_eq_true rfl)⟩ rfl (q0 := 0) rfl (T := TX1) (N := 2) rfl gn_ok hE.1 [9, 10, 11, 12, 13, 14, 15, 16, 17, 18, 19, 20, 21, 22, 23, 24, 25, 26, 27, 28, 29] rfl (by decide) [0, 1, 2, 3, 4, 5, 6, 7, 8] rfl (by decide) (by decide) rfl (Nat.le_of_ble_eq_true rfl) dL_law_375 ⟨(show cells + 0 ≤ 601024 by omega), (show slots + 0 ≤ 7293034 by omega)⟩ (fun r375 u375 hp375 => ?_)
    have hK375 : r375 = nI (M 15 0) := hp375.1
    have hr375 : gc_rep u375.1.1 u375.1.2 (gm_set M 15 0 0) := hp375.2
    refine gk_wsub (w' := (gd_X cI h q3 v0 ++ (gw_O cJ o f ++ (gw_X cI cZ g h1 h2 q q2 u375)))) [0, 1, 2, 3, 4, 5, 6, 7, 8, 9, 10, 11, 12, 13, 14, 15, 16, 17, 18, 19, 20, 21, 22, 23, 24, 25, 26, 27, 28, 29] rfl (by decide) ?_
    show gk_C p l e room_1 s m args below meth c 9 D A Q (cells + 0) (slots + 0) (gd_X cI h q3 v0 ++ (gw_O cJ o f ++ (gw_X cI cZ g h1 h2 q q2 u375))) [(4, .int (nI i)), (3, .ref o), (2, .ref h), (1, .ref g), (0, .ref b)] 378 [.int r375]
    refine gk_aload_n G dL_law_378 2 rfl ?_
    refine gk_aload_n G dL_law_379 4 rfl ?_
    refine gk_iload G dL_law_380 0 rfl ?_
    refine gk_iconst (v := nI 1) G dL_law_382 (by decide) ?_
    refine gk_iadd (v := nI (i + 1)) G dL_law_383 (nI_add i 1) ?_
    refine gk_sld (v := x1) G hX hbl hbA (i + 1) rfl (by omega) (by omega) hx1 dL_law_384 ?_
    refine gk_if_eq (tgt := 392) G dL_law_385 (by decide) (fun c_385 => ?_) (fun c_385 => ?_)
    · refine gk_iconst (v := nI 0) G dL_law_392 (by decide) ?_
      refine gk_callIV (wr := gw_O cJ o f ++ (gw_X cI cZ g h1 h2 q q2 u375)) G (c2_setTakingOff l D cI cZ cJ h q3 v0.1 v0.2.1 v0.2.2.1 v0.2.2.2.1 v0.2.2.2.2 M 0 wf hs hn (by omega)) gL_law_X2_setTakingOff rfl 1 (by decide +kernel) rfl rfl ⟨(Nat.le_of_ble_eq_true rfl), (Nat.le_of_ble_eq_true rfl)⟩ rfl (q0 := 0) rfl (T := TX2) (N := 12) rfl gk_ok0 trivial [0, 1, 2, 3, 4, 5, 6, 7] rfl (by decide) [8, 9, 10, 11, 12, 13, 14, 15, 16, 17, 18, 19, 20, 21, 22, 23, 24, 25, 26, 27, 28, 29] rfl (by decide) (by decide) rfl (Nat.le_of_ble_eq_true rfl) dL_law_393 ⟨(show (cells + 0) + 0 ≤ 601024 by omega), (show (slots + 0) + 0 ≤ 7293034 by omega)⟩ (fun r393 v393 hp393 => ?_)
      have hR393 : r393 = nI (M 15 0) := hp393.1
      have hs393 : gr_st v393.1 v393.2.1 (gm_set M 15 0 0) := hp393.2.1
      have hn393 : gr_now v393.2.2.1 (gm_set M 15 0 0) := hp393.2.2.1
      have hF393 : v393.1 0 = nI 0 := hp393.2.2.2
      refine gk_wsub (w' := (gd_X cI h q3 v393 ++ (gw_O cJ o f ++ (gw_X cI cZ g h1 h2 q q2 u375)))) [22, 23, 24, 25, 26, 27, 28, 29, 0, 1, 2, 3, 4, 5, 6, 7, 8, 9, 10, 11, 12, 13, 14, 15, 16, 17, 18, 19, 20, 21] rfl (by decide) ?_
      show gk_C p l e room_1 s m args below meth c 9 D A Q ((cells + 0) + 0) ((slots + 0) + 0) (gd_X cI h q3 v393 ++ (gw_O cJ o f ++ (gw_X cI cZ g h1 h2 q q2 u375))) [(4, .int (nI i)), (3, .ref o), (2, .ref h), (1, .ref g), (0, .ref b)] 396 [.int r393, .int r375]
      refine gk_icmp_eq (tgt := 1565) G dL_law_396 (by decide) (fun c_396 => ?_) (fun c_396 => ?_)
      · exact gk_lsub [0, 1, 2, 3, 4] rfl (K f u375 v393 _ _ (by omega) (by omega) hr375 hs393 hn393)
      · exact absurd (hK375.trans hR393.symm) c_396
    · exact absurd hz1 c_385
  · exact absurd hz1 c_367
set_option maxRecDepth 100000 in
set_option maxHeartbeats 1000000 in
theorem lg_setTakingOff_1 {p : Program} {l : Launch} {e : Env} {s : State} {m : MethodId} {args : Array Value} {below : List Frame} {meth : Method} {c : Code} {D : va_G} {A : Nat → Prop} {Q : State → Prop} {cI cZ cJ : ClassId} {b L : Nat} {xs : Nat → Int32} (G : gk_G p s m args meth c RL 9 cL_law (some .boolean) wsL_law D (g_T cI cZ cJ) A) (hE : gl_F A s s.heap) (hl9 : l.stackTraces = false) (hX : va_X b L xs s s.heap) (hbl : b < s.heap.size) (hbA : ¬ A b) (hL : L ≤ 2048) {g h1 h2 o h : Nat} {q q2 q3 : Nat → Nat} {f : Nat → Int64} {u0 : gw_U} {v0 : gd_U} {M : gm_M} (wf : gm_wf M) (hrest : gm_rest M) (hh : M 9 0 < 1999000) (hr : gc_rep u0.1.1 u0.1.2 M) (hs : gr_st v0.1 v0.2.1 M) (hn : gr_now v0.2.2.1 M) {i cells slots : Nat} (hi : i + 4 ≤ L) (hc : cells ≤ 500000) (hsl : slots ≤ 7000000)   (x1 : Int32) (hx1 : xs (i + 1) = x1) (hz1 : ¬ x1 = 0) (K : ∀ (f9 : Nat → Int64) (u9 : gw_U) (v9 : gd_U) (c9 s9 : Nat), c9 ≤ cells + 20 → s9 ≤ slots + 240 → gc_rep u9.1.1 u9.1.2 (gm_set M 15 0 1) → gr_st v9.1 v9.2.1 (gm_set M 15 0 1) → gr_now v9.2.2.1 (gm_set M 15 0 1) → gk_C p l e room_1 s m args below meth c 9 D A Q c9 s9 (gd_X cI h q3 v9 ++ (gw_O cJ o f9 ++ (gw_X cI cZ g h1 h2 q q2 u9))) [(4, .int (nI i)), (3, .ref o), (2, .ref h), (1, .ref g), (0, .ref b)] 1565 []) : gk_C p l e room_1 s m args below meth c 9 D A Q cells slots (gd_X cI h q3 v0 ++ (gw_O cJ o f ++ (gw_X cI cZ g h1 h2 q q2 u0))) [(4, .int (nI i)), (3, .ref o), (2, .ref h), (1, .ref g), (0, .ref b)] 360 [] := by
  refine gk_aload_n G dL_law_360 3 rfl ?_
  refine gk_aload_n G dL_law_361 4 rfl ?_
  refine gk_iload G dL_law_362 0 rfl ?_
  refine gk_iconst (v := nI 1) G dL_law_364 (by decide) ?_
  refine gk_iadd (v := nI (i + 1)) G dL_law_365 (nI_add i 1) ?_
  refine gk_sld (v := x1) G hX hbl hbA (i + 1) rfl (by omega) (by omega) hx1 dL_law_366 ?_
  refine gk_if_eq (tgt := 374) G dL_law_367 (by decide) (fun c_367 => ?_) (fun c_367 => ?_)
  · exact absurd c_367 hz1
  · refine gk_iconst (v := nI 1) G dL_law_370 (by decide) ?_
    refine gk_goto (tgt := 375) G dL_law_371 (by decide) ?_
    refine gk_callIV (wr := gd_X cI h q3 v0 ++ gw_O cJ o f) G (c1_setTakingOff l D cI cZ cJ g h1 h2 q u0.1.1 u0.1.2 q2 u0.2.1 u0.2.2 M 1 wf hr (by decide)) gL_law_X1_setTakingOff rfl 1 (by decide +kernel) rfl rfl ⟨(Nat.le_of_ble_eq_true rfl), (Nat.le_of_ble_eq_true rfl)⟩ rfl (q0 := 0) rfl (T := TX1) (N := 2) rfl gn_ok hE.1 [9, 10, 11, 12, 13, 14, 15, 16, 17, 18, 19, 20, 21, 22, 23, 24, 25, 26, 27, 28, 29] rfl (by decide) [0, 1, 2, 3, 4, 5, 6, 7, 8] rfl (by decide) (by decide) rfl (Nat.le_of_ble_eq_true rfl) dL_law_375 ⟨(show cells + 0 ≤ 601024 by omega), (show slots + 0 ≤ 7293034 by omega)⟩ (fun r375 u375 hp375 => ?_)
    have hK375 : r375 = nI (M 15 0) := hp375.1
    have hr375 : gc_rep u375.1.1 u375.1.2 (gm_set M 15 0 1) := hp375.2
    refine gk_wsub (w' := (gd_X cI h q3 v0 ++ (gw_O cJ o f ++ (gw_X cI cZ g h1 h2 q q2 u375)))) [0, 1, 2, 3, 4, 5, 6, 7, 8, 9, 10, 11, 12, 13, 14, 15, 16, 17, 18, 19, 20, 21, 22, 23, 24, 25, 26, 27, 28, 29] rfl (by decide) ?_
    show gk_C p l e room_1 s m args below meth c 9 D A Q (cells + 0) (slots + 0) (gd_X cI h q3 v0 ++ (gw_O cJ o f ++ (gw_X cI cZ g h1 h2 q q2 u375))) [(4, .int (nI i)), (3, .ref o), (2, .ref h), (1, .ref g), (0, .ref b)] 378 [.int r375]
    refine gk_aload_n G dL_law_378 2 rfl ?_
    refine gk_aload_n G dL_law_379 4 rfl ?_
    refine gk_iload G dL_law_380 0 rfl ?_
    refine gk_iconst (v := nI 1) G dL_law_382 (by decide) ?_
    refine gk_iadd (v := nI (i + 1)) G dL_law_383 (nI_add i 1) ?_
    refine gk_sld (v := x1) G hX hbl hbA (i + 1) rfl (by omega) (by omega) hx1 dL_law_384 ?_
    refine gk_if_eq (tgt := 392) G dL_law_385 (by decide) (fun c_385 => ?_) (fun c_385 => ?_)
    · exact absurd c_385 hz1
    · refine gk_iconst (v := nI 1) G dL_law_388 (by decide) ?_
      refine gk_goto (tgt := 393) G dL_law_389 (by decide) ?_
      refine gk_callIV (wr := gw_O cJ o f ++ (gw_X cI cZ g h1 h2 q q2 u375)) G (c2_setTakingOff l D cI cZ cJ h q3 v0.1 v0.2.1 v0.2.2.1 v0.2.2.2.1 v0.2.2.2.2 M 1 wf hs hn (by omega)) gL_law_X2_setTakingOff rfl 1 (by decide +kernel) rfl rfl ⟨(Nat.le_of_ble_eq_true rfl), (Nat.le_of_ble_eq_true rfl)⟩ rfl (q0 := 0) rfl (T := TX2) (N := 12) rfl gk_ok0 trivial [0, 1, 2, 3, 4, 5, 6, 7] rfl (by decide) [8, 9, 10, 11, 12, 13, 14, 15, 16, 17, 18, 19, 20, 21, 22, 23, 24, 25, 26, 27, 28, 29] rfl (by decide) (by decide) rfl (Nat.le_of_ble_eq_true rfl) dL_law_393 ⟨(show (cells + 0) + 0 ≤ 601024 by omega), (show (slots + 0) + 0 ≤ 7293034 by omega)⟩ (fun r393 v393 hp393 => ?_)
      have hR393 : r393 = nI (M 15 0) := hp393.1
      have hs393 : gr_st v393.1 v393.2.1 (gm_set M 15 0 1) := hp393.2.1
      have hn393 : gr_now v393.2.2.1 (gm_set M 15 0 1) := hp393.2.2.1
      have hF393 : v393.1 0 = nI 0 := hp393.2.2.2
      refine gk_wsub (w' := (gd_X cI h q3 v393 ++ (gw_O cJ o f ++ (gw_X cI cZ g h1 h2 q q2 u375)))) [22, 23, 24, 25, 26, 27, 28, 29, 0, 1, 2, 3, 4, 5, 6, 7, 8, 9, 10, 11, 12, 13, 14, 15, 16, 17, 18, 19, 20, 21] rfl (by decide) ?_
      show gk_C p l e room_1 s m args below meth c 9 D A Q ((cells + 0) + 0) ((slots + 0) + 0) (gd_X cI h q3 v393 ++ (gw_O cJ o f ++ (gw_X cI cZ g h1 h2 q q2 u375))) [(4, .int (nI i)), (3, .ref o), (2, .ref h), (1, .ref g), (0, .ref b)] 396 [.int r393, .int r375]
      refine gk_icmp_eq (tgt := 1565) G dL_law_396 (by decide) (fun c_396 => ?_) (fun c_396 => ?_)
      · exact gk_lsub [0, 1, 2, 3, 4] rfl (K f u375 v393 _ _ (by omega) (by omega) hr375 hs393 hn393)
      · exact absurd (hK375.trans hR393.symm) c_396
set_option maxRecDepth 100000 in
set_option maxHeartbeats 1000000 in
theorem lg_bring_no1 {p : Program} {l : Launch} {e : Env} {s : State} {m : MethodId} {args : Array Value} {below : List Frame} {meth : Method} {c : Code} {D : va_G} {A : Nat → Prop} {Q : State → Prop} {cI cZ cJ : ClassId} {b L : Nat} {xs : Nat → Int32} (G : gk_G p s m args meth c RL 9 cL_law (some .boolean) wsL_law D (g_T cI cZ cJ) A) (hE : gl_F A s s.heap) (hl9 : l.stackTraces = false) (hX : va_X b L xs s s.heap) (hbl : b < s.heap.size) (hbA : ¬ A b) (hL : L ≤ 2048) {g h1 h2 o h : Nat} {q q2 q3 : Nat → Nat} {f : Nat → Int64} {u0 : gw_U} {v0 : gd_U} {M : gm_M} (wf : gm_wf M) (hrest : gm_rest M) (hh : M 9 0 < 1999000) (hr : gc_rep u0.1.1 u0.1.2 M) (hs : gr_st v0.1 v0.2.1 M) (hn : gr_now v0.2.2.1 M) {i cells slots : Nat} (hi : i + 4 ≤ L) (hc : cells ≤ 500000) (hsl : slots ≤ 7000000) (p0 : Int32) (p1 : Int32) (p2 : Int32) (hb : ¬ gm_rg p0 0 8) (hx1 : xs (i + 1) = p0) (hx2 : xs (i + 2) = p1) (hx3 : xs (i + 3) = p2) (K : ∀ (f9 : Nat → Int64) (u9 : gw_U) (v9 : gd_U) (c9 s9 : Nat), c9 ≤ cells + 20 → s9 ≤ slots + 240 → gc_rep u9.1.1 u9.1.2 M → gr_st v9.1 v9.2.1 M → gr_now v9.2.2.1 M → gk_C p l e room_1 s m args below meth c 9 D A Q c9 s9 (gd_X cI h q3 v9 ++ (gw_O cJ o f9 ++ (gw_X cI cZ g h1 h2 q q2 u9))) [(4, .int (nI i)), (3, .ref o), (2, .ref h), (1, .ref g), (0, .ref b)] 1565 []) : gk_C p l e room_1 s m args below meth c 9 D A Q cells slots (gd_X cI h q3 v0 ++ (gw_O cJ o f ++ (gw_X cI cZ g h1 h2 q q2 u0))) [(4, .int (nI i)), (3, .ref o), (2, .ref h), (1, .ref g), (0, .ref b)] 401 [] := by
  refine gk_aload_n G dL_law_401 3 rfl ?_
  refine gk_aload_n G dL_law_402 4 rfl ?_
  refine gk_iload G dL_law_403 0 rfl ?_
  refine gk_iconst (v := nI 1) G dL_law_405 (by decide) ?_
  refine gk_iadd (v := nI (i + 1)) G dL_law_406 (nI_add i 1) ?_
  refine gk_sld (v := p0) G hX hbl hbA (i + 1) rfl (by omega) (by omega) hx1 dL_law_407 ?_
  refine gk_aload_n G dL_law_408 4 rfl ?_
  refine gk_iload G dL_law_409 0 rfl ?_
  refine gk_iconst (v := nI 2) G dL_law_411 (by decide) ?_
  refine gk_iadd (v := nI (i + 2)) G dL_law_412 (nI_add i 2) ?_
  refine gk_sld (v := p1) G hX hbl hbA (i + 2) rfl (by omega) (by omega) hx2 dL_law_413 ?_
  refine gk_aload_n G dL_law_414 4 rfl ?_
  refine gk_iload G dL_law_415 0 rfl ?_
  refine gk_iconst (v := nI 3) G dL_law_417 (by decide) ?_
  refine gk_iadd (v := nI (i + 3)) G dL_law_418 (nI_add i 3) ?_
  refine gk_sld (v := p2) G hX hbl hbA (i + 3) rfl (by omega) (by omega) hx3 dL_law_419 ?_
  refine gk_aload_n G dL_law_420 1 rfl ?_
  refine gk_callISW (wr := gd_X cI h q3 v0) G (cl_bring_no1 l D cI cZ cJ o f g h1 h2 q q2 u0 M hl9 p0 p1 p2 wf hr hb) gL_law_L_bring rfl 5 (by decide +kernel) rfl rfl ⟨(Nat.le_of_ble_eq_true rfl), (Nat.le_of_ble_eq_true rfl)⟩ rfl gl_Fok hE [8, 9, 10, 11, 12, 13, 14, 15, 16, 17, 18, 19, 20, 21, 22, 23, 24, 25, 26, 27, 28, 29] rfl (by decide) [0, 1, 2, 3, 4, 5, 6, 7] rfl (by decide) (by decide) rfl (Nat.le_of_ble_eq_true rfl) dL_law_421 ⟨(show cells + 1 ≤ 601024 by omega), (show slots + 6 ≤ 7293034 by omega)⟩ (fun r421 uu421 hp421 => ?_)
  obtain ⟨f421, u421⟩ := uu421
  have hK421 : r421 = nI 1 := hp421.1
  have hr421 : gc_rep u421.1.1 u421.1.2 M := hp421.2
  show gk_C p l e room_1 s m args below meth c 9 D A Q (cells + 1) (slots + 6) (gd_X cI h q3 v0 ++ (gw_O cJ o f421 ++ (gw_X cI cZ g h1 h2 q q2 u421))) [(4, .int (nI i)), (3, .ref o), (2, .ref h), (1, .ref g), (0, .ref b)] 424 [.int r421]
  refine gk_istore (lv' := [(5, .int r421), (4, .int (nI i)), (3, .ref o), (2, .ref h), (1, .ref g), (0, .ref b)]) G dL_law_424 (by decide) rfl ?_
  refine gk_aload_n G dL_law_426 3 rfl ?_
  refine gk_aload_n G dL_law_427 5 rfl ?_
  refine gk_iload G dL_law_428 1 rfl ?_
  refine gk_iconst (v := nI 1) G dL_law_430 (by decide) ?_
  refine gk_iadd (v := nI (i + 1)) G dL_law_431 (nI_add i 1) ?_
  refine gk_sld (v := p0) G hX hbl hbA (i + 1) rfl (by omega) (by omega) hx1 dL_law_432 ?_
  refine gk_aload_n G dL_law_433 5 rfl ?_
  refine gk_iload G dL_law_434 1 rfl ?_
  refine gk_iconst (v := nI 2) G dL_law_436 (by decide) ?_
  refine gk_iadd (v := nI (i + 2)) G dL_law_437 (nI_add i 2) ?_
  refine gk_sld (v := p1) G hX hbl hbA (i + 2) rfl (by omega) (by omega) hx2 dL_law_438 ?_
  refine gk_aload_n G dL_law_439 5 rfl ?_
  refine gk_iload G dL_law_440 1 rfl ?_
  refine gk_iconst (v := nI 3) G dL_law_442 (by decide) ?_
  refine gk_iadd (v := nI (i + 3)) G dL_law_443 (nI_add i 3) ?_
  refine gk_sld (v := p2) G hX hbl hbA (i + 3) rfl (by omega) (by omega) hx3 dL_law_444 ?_
  refine gk_callIV (wr := gw_O cJ o f421 ++ (gw_X cI cZ g h1 h2 q q2 u421)) G (c2_bring_no1 l D cI cZ cJ h q3 v0.1 v0.2.1 v0.2.2.1 v0.2.2.2.1 v0.2.2.2.2 M p0 p1 p2 wf hs hn hb) gL_law_X2_bring rfl 3 (by decide +kernel) rfl rfl ⟨(Nat.le_of_ble_eq_true rfl), (Nat.le_of_ble_eq_true rfl)⟩ rfl (q0 := 0) rfl (T := TX2) (N := 12) rfl gk_ok0 trivial [0, 1, 2, 3, 4, 5, 6, 7] rfl (by decide) [8, 9, 10, 11, 12, 13, 14, 15, 16, 17, 18, 19, 20, 21, 22, 23, 24, 25, 26, 27, 28, 29] rfl (by decide) (by decide) rfl (Nat.le_of_ble_eq_true rfl) dL_law_445 ⟨(show (cells + 1) + 0 ≤ 601024 by omega), (show (slots + 6) + 0 ≤ 7293034 by omega)⟩ (fun r445 v445 hp445 => ?_)
  have hR445 : r445 = nI 0 := hp445.1
  have hs445 : gr_st v445.1 v445.2.1 M := hp445.2.1
  have hn445 : gr_now v445.2.2.1 M := hp445.2.2.1
  have hF445 : v445.1 0 = nI 1 := hp445.2.2.2
  refine gk_wsub (w' := (gd_X cI h q3 v445 ++ (gw_O cJ o f421 ++ (gw_X cI cZ g h1 h2 q q2 u421)))) [22, 23, 24, 25, 26, 27, 28, 29, 0, 1, 2, 3, 4, 5, 6, 7, 8, 9, 10, 11, 12, 13, 14, 15, 16, 17, 18, 19, 20, 21] rfl (by decide) ?_
  show gk_C p l e room_1 s m args below meth c 9 D A Q ((cells + 1) + 0) ((slots + 6) + 0) (gd_X cI h q3 v445 ++ (gw_O cJ o f421 ++ (gw_X cI cZ g h1 h2 q q2 u421))) [(5, .int r421), (4, .int (nI i)), (3, .ref o), (2, .ref h), (1, .ref g), (0, .ref b)] 448 [.int r445]
  refine gk_istore (lv' := [(6, .int r445), (5, .int r421), (4, .int (nI i)), (3, .ref o), (2, .ref h), (1, .ref g), (0, .ref b)]) G dL_law_448 (by decide) rfl ?_
  refine gk_aload_n G dL_law_450 4 rfl ?_
  refine gk_callIV (wr := gw_O cJ o f421 ++ (gw_X cI cZ g h1 h2 q q2 u421)) G (c2_thrown l D cI cZ cJ h q3 v445.1 v445.2.1 v445.2.2.1 v445.2.2.2.1 v445.2.2.2.2 M) gL_law_X2_thrown rfl 0 (by decide +kernel) rfl rfl ⟨(Nat.le_of_ble_eq_true rfl), (Nat.le_of_ble_eq_true rfl)⟩ rfl (q0 := 0) rfl (T := TX2) (N := 12) rfl gk_ok0 trivial [0, 1, 2, 3, 4, 5, 6, 7] rfl (by decide) [8, 9, 10, 11, 12, 13, 14, 15, 16, 17, 18, 19, 20, 21, 22, 23, 24, 25, 26, 27, 28, 29] rfl (by decide) (by decide) rfl (Nat.le_of_ble_eq_true rfl) dL_law_451 ⟨(show ((cells + 1) + 0) + 0 ≤ 601024 by omega), (show ((slots + 6) + 0) + 0 ≤ 7293034 by omega)⟩ (fun r451 u451 hp451 => ?_)
  have hT451 : r451 = nI 1 := (show r451 = v445.1 0 from hp451).trans hF445
  refine gk_wsub (w' := (gd_X cI h q3 v445 ++ (gw_O cJ o f421 ++ (gw_X cI cZ g h1 h2 q q2 u421)))) [22, 23, 24, 25, 26, 27, 28, 29, 0, 1, 2, 3, 4, 5, 6, 7, 8, 9, 10, 11, 12, 13, 14, 15, 16, 17, 18, 19, 20, 21] rfl (by decide) ?_
  show gk_C p l e room_1 s m args below meth c 9 D A Q (((cells + 1) + 0) + 0) (((slots + 6) + 0) + 0) (gd_X cI h q3 v445 ++ (gw_O cJ o f421 ++ (gw_X cI cZ g h1 h2 q q2 u421))) [(6, .int r445), (5, .int r421), (4, .int (nI i)), (3, .ref o), (2, .ref h), (1, .ref g), (0, .ref b)] 454 [.int r451]
  refine gk_iload G dL_law_454 1 rfl ?_
  refine gk_icmp_eq (tgt := 461) G dL_law_456 (by decide) (fun c_456 => ?_) (fun c_456 => ?_)
  · refine gk_iload G dL_law_461 1 rfl ?_
    refine gk_if_ne (tgt := 478) G dL_law_463 (by decide) (fun c_463 => ?_) (fun c_463 => ?_)
    · refine gk_goto (tgt := 1565) G dL_law_478 (by decide) ?_
      exact gk_lsub [2, 3, 4, 5, 6] rfl (K f421 u421 v445 _ _ (by omega) (by omega) hr421 hs445 hn445)
    · exact absurd (hK421.symm.trans c_463) (by decide)
  · exact absurd (hT451.trans hK421.symm) c_456
set_option maxRecDepth 100000 in
set_option maxHeartbeats 1000000 in
theorem lg_bring_no2 {p : Program} {l : Launch} {e : Env} {s : State} {m : MethodId} {args : Array Value} {below : List Frame} {meth : Method} {c : Code} {D : va_G} {A : Nat → Prop} {Q : State → Prop} {cI cZ cJ : ClassId} {b L : Nat} {xs : Nat → Int32} (G : gk_G p s m args meth c RL 9 cL_law (some .boolean) wsL_law D (g_T cI cZ cJ) A) (hE : gl_F A s s.heap) (hl9 : l.stackTraces = false) (hX : va_X b L xs s s.heap) (hbl : b < s.heap.size) (hbA : ¬ A b) (hL : L ≤ 2048) {g h1 h2 o h : Nat} {q q2 q3 : Nat → Nat} {f : Nat → Int64} {u0 : gw_U} {v0 : gd_U} {M : gm_M} (wf : gm_wf M) (hrest : gm_rest M) (hh : M 9 0 < 1999000) (hr : gc_rep u0.1.1 u0.1.2 M) (hs : gr_st v0.1 v0.2.1 M) (hn : gr_now v0.2.2.1 M) {i cells slots : Nat} (hi : i + 4 ≤ L) (hc : cells ≤ 500000) (hsl : slots ≤ 7000000) (vb : Nat) (p1 : Int32) (p2 : Int32) (hb0 : vb < 8) (hb : ¬ gm_rg p1 1 61) (hx1 : xs (i + 1) = nI vb) (hx2 : xs (i + 2) = p1) (hx3 : xs (i + 3) = p2) (K : ∀ (f9 : Nat → Int64) (u9 : gw_U) (v9 : gd_U) (c9 s9 : Nat), c9 ≤ cells + 20 → s9 ≤ slots + 240 → gc_rep u9.1.1 u9.1.2 M → gr_st v9.1 v9.2.1 M → gr_now v9.2.2.1 M → gk_C p l e room_1 s m args below meth c 9 D A Q c9 s9 (gd_X cI h q3 v9 ++ (gw_O cJ o f9 ++ (gw_X cI cZ g h1 h2 q q2 u9))) [(4, .int (nI i)), (3, .ref o), (2, .ref h), (1, .ref g), (0, .ref b)] 1565 []) : gk_C p l e room_1 s m args below meth c 9 D A Q cells slots (gd_X cI h q3 v0 ++ (gw_O cJ o f ++ (gw_X cI cZ g h1 h2 q q2 u0))) [(4, .int (nI i)), (3, .ref o), (2, .ref h), (1, .ref g), (0, .ref b)] 401 [] := by
  refine gk_aload_n G dL_law_401 3 rfl ?_
  refine gk_aload_n G dL_law_402 4 rfl ?_
  refine gk_iload G dL_law_403 0 rfl ?_
  refine gk_iconst (v := nI 1) G dL_law_405 (by decide) ?_
  refine gk_iadd (v := nI (i + 1)) G dL_law_406 (nI_add i 1) ?_
  refine gk_sld (v := (nI vb)) G hX hbl hbA (i + 1) rfl (by omega) (by omega) hx1 dL_law_407 ?_
  refine gk_aload_n G dL_law_408 4 rfl ?_
  refine gk_iload G dL_law_409 0 rfl ?_
  refine gk_iconst (v := nI 2) G dL_law_411 (by decide) ?_
  refine gk_iadd (v := nI (i + 2)) G dL_law_412 (nI_add i 2) ?_
  refine gk_sld (v := p1) G hX hbl hbA (i + 2) rfl (by omega) (by omega) hx2 dL_law_413 ?_
  refine gk_aload_n G dL_law_414 4 rfl ?_
  refine gk_iload G dL_law_415 0 rfl ?_
  refine gk_iconst (v := nI 3) G dL_law_417 (by decide) ?_
  refine gk_iadd (v := nI (i + 3)) G dL_law_418 (nI_add i 3) ?_
  refine gk_sld (v := p2) G hX hbl hbA (i + 3) rfl (by omega) (by omega) hx3 dL_law_419 ?_
  refine gk_aload_n G dL_law_420 1 rfl ?_
  refine gk_callISW (wr := gd_X cI h q3 v0) G (cl_bring_no2 l D cI cZ cJ o f g h1 h2 q q2 u0 M hl9 vb p1 p2 wf hr hb0 hb) gL_law_L_bring rfl 5 (by decide +kernel) rfl rfl ⟨(Nat.le_of_ble_eq_true rfl), (Nat.le_of_ble_eq_true rfl)⟩ rfl gl_Fok hE [8, 9, 10, 11, 12, 13, 14, 15, 16, 17, 18, 19, 20, 21, 22, 23, 24, 25, 26, 27, 28, 29] rfl (by decide) [0, 1, 2, 3, 4, 5, 6, 7] rfl (by decide) (by decide) rfl (Nat.le_of_ble_eq_true rfl) dL_law_421 ⟨(show cells + 1 ≤ 601024 by omega), (show slots + 6 ≤ 7293034 by omega)⟩ (fun r421 uu421 hp421 => ?_)
  obtain ⟨f421, u421⟩ := uu421
  have hK421 : r421 = nI 1 := hp421.1
  have hr421 : gc_rep u421.1.1 u421.1.2 M := hp421.2
  show gk_C p l e room_1 s m args below meth c 9 D A Q (cells + 1) (slots + 6) (gd_X cI h q3 v0 ++ (gw_O cJ o f421 ++ (gw_X cI cZ g h1 h2 q q2 u421))) [(4, .int (nI i)), (3, .ref o), (2, .ref h), (1, .ref g), (0, .ref b)] 424 [.int r421]
  refine gk_istore (lv' := [(5, .int r421), (4, .int (nI i)), (3, .ref o), (2, .ref h), (1, .ref g), (0, .ref b)]) G dL_law_424 (by decide) rfl ?_
  refine gk_aload_n G dL_law_426 3 rfl ?_
  refine gk_aload_n G dL_law_427 5 rfl ?_
  refine gk_iload G dL_law_428 1 rfl ?_
  refine gk_iconst (v := nI 1) G dL_law_430 (by decide) ?_
  refine gk_iadd (v := nI (i + 1)) G dL_law_431 (nI_add i 1) ?_
  refine gk_sld (v := (nI vb)) G hX hbl hbA (i + 1) rfl (by omega) (by omega) hx1 dL_law_432 ?_
  refine gk_aload_n G dL_law_433 5 rfl ?_
  refine gk_iload G dL_law_434 1 rfl ?_
  refine gk_iconst (v := nI 2) G dL_law_436 (by decide) ?_
  refine gk_iadd (v := nI (i + 2)) G dL_law_437 (nI_add i 2) ?_
  refine gk_sld (v := p1) G hX hbl hbA (i + 2) rfl (by omega) (by omega) hx2 dL_law_438 ?_
  refine gk_aload_n G dL_law_439 5 rfl ?_
  refine gk_iload G dL_law_440 1 rfl ?_
  refine gk_iconst (v := nI 3) G dL_law_442 (by decide) ?_
  refine gk_iadd (v := nI (i + 3)) G dL_law_443 (nI_add i 3) ?_
  refine gk_sld (v := p2) G hX hbl hbA (i + 3) rfl (by omega) (by omega) hx3 dL_law_444 ?_
  refine gk_callIV (wr := gw_O cJ o f421 ++ (gw_X cI cZ g h1 h2 q q2 u421)) G (c2_bring_no2 l D cI cZ cJ h q3 v0.1 v0.2.1 v0.2.2.1 v0.2.2.2.1 v0.2.2.2.2 M vb p1 p2 wf hs hn (by omega) hb) gL_law_X2_bring rfl 3 (by decide +kernel) rfl rfl ⟨(Nat.le_of_ble_eq_true rfl), (Nat.le_of_ble_eq_true rfl)⟩ rfl (q0 := 0) rfl (T := TX2) (N := 12) rfl gk_ok0 trivial [0, 1, 2, 3, 4, 5, 6, 7] rfl (by decide) [8, 9, 10, 11, 12, 13, 14, 15, 16, 17, 18, 19, 20, 21, 22, 23, 24, 25, 26, 27, 28, 29] rfl (by decide) (by decide) rfl (Nat.le_of_ble_eq_true rfl) dL_law_445 ⟨(show (cells + 1) + 0 ≤ 601024 by omega), (show (slots + 6) + 0 ≤ 7293034 by omega)⟩ (fun r445 v445 hp445 => ?_)
  have hR445 : r445 = nI 0 := hp445.1
  have hs445 : gr_st v445.1 v445.2.1 M := hp445.2.1
  have hn445 : gr_now v445.2.2.1 M := hp445.2.2.1
  have hF445 : v445.1 0 = nI 1 := hp445.2.2.2
  refine gk_wsub (w' := (gd_X cI h q3 v445 ++ (gw_O cJ o f421 ++ (gw_X cI cZ g h1 h2 q q2 u421)))) [22, 23, 24, 25, 26, 27, 28, 29, 0, 1, 2, 3, 4, 5, 6, 7, 8, 9, 10, 11, 12, 13, 14, 15, 16, 17, 18, 19, 20, 21] rfl (by decide) ?_
  show gk_C p l e room_1 s m args below meth c 9 D A Q ((cells + 1) + 0) ((slots + 6) + 0) (gd_X cI h q3 v445 ++ (gw_O cJ o f421 ++ (gw_X cI cZ g h1 h2 q q2 u421))) [(5, .int r421), (4, .int (nI i)), (3, .ref o), (2, .ref h), (1, .ref g), (0, .ref b)] 448 [.int r445]
  refine gk_istore (lv' := [(6, .int r445), (5, .int r421), (4, .int (nI i)), (3, .ref o), (2, .ref h), (1, .ref g), (0, .ref b)]) G dL_law_448 (by decide) rfl ?_
  refine gk_aload_n G dL_law_450 4 rfl ?_
  refine gk_callIV (wr := gw_O cJ o f421 ++ (gw_X cI cZ g h1 h2 q q2 u421)) G (c2_thrown l D cI cZ cJ h q3 v445.1 v445.2.1 v445.2.2.1 v445.2.2.2.1 v445.2.2.2.2 M) gL_law_X2_thrown rfl 0 (by decide +kernel) rfl rfl ⟨(Nat.le_of_ble_eq_true rfl), (Nat.le_of_ble_eq_true rfl)⟩ rfl (q0 := 0) rfl (T := TX2) (N := 12) rfl gk_ok0 trivial [0, 1, 2, 3, 4, 5, 6, 7] rfl (by decide) [8, 9, 10, 11, 12, 13, 14, 15, 16, 17, 18, 19, 20, 21, 22, 23, 24, 25, 26, 27, 28, 29] rfl (by decide) (by decide) rfl (Nat.le_of_ble_eq_true rfl) dL_law_451 ⟨(show ((cells + 1) + 0) + 0 ≤ 601024 by omega), (show ((slots + 6) + 0) + 0 ≤ 7293034 by omega)⟩ (fun r451 u451 hp451 => ?_)
  have hT451 : r451 = nI 1 := (show r451 = v445.1 0 from hp451).trans hF445
  refine gk_wsub (w' := (gd_X cI h q3 v445 ++ (gw_O cJ o f421 ++ (gw_X cI cZ g h1 h2 q q2 u421)))) [22, 23, 24, 25, 26, 27, 28, 29, 0, 1, 2, 3, 4, 5, 6, 7, 8, 9, 10, 11, 12, 13, 14, 15, 16, 17, 18, 19, 20, 21] rfl (by decide) ?_
  show gk_C p l e room_1 s m args below meth c 9 D A Q (((cells + 1) + 0) + 0) (((slots + 6) + 0) + 0) (gd_X cI h q3 v445 ++ (gw_O cJ o f421 ++ (gw_X cI cZ g h1 h2 q q2 u421))) [(6, .int r445), (5, .int r421), (4, .int (nI i)), (3, .ref o), (2, .ref h), (1, .ref g), (0, .ref b)] 454 [.int r451]
  refine gk_iload G dL_law_454 1 rfl ?_
  refine gk_icmp_eq (tgt := 461) G dL_law_456 (by decide) (fun c_456 => ?_) (fun c_456 => ?_)
  · refine gk_iload G dL_law_461 1 rfl ?_
    refine gk_if_ne (tgt := 478) G dL_law_463 (by decide) (fun c_463 => ?_) (fun c_463 => ?_)
    · refine gk_goto (tgt := 1565) G dL_law_478 (by decide) ?_
      exact gk_lsub [2, 3, 4, 5, 6] rfl (K f421 u421 v445 _ _ (by omega) (by omega) hr421 hs445 hn445)
    · exact absurd (hK421.symm.trans c_463) (by decide)
  · exact absurd (hT451.trans hK421.symm) c_456
set_option maxRecDepth 100000 in
set_option maxHeartbeats 1000000 in
theorem lg_bring_no3 {p : Program} {l : Launch} {e : Env} {s : State} {m : MethodId} {args : Array Value} {below : List Frame} {meth : Method} {c : Code} {D : va_G} {A : Nat → Prop} {Q : State → Prop} {cI cZ cJ : ClassId} {b L : Nat} {xs : Nat → Int32} (G : gk_G p s m args meth c RL 9 cL_law (some .boolean) wsL_law D (g_T cI cZ cJ) A) (hE : gl_F A s s.heap) (hl9 : l.stackTraces = false) (hX : va_X b L xs s s.heap) (hbl : b < s.heap.size) (hbA : ¬ A b) (hL : L ≤ 2048) {g h1 h2 o h : Nat} {q q2 q3 : Nat → Nat} {f : Nat → Int64} {u0 : gw_U} {v0 : gd_U} {M : gm_M} (wf : gm_wf M) (hrest : gm_rest M) (hh : M 9 0 < 1999000) (hr : gc_rep u0.1.1 u0.1.2 M) (hs : gr_st v0.1 v0.2.1 M) (hn : gr_now v0.2.2.1 M) {i cells slots : Nat} (hi : i + 4 ≤ L) (hc : cells ≤ 500000) (hsl : slots ≤ 7000000) (vb : Nat) (vg : Nat) (p2 : Int32) (hb0 : vb < 8) (hg0 : 1 ≤ vg) (hg1 : vg < 61) (hb : ¬ gm_rg p2 1 201) (hx1 : xs (i + 1) = nI vb) (hx2 : xs (i + 2) = nI vg) (hx3 : xs (i + 3) = p2) (K : ∀ (f9 : Nat → Int64) (u9 : gw_U) (v9 : gd_U) (c9 s9 : Nat), c9 ≤ cells + 20 → s9 ≤ slots + 240 → gc_rep u9.1.1 u9.1.2 M → gr_st v9.1 v9.2.1 M → gr_now v9.2.2.1 M → gk_C p l e room_1 s m args below meth c 9 D A Q c9 s9 (gd_X cI h q3 v9 ++ (gw_O cJ o f9 ++ (gw_X cI cZ g h1 h2 q q2 u9))) [(4, .int (nI i)), (3, .ref o), (2, .ref h), (1, .ref g), (0, .ref b)] 1565 []) : gk_C p l e room_1 s m args below meth c 9 D A Q cells slots (gd_X cI h q3 v0 ++ (gw_O cJ o f ++ (gw_X cI cZ g h1 h2 q q2 u0))) [(4, .int (nI i)), (3, .ref o), (2, .ref h), (1, .ref g), (0, .ref b)] 401 [] := by
  refine gk_aload_n G dL_law_401 3 rfl ?_
  refine gk_aload_n G dL_law_402 4 rfl ?_
  refine gk_iload G dL_law_403 0 rfl ?_
  refine gk_iconst (v := nI 1) G dL_law_405 (by decide) ?_
  refine gk_iadd (v := nI (i + 1)) G dL_law_406 (nI_add i 1) ?_
  refine gk_sld (v := (nI vb)) G hX hbl hbA (i + 1) rfl (by omega) (by omega) hx1 dL_law_407 ?_
  refine gk_aload_n G dL_law_408 4 rfl ?_
  refine gk_iload G dL_law_409 0 rfl ?_
  refine gk_iconst (v := nI 2) G dL_law_411 (by decide) ?_
  refine gk_iadd (v := nI (i + 2)) G dL_law_412 (nI_add i 2) ?_
  refine gk_sld (v := (nI vg)) G hX hbl hbA (i + 2) rfl (by omega) (by omega) hx2 dL_law_413 ?_
  refine gk_aload_n G dL_law_414 4 rfl ?_
  refine gk_iload G dL_law_415 0 rfl ?_
  refine gk_iconst (v := nI 3) G dL_law_417 (by decide) ?_
  refine gk_iadd (v := nI (i + 3)) G dL_law_418 (nI_add i 3) ?_
  refine gk_sld (v := p2) G hX hbl hbA (i + 3) rfl (by omega) (by omega) hx3 dL_law_419 ?_
  refine gk_aload_n G dL_law_420 1 rfl ?_
  refine gk_callISW (wr := gd_X cI h q3 v0) G (cl_bring_no3 l D cI cZ cJ o f g h1 h2 q q2 u0 M hl9 vb vg p2 wf hr hb0 hg0 hg1 hb) gL_law_L_bring rfl 5 (by decide +kernel) rfl rfl ⟨(Nat.le_of_ble_eq_true rfl), (Nat.le_of_ble_eq_true rfl)⟩ rfl gl_Fok hE [8, 9, 10, 11, 12, 13, 14, 15, 16, 17, 18, 19, 20, 21, 22, 23, 24, 25, 26, 27, 28, 29] rfl (by decide) [0, 1, 2, 3, 4, 5, 6, 7] rfl (by decide) (by decide) rfl (Nat.le_of_ble_eq_true rfl) dL_law_421 ⟨(show cells + 1 ≤ 601024 by omega), (show slots + 6 ≤ 7293034 by omega)⟩ (fun r421 uu421 hp421 => ?_)
  obtain ⟨f421, u421⟩ := uu421
  have hK421 : r421 = nI 1 := hp421.1
  have hr421 : gc_rep u421.1.1 u421.1.2 M := hp421.2
  show gk_C p l e room_1 s m args below meth c 9 D A Q (cells + 1) (slots + 6) (gd_X cI h q3 v0 ++ (gw_O cJ o f421 ++ (gw_X cI cZ g h1 h2 q q2 u421))) [(4, .int (nI i)), (3, .ref o), (2, .ref h), (1, .ref g), (0, .ref b)] 424 [.int r421]
  refine gk_istore (lv' := [(5, .int r421), (4, .int (nI i)), (3, .ref o), (2, .ref h), (1, .ref g), (0, .ref b)]) G dL_law_424 (by decide) rfl ?_
  refine gk_aload_n G dL_law_426 3 rfl ?_
  refine gk_aload_n G dL_law_427 5 rfl ?_
  refine gk_iload G dL_law_428 1 rfl ?_
  refine gk_iconst (v := nI 1) G dL_law_430 (by decide) ?_
  refine gk_iadd (v := nI (i + 1)) G dL_law_431 (nI_add i 1) ?_
  refine gk_sld (v := (nI vb)) G hX hbl hbA (i + 1) rfl (by omega) (by omega) hx1 dL_law_432 ?_
  refine gk_aload_n G dL_law_433 5 rfl ?_
  refine gk_iload G dL_law_434 1 rfl ?_
  refine gk_iconst (v := nI 2) G dL_law_436 (by decide) ?_
  refine gk_iadd (v := nI (i + 2)) G dL_law_437 (nI_add i 2) ?_
  refine gk_sld (v := (nI vg)) G hX hbl hbA (i + 2) rfl (by omega) (by omega) hx2 dL_law_438 ?_
  refine gk_aload_n G dL_law_439 5 rfl ?_
  refine gk_iload G dL_law_440 1 rfl ?_
  refine gk_iconst (v := nI 3) G dL_law_442 (by decide) ?_
  refine gk_iadd (v := nI (i + 3)) G dL_law_443 (nI_add i 3) ?_
  refine gk_sld (v := p2) G hX hbl hbA (i + 3) rfl (by omega) (by omega) hx3 dL_law_444 ?_
  refine gk_callIV (wr := gw_O cJ o f421 ++ (gw_X cI cZ g h1 h2 q q2 u421)) G (c2_bring_no3 l D cI cZ cJ h q3 v0.1 v0.2.1 v0.2.2.1 v0.2.2.2.1 v0.2.2.2.2 M vb vg p2 wf hs hn (by omega) (by omega) (by omega) hb) gL_law_X2_bring rfl 3 (by decide +kernel) rfl rfl ⟨(Nat.le_of_ble_eq_true rfl), (Nat.le_of_ble_eq_true rfl)⟩ rfl (q0 := 0) rfl (T := TX2) (N := 12) rfl gk_ok0 trivial [0, 1, 2, 3, 4, 5, 6, 7] rfl (by decide) [8, 9, 10, 11, 12, 13, 14, 15, 16, 17, 18, 19, 20, 21, 22, 23, 24, 25, 26, 27, 28, 29] rfl (by decide) (by decide) rfl (Nat.le_of_ble_eq_true rfl) dL_law_445 ⟨(show (cells + 1) + 0 ≤ 601024 by omega), (show (slots + 6) + 0 ≤ 7293034 by omega)⟩ (fun r445 v445 hp445 => ?_)
  have hR445 : r445 = nI 0 := hp445.1
  have hs445 : gr_st v445.1 v445.2.1 M := hp445.2.1
  have hn445 : gr_now v445.2.2.1 M := hp445.2.2.1
  have hF445 : v445.1 0 = nI 1 := hp445.2.2.2
  refine gk_wsub (w' := (gd_X cI h q3 v445 ++ (gw_O cJ o f421 ++ (gw_X cI cZ g h1 h2 q q2 u421)))) [22, 23, 24, 25, 26, 27, 28, 29, 0, 1, 2, 3, 4, 5, 6, 7, 8, 9, 10, 11, 12, 13, 14, 15, 16, 17, 18, 19, 20, 21] rfl (by decide) ?_
  show gk_C p l e room_1 s m args below meth c 9 D A Q ((cells + 1) + 0) ((slots + 6) + 0) (gd_X cI h q3 v445 ++ (gw_O cJ o f421 ++ (gw_X cI cZ g h1 h2 q q2 u421))) [(5, .int r421), (4, .int (nI i)), (3, .ref o), (2, .ref h), (1, .ref g), (0, .ref b)] 448 [.int r445]
  refine gk_istore (lv' := [(6, .int r445), (5, .int r421), (4, .int (nI i)), (3, .ref o), (2, .ref h), (1, .ref g), (0, .ref b)]) G dL_law_448 (by decide) rfl ?_
  refine gk_aload_n G dL_law_450 4 rfl ?_
  refine gk_callIV (wr := gw_O cJ o f421 ++ (gw_X cI cZ g h1 h2 q q2 u421)) G (c2_thrown l D cI cZ cJ h q3 v445.1 v445.2.1 v445.2.2.1 v445.2.2.2.1 v445.2.2.2.2 M) gL_law_X2_thrown rfl 0 (by decide +kernel) rfl rfl ⟨(Nat.le_of_ble_eq_true rfl), (Nat.le_of_ble_eq_true rfl)⟩ rfl (q0 := 0) rfl (T := TX2) (N := 12) rfl gk_ok0 trivial [0, 1, 2, 3, 4, 5, 6, 7] rfl (by decide) [8, 9, 10, 11, 12, 13, 14, 15, 16, 17, 18, 19, 20, 21, 22, 23, 24, 25, 26, 27, 28, 29] rfl (by decide) (by decide) rfl (Nat.le_of_ble_eq_true rfl) dL_law_451 ⟨(show ((cells + 1) + 0) + 0 ≤ 601024 by omega), (show ((slots + 6) + 0) + 0 ≤ 7293034 by omega)⟩ (fun r451 u451 hp451 => ?_)
  have hT451 : r451 = nI 1 := (show r451 = v445.1 0 from hp451).trans hF445
  refine gk_wsub (w' := (gd_X cI h q3 v445 ++ (gw_O cJ o f421 ++ (gw_X cI cZ g h1 h2 q q2 u421)))) [22, 23, 24, 25, 26, 27, 28, 29, 0, 1, 2, 3, 4, 5, 6, 7, 8, 9, 10, 11, 12, 13, 14, 15, 16, 17, 18, 19, 20, 21] rfl (by decide) ?_
  show gk_C p l e room_1 s m args below meth c 9 D A Q (((cells + 1) + 0) + 0) (((slots + 6) + 0) + 0) (gd_X cI h q3 v445 ++ (gw_O cJ o f421 ++ (gw_X cI cZ g h1 h2 q q2 u421))) [(6, .int r445), (5, .int r421), (4, .int (nI i)), (3, .ref o), (2, .ref h), (1, .ref g), (0, .ref b)] 454 [.int r451]
  refine gk_iload G dL_law_454 1 rfl ?_
  refine gk_icmp_eq (tgt := 461) G dL_law_456 (by decide) (fun c_456 => ?_) (fun c_456 => ?_)
  · refine gk_iload G dL_law_461 1 rfl ?_
    refine gk_if_ne (tgt := 478) G dL_law_463 (by decide) (fun c_463 => ?_) (fun c_463 => ?_)
    · refine gk_goto (tgt := 1565) G dL_law_478 (by decide) ?_
      exact gk_lsub [2, 3, 4, 5, 6] rfl (K f421 u421 v445 _ _ (by omega) (by omega) hr421 hs445 hn445)
    · exact absurd (hK421.symm.trans c_463) (by decide)
  · exact absurd (hT451.trans hK421.symm) c_456
set_option maxRecDepth 100000 in
set_option maxHeartbeats 1000000 in
theorem lg_bring_full {p : Program} {l : Launch} {e : Env} {s : State} {m : MethodId} {args : Array Value} {below : List Frame} {meth : Method} {c : Code} {D : va_G} {A : Nat → Prop} {Q : State → Prop} {cI cZ cJ : ClassId} {b L : Nat} {xs : Nat → Int32} (G : gk_G p s m args meth c RL 9 cL_law (some .boolean) wsL_law D (g_T cI cZ cJ) A) (hE : gl_F A s s.heap) (hl9 : l.stackTraces = false) (hX : va_X b L xs s s.heap) (hbl : b < s.heap.size) (hbA : ¬ A b) (hL : L ≤ 2048) {g h1 h2 o h : Nat} {q q2 q3 : Nat → Nat} {f : Nat → Int64} {u0 : gw_U} {v0 : gd_U} {M : gm_M} (wf : gm_wf M) (hrest : gm_rest M) (hh : M 9 0 < 1999000) (hr : gc_rep u0.1.1 u0.1.2 M) (hs : gr_st v0.1 v0.2.1 M) (hn : gr_now v0.2.2.1 M) {i cells slots : Nat} (hi : i + 4 ≤ L) (hc : cells ≤ 500000) (hsl : slots ≤ 7000000) (vb : Nat) (vg : Nat) (vt : Nat) (hb0 : vb < 8) (hg0 : 1 ≤ vg) (hg1 : vg < 61) (ht0 : 1 ≤ vt) (ht1 : vt < 201) (h16 : M 11 0 = 16) (hx1 : xs (i + 1) = nI vb) (hx2 : xs (i + 2) = nI vg) (hx3 : xs (i + 3) = nI vt) (K : ∀ (f9 : Nat → Int64) (u9 : gw_U) (v9 : gd_U) (c9 s9 : Nat), c9 ≤ cells + 20 → s9 ≤ slots + 240 → gc_rep u9.1.1 u9.1.2 M → gr_st v9.1 v9.2.1 M → gr_now v9.2.2.1 M → gk_C p l e room_1 s m args below meth c 9 D A Q c9 s9 (gd_X cI h q3 v9 ++ (gw_O cJ o f9 ++ (gw_X cI cZ g h1 h2 q q2 u9))) [(4, .int (nI i)), (3, .ref o), (2, .ref h), (1, .ref g), (0, .ref b)] 1565 []) : gk_C p l e room_1 s m args below meth c 9 D A Q cells slots (gd_X cI h q3 v0 ++ (gw_O cJ o f ++ (gw_X cI cZ g h1 h2 q q2 u0))) [(4, .int (nI i)), (3, .ref o), (2, .ref h), (1, .ref g), (0, .ref b)] 401 [] := by
  refine gk_aload_n G dL_law_401 3 rfl ?_
  refine gk_aload_n G dL_law_402 4 rfl ?_
  refine gk_iload G dL_law_403 0 rfl ?_
  refine gk_iconst (v := nI 1) G dL_law_405 (by decide) ?_
  refine gk_iadd (v := nI (i + 1)) G dL_law_406 (nI_add i 1) ?_
  refine gk_sld (v := (nI vb)) G hX hbl hbA (i + 1) rfl (by omega) (by omega) hx1 dL_law_407 ?_
  refine gk_aload_n G dL_law_408 4 rfl ?_
  refine gk_iload G dL_law_409 0 rfl ?_
  refine gk_iconst (v := nI 2) G dL_law_411 (by decide) ?_
  refine gk_iadd (v := nI (i + 2)) G dL_law_412 (nI_add i 2) ?_
  refine gk_sld (v := (nI vg)) G hX hbl hbA (i + 2) rfl (by omega) (by omega) hx2 dL_law_413 ?_
  refine gk_aload_n G dL_law_414 4 rfl ?_
  refine gk_iload G dL_law_415 0 rfl ?_
  refine gk_iconst (v := nI 3) G dL_law_417 (by decide) ?_
  refine gk_iadd (v := nI (i + 3)) G dL_law_418 (nI_add i 3) ?_
  refine gk_sld (v := (nI vt)) G hX hbl hbA (i + 3) rfl (by omega) (by omega) hx3 dL_law_419 ?_
  refine gk_aload_n G dL_law_420 1 rfl ?_
  refine gk_callISW (wr := gd_X cI h q3 v0) G (cl_bring_full l D cI cZ cJ o f g h1 h2 q q2 u0 M hl9 vb vg vt wf hr hb0 hg0 hg1 ht0 ht1 h16) gL_law_L_bring rfl 5 (by decide +kernel) rfl rfl ⟨(Nat.le_of_ble_eq_true rfl), (Nat.le_of_ble_eq_true rfl)⟩ rfl gl_Fok hE [8, 9, 10, 11, 12, 13, 14, 15, 16, 17, 18, 19, 20, 21, 22, 23, 24, 25, 26, 27, 28, 29] rfl (by decide) [0, 1, 2, 3, 4, 5, 6, 7] rfl (by decide) (by decide) rfl (Nat.le_of_ble_eq_true rfl) dL_law_421 ⟨(show cells + 1 ≤ 601024 by omega), (show slots + 6 ≤ 7293034 by omega)⟩ (fun r421 uu421 hp421 => ?_)
  obtain ⟨f421, u421⟩ := uu421
  have hK421 : r421 = nI 2 := hp421.1
  have hr421 : gc_rep u421.1.1 u421.1.2 M := hp421.2
  show gk_C p l e room_1 s m args below meth c 9 D A Q (cells + 1) (slots + 6) (gd_X cI h q3 v0 ++ (gw_O cJ o f421 ++ (gw_X cI cZ g h1 h2 q q2 u421))) [(4, .int (nI i)), (3, .ref o), (2, .ref h), (1, .ref g), (0, .ref b)] 424 [.int r421]
  refine gk_istore (lv' := [(5, .int r421), (4, .int (nI i)), (3, .ref o), (2, .ref h), (1, .ref g), (0, .ref b)]) G dL_law_424 (by decide) rfl ?_
  refine gk_aload_n G dL_law_426 3 rfl ?_
  refine gk_aload_n G dL_law_427 5 rfl ?_
  refine gk_iload G dL_law_428 1 rfl ?_
  refine gk_iconst (v := nI 1) G dL_law_430 (by decide) ?_
  refine gk_iadd (v := nI (i + 1)) G dL_law_431 (nI_add i 1) ?_
  refine gk_sld (v := (nI vb)) G hX hbl hbA (i + 1) rfl (by omega) (by omega) hx1 dL_law_432 ?_
  refine gk_aload_n G dL_law_433 5 rfl ?_
  refine gk_iload G dL_law_434 1 rfl ?_
  refine gk_iconst (v := nI 2) G dL_law_436 (by decide) ?_
  refine gk_iadd (v := nI (i + 2)) G dL_law_437 (nI_add i 2) ?_
  refine gk_sld (v := (nI vg)) G hX hbl hbA (i + 2) rfl (by omega) (by omega) hx2 dL_law_438 ?_
  refine gk_aload_n G dL_law_439 5 rfl ?_
  refine gk_iload G dL_law_440 1 rfl ?_
  refine gk_iconst (v := nI 3) G dL_law_442 (by decide) ?_
  refine gk_iadd (v := nI (i + 3)) G dL_law_443 (nI_add i 3) ?_
  refine gk_sld (v := (nI vt)) G hX hbl hbA (i + 3) rfl (by omega) (by omega) hx3 dL_law_444 ?_
  refine gk_callIV (wr := gw_O cJ o f421 ++ (gw_X cI cZ g h1 h2 q q2 u421)) G (c2_bring_full l D cI cZ cJ h q3 v0.1 v0.2.1 v0.2.2.1 v0.2.2.2.1 v0.2.2.2.2 M vb vg vt wf hs hn (by omega) (by omega) (by omega) (by omega) (by omega) (by omega)) gL_law_X2_bring rfl 3 (by decide +kernel) rfl rfl ⟨(Nat.le_of_ble_eq_true rfl), (Nat.le_of_ble_eq_true rfl)⟩ rfl (q0 := 0) rfl (T := TX2) (N := 12) rfl gk_ok0 trivial [0, 1, 2, 3, 4, 5, 6, 7] rfl (by decide) [8, 9, 10, 11, 12, 13, 14, 15, 16, 17, 18, 19, 20, 21, 22, 23, 24, 25, 26, 27, 28, 29] rfl (by decide) (by decide) rfl (Nat.le_of_ble_eq_true rfl) dL_law_445 ⟨(show (cells + 1) + 0 ≤ 601024 by omega), (show (slots + 6) + 0 ≤ 7293034 by omega)⟩ (fun r445 v445 hp445 => ?_)
  have hR445 : r445 = nI 0 := hp445.1
  have hs445 : gr_st v445.1 v445.2.1 M := hp445.2.1
  have hn445 : gr_now v445.2.2.1 M := hp445.2.2.1
  have hF445 : v445.1 0 = nI 2 := hp445.2.2.2
  refine gk_wsub (w' := (gd_X cI h q3 v445 ++ (gw_O cJ o f421 ++ (gw_X cI cZ g h1 h2 q q2 u421)))) [22, 23, 24, 25, 26, 27, 28, 29, 0, 1, 2, 3, 4, 5, 6, 7, 8, 9, 10, 11, 12, 13, 14, 15, 16, 17, 18, 19, 20, 21] rfl (by decide) ?_
  show gk_C p l e room_1 s m args below meth c 9 D A Q ((cells + 1) + 0) ((slots + 6) + 0) (gd_X cI h q3 v445 ++ (gw_O cJ o f421 ++ (gw_X cI cZ g h1 h2 q q2 u421))) [(5, .int r421), (4, .int (nI i)), (3, .ref o), (2, .ref h), (1, .ref g), (0, .ref b)] 448 [.int r445]
  refine gk_istore (lv' := [(6, .int r445), (5, .int r421), (4, .int (nI i)), (3, .ref o), (2, .ref h), (1, .ref g), (0, .ref b)]) G dL_law_448 (by decide) rfl ?_
  refine gk_aload_n G dL_law_450 4 rfl ?_
  refine gk_callIV (wr := gw_O cJ o f421 ++ (gw_X cI cZ g h1 h2 q q2 u421)) G (c2_thrown l D cI cZ cJ h q3 v445.1 v445.2.1 v445.2.2.1 v445.2.2.2.1 v445.2.2.2.2 M) gL_law_X2_thrown rfl 0 (by decide +kernel) rfl rfl ⟨(Nat.le_of_ble_eq_true rfl), (Nat.le_of_ble_eq_true rfl)⟩ rfl (q0 := 0) rfl (T := TX2) (N := 12) rfl gk_ok0 trivial [0, 1, 2, 3, 4, 5, 6, 7] rfl (by decide) [8, 9, 10, 11, 12, 13, 14, 15, 16, 17, 18, 19, 20, 21, 22, 23, 24, 25, 26, 27, 28, 29] rfl (by decide) (by decide) rfl (Nat.le_of_ble_eq_true rfl) dL_law_451 ⟨(show ((cells + 1) + 0) + 0 ≤ 601024 by omega), (show ((slots + 6) + 0) + 0 ≤ 7293034 by omega)⟩ (fun r451 u451 hp451 => ?_)
  have hT451 : r451 = nI 2 := (show r451 = v445.1 0 from hp451).trans hF445
  refine gk_wsub (w' := (gd_X cI h q3 v445 ++ (gw_O cJ o f421 ++ (gw_X cI cZ g h1 h2 q q2 u421)))) [22, 23, 24, 25, 26, 27, 28, 29, 0, 1, 2, 3, 4, 5, 6, 7, 8, 9, 10, 11, 12, 13, 14, 15, 16, 17, 18, 19, 20, 21] rfl (by decide) ?_
  show gk_C p l e room_1 s m args below meth c 9 D A Q (((cells + 1) + 0) + 0) (((slots + 6) + 0) + 0) (gd_X cI h q3 v445 ++ (gw_O cJ o f421 ++ (gw_X cI cZ g h1 h2 q q2 u421))) [(6, .int r445), (5, .int r421), (4, .int (nI i)), (3, .ref o), (2, .ref h), (1, .ref g), (0, .ref b)] 454 [.int r451]
  refine gk_iload G dL_law_454 1 rfl ?_
  refine gk_icmp_eq (tgt := 461) G dL_law_456 (by decide) (fun c_456 => ?_) (fun c_456 => ?_)
  · refine gk_iload G dL_law_461 1 rfl ?_
    refine gk_if_ne (tgt := 478) G dL_law_463 (by decide) (fun c_463 => ?_) (fun c_463 => ?_)
    · refine gk_goto (tgt := 1565) G dL_law_478 (by decide) ?_
      exact gk_lsub [2, 3, 4, 5, 6] rfl (K f421 u421 v445 _ _ (by omega) (by omega) hr421 hs445 hn445)
    · exact absurd (hK421.symm.trans c_463) (by decide)
  · exact absurd (hT451.trans hK421.symm) c_456
set_option maxRecDepth 100000 in
set_option maxHeartbeats 1000000 in
theorem lg_bring_ok {p : Program} {l : Launch} {e : Env} {s : State} {m : MethodId} {args : Array Value} {below : List Frame} {meth : Method} {c : Code} {D : va_G} {A : Nat → Prop} {Q : State → Prop} {cI cZ cJ : ClassId} {b L : Nat} {xs : Nat → Int32} (G : gk_G p s m args meth c RL 9 cL_law (some .boolean) wsL_law D (g_T cI cZ cJ) A) (hE : gl_F A s s.heap) (hl9 : l.stackTraces = false) (hX : va_X b L xs s s.heap) (hbl : b < s.heap.size) (hbA : ¬ A b) (hL : L ≤ 2048) {g h1 h2 o h : Nat} {q q2 q3 : Nat → Nat} {f : Nat → Int64} {u0 : gw_U} {v0 : gd_U} {M : gm_M} (wf : gm_wf M) (hrest : gm_rest M) (hh : M 9 0 < 1999000) (hr : gc_rep u0.1.1 u0.1.2 M) (hs : gr_st v0.1 v0.2.1 M) (hn : gr_now v0.2.2.1 M) {i cells slots : Nat} (hi : i + 4 ≤ L) (hc : cells ≤ 500000) (hsl : slots ≤ 7000000) (vb : Nat) (vg : Nat) (vt : Nat) (hb0 : vb < 8) (hg0 : 1 ≤ vg) (hg1 : vg < 61) (ht0 : 1 ≤ vt) (ht1 : vt < 201) (h16 : M 11 0 < 16) (hx1 : xs (i + 1) = nI vb) (hx2 : xs (i + 2) = nI vg) (hx3 : xs (i + 3) = nI vt) (K : ∀ (f9 : Nat → Int64) (u9 : gw_U) (v9 : gd_U) (c9 s9 : Nat), c9 ≤ cells + 20 → s9 ≤ slots + 240 → gc_rep u9.1.1 u9.1.2 (gm_add M vb vg vt) → gr_st v9.1 v9.2.1 (gm_add M vb vg vt) → gr_now v9.2.2.1 (gm_add M vb vg vt) → gk_C p l e room_1 s m args below meth c 9 D A Q c9 s9 (gd_X cI h q3 v9 ++ (gw_O cJ o f9 ++ (gw_X cI cZ g h1 h2 q q2 u9))) [(4, .int (nI i)), (3, .ref o), (2, .ref h), (1, .ref g), (0, .ref b)] 1565 []) : gk_C p l e room_1 s m args below meth c 9 D A Q cells slots (gd_X cI h q3 v0 ++ (gw_O cJ o f ++ (gw_X cI cZ g h1 h2 q q2 u0))) [(4, .int (nI i)), (3, .ref o), (2, .ref h), (1, .ref g), (0, .ref b)] 401 [] := by
  refine gk_aload_n G dL_law_401 3 rfl ?_
  refine gk_aload_n G dL_law_402 4 rfl ?_
  refine gk_iload G dL_law_403 0 rfl ?_
  refine gk_iconst (v := nI 1) G dL_law_405 (by decide) ?_
  refine gk_iadd (v := nI (i + 1)) G dL_law_406 (nI_add i 1) ?_
  refine gk_sld (v := (nI vb)) G hX hbl hbA (i + 1) rfl (by omega) (by omega) hx1 dL_law_407 ?_
  refine gk_aload_n G dL_law_408 4 rfl ?_
  refine gk_iload G dL_law_409 0 rfl ?_
  refine gk_iconst (v := nI 2) G dL_law_411 (by decide) ?_
  refine gk_iadd (v := nI (i + 2)) G dL_law_412 (nI_add i 2) ?_
  refine gk_sld (v := (nI vg)) G hX hbl hbA (i + 2) rfl (by omega) (by omega) hx2 dL_law_413 ?_
  refine gk_aload_n G dL_law_414 4 rfl ?_
  refine gk_iload G dL_law_415 0 rfl ?_
  refine gk_iconst (v := nI 3) G dL_law_417 (by decide) ?_
  refine gk_iadd (v := nI (i + 3)) G dL_law_418 (nI_add i 3) ?_
  refine gk_sld (v := (nI vt)) G hX hbl hbA (i + 3) rfl (by omega) (by omega) hx3 dL_law_419 ?_
  refine gk_aload_n G dL_law_420 1 rfl ?_
  refine gk_callISW (wr := gd_X cI h q3 v0) G (cl_bring_ok l D cI cZ cJ o f g h1 h2 q q2 u0 M vb vg vt wf hr hb0 hg0 hg1 ht0 ht1 h16) gL_law_L_bring rfl 5 (by decide +kernel) rfl rfl ⟨(Nat.le_of_ble_eq_true rfl), (Nat.le_of_ble_eq_true rfl)⟩ rfl gl_Fok hE [8, 9, 10, 11, 12, 13, 14, 15, 16, 17, 18, 19, 20, 21, 22, 23, 24, 25, 26, 27, 28, 29] rfl (by decide) [0, 1, 2, 3, 4, 5, 6, 7] rfl (by decide) (by decide) rfl (Nat.le_of_ble_eq_true rfl) dL_law_421 ⟨(show cells + 0 ≤ 601024 by omega), (show slots + 0 ≤ 7293034 by omega)⟩ (fun r421 uu421 hp421 => ?_)
  obtain ⟨f421, u421⟩ := uu421
  have hK421 : r421 = nI 0 := hp421.1
  have hv421 : f421 0 = (nI (M 11 0)).toInt64 := hp421.2.1
  have hr421 : gc_rep u421.1.1 u421.1.2 (gm_add M vb vg vt) := hp421.2.2
  show gk_C p l e room_1 s m args below meth c 9 D A Q (cells + 0) (slots + 0) (gd_X cI h q3 v0 ++ (gw_O cJ o f421 ++ (gw_X cI cZ g h1 h2 q q2 u421))) [(4, .int (nI i)), (3, .ref o), (2, .ref h), (1, .ref g), (0, .ref b)] 424 [.int r421]
  refine gk_istore (lv' := [(5, .int r421), (4, .int (nI i)), (3, .ref o), (2, .ref h), (1, .ref g), (0, .ref b)]) G dL_law_424 (by decide) rfl ?_
  refine gk_aload_n G dL_law_426 3 rfl ?_
  refine gk_aload_n G dL_law_427 5 rfl ?_
  refine gk_iload G dL_law_428 1 rfl ?_
  refine gk_iconst (v := nI 1) G dL_law_430 (by decide) ?_
  refine gk_iadd (v := nI (i + 1)) G dL_law_431 (nI_add i 1) ?_
  refine gk_sld (v := (nI vb)) G hX hbl hbA (i + 1) rfl (by omega) (by omega) hx1 dL_law_432 ?_
  refine gk_aload_n G dL_law_433 5 rfl ?_
  refine gk_iload G dL_law_434 1 rfl ?_
  refine gk_iconst (v := nI 2) G dL_law_436 (by decide) ?_
  refine gk_iadd (v := nI (i + 2)) G dL_law_437 (nI_add i 2) ?_
  refine gk_sld (v := (nI vg)) G hX hbl hbA (i + 2) rfl (by omega) (by omega) hx2 dL_law_438 ?_
  refine gk_aload_n G dL_law_439 5 rfl ?_
  refine gk_iload G dL_law_440 1 rfl ?_
  refine gk_iconst (v := nI 3) G dL_law_442 (by decide) ?_
  refine gk_iadd (v := nI (i + 3)) G dL_law_443 (nI_add i 3) ?_
  refine gk_sld (v := (nI vt)) G hX hbl hbA (i + 3) rfl (by omega) (by omega) hx3 dL_law_444 ?_
  refine gk_callIV (wr := gw_O cJ o f421 ++ (gw_X cI cZ g h1 h2 q q2 u421)) G (c2_bring_ok l D cI cZ cJ h q3 v0.1 v0.2.1 v0.2.2.1 v0.2.2.2.1 v0.2.2.2.2 M vb vg vt wf hs hn (by omega) (by omega) (by omega) (by omega) (by omega) (by omega)) gL_law_X2_bring rfl 3 (by decide +kernel) rfl rfl ⟨(Nat.le_of_ble_eq_true rfl), (Nat.le_of_ble_eq_true rfl)⟩ rfl (q0 := 0) rfl (T := TX2) (N := 12) rfl gk_ok0 trivial [0, 1, 2, 3, 4, 5, 6, 7] rfl (by decide) [8, 9, 10, 11, 12, 13, 14, 15, 16, 17, 18, 19, 20, 21, 22, 23, 24, 25, 26, 27, 28, 29] rfl (by decide) (by decide) rfl (Nat.le_of_ble_eq_true rfl) dL_law_445 ⟨(show (cells + 0) + 0 ≤ 601024 by omega), (show (slots + 0) + 0 ≤ 7293034 by omega)⟩ (fun r445 v445 hp445 => ?_)
  have hR445 : r445 = nI (M 11 0) := hp445.1
  have hs445 : gr_st v445.1 v445.2.1 (gm_add M vb vg vt) := hp445.2.1
  have hn445 : gr_now v445.2.2.1 (gm_add M vb vg vt) := hp445.2.2.1
  have hF445 : v445.1 0 = nI 0 := hp445.2.2.2
  refine gk_wsub (w' := (gd_X cI h q3 v445 ++ (gw_O cJ o f421 ++ (gw_X cI cZ g h1 h2 q q2 u421)))) [22, 23, 24, 25, 26, 27, 28, 29, 0, 1, 2, 3, 4, 5, 6, 7, 8, 9, 10, 11, 12, 13, 14, 15, 16, 17, 18, 19, 20, 21] rfl (by decide) ?_
  show gk_C p l e room_1 s m args below meth c 9 D A Q ((cells + 0) + 0) ((slots + 0) + 0) (gd_X cI h q3 v445 ++ (gw_O cJ o f421 ++ (gw_X cI cZ g h1 h2 q q2 u421))) [(5, .int r421), (4, .int (nI i)), (3, .ref o), (2, .ref h), (1, .ref g), (0, .ref b)] 448 [.int r445]
  refine gk_istore (lv' := [(6, .int r445), (5, .int r421), (4, .int (nI i)), (3, .ref o), (2, .ref h), (1, .ref g), (0, .ref b)]) G dL_law_448 (by decide) rfl ?_
  refine gk_aload_n G dL_law_450 4 rfl ?_
  refine gk_callIV (wr := gw_O cJ o f421 ++ (gw_X cI cZ g h1 h2 q q2 u421)) G (c2_thrown l D cI cZ cJ h q3 v445.1 v445.2.1 v445.2.2.1 v445.2.2.2.1 v445.2.2.2.2 M) gL_law_X2_thrown rfl 0 (by decide +kernel) rfl rfl ⟨(Nat.le_of_ble_eq_true rfl), (Nat.le_of_ble_eq_true rfl)⟩ rfl (q0 := 0) rfl (T := TX2) (N := 12) rfl gk_ok0 trivial [0, 1, 2, 3, 4, 5, 6, 7] rfl (by decide) [8, 9, 10, 11, 12, 13, 14, 15, 16, 17, 18, 19, 20, 21, 22, 23, 24, 25, 26, 27, 28, 29] rfl (by decide) (by decide) rfl (Nat.le_of_ble_eq_true rfl) dL_law_451 ⟨(show ((cells + 0) + 0) + 0 ≤ 601024 by omega), (show ((slots + 0) + 0) + 0 ≤ 7293034 by omega)⟩ (fun r451 u451 hp451 => ?_)
  have hT451 : r451 = nI 0 := (show r451 = v445.1 0 from hp451).trans hF445
  refine gk_wsub (w' := (gd_X cI h q3 v445 ++ (gw_O cJ o f421 ++ (gw_X cI cZ g h1 h2 q q2 u421)))) [22, 23, 24, 25, 26, 27, 28, 29, 0, 1, 2, 3, 4, 5, 6, 7, 8, 9, 10, 11, 12, 13, 14, 15, 16, 17, 18, 19, 20, 21] rfl (by decide) ?_
  show gk_C p l e room_1 s m args below meth c 9 D A Q (((cells + 0) + 0) + 0) (((slots + 0) + 0) + 0) (gd_X cI h q3 v445 ++ (gw_O cJ o f421 ++ (gw_X cI cZ g h1 h2 q q2 u421))) [(6, .int r445), (5, .int r421), (4, .int (nI i)), (3, .ref o), (2, .ref h), (1, .ref g), (0, .ref b)] 454 [.int r451]
  refine gk_iload G dL_law_454 1 rfl ?_
  refine gk_icmp_eq (tgt := 461) G dL_law_456 (by decide) (fun c_456 => ?_) (fun c_456 => ?_)
  · refine gk_iload G dL_law_461 1 rfl ?_
    refine gk_if_ne (tgt := 478) G dL_law_463 (by decide) (fun c_463 => ?_) (fun c_463 => ?_)
    · exact absurd (hK421.trans nI_0) c_463
    · refine gk_aload_n G dL_law_466 3 rfl ?_
      refine gk_iconst (v := nI 0) G dL_law_467 (by decide) ?_
      refine gk_lald (v := f421 0) G (q0 := 8) (t0 := 2) rfl rfl 0 rfl (by decide) (by decide) rfl dL_law_468 ?_
      refine gk_iload G dL_law_469 0 rfl ?_
      refine gk_i2l (v := (r445).toInt64) G dL_law_471 rfl ?_
      refine gk_lcmp G dL_law_472 ?_
      refine gk_if_eq (tgt := 478) G dL_law_473 (by decide) (fun c_473 => ?_) (fun c_473 => ?_)
      · refine gk_goto (tgt := 1565) G dL_law_478 (by decide) ?_
        exact gk_lsub [2, 3, 4, 5, 6] rfl (K f421 u421 v445 _ _ (by omega) (by omega) hr421 hs445 hn445)
      · exact absurd (gl_cmp (hv421.trans (congrArg Int32.toInt64 hR445).symm)) c_473
  · exact absurd (hT451.trans hK421.symm) c_456
set_option maxRecDepth 100000 in
set_option maxHeartbeats 1000000 in
theorem lg_lift_no {p : Program} {l : Launch} {e : Env} {s : State} {m : MethodId} {args : Array Value} {below : List Frame} {meth : Method} {c : Code} {D : va_G} {A : Nat → Prop} {Q : State → Prop} {cI cZ cJ : ClassId} {b L : Nat} {xs : Nat → Int32} (G : gk_G p s m args meth c RL 9 cL_law (some .boolean) wsL_law D (g_T cI cZ cJ) A) (hE : gl_F A s s.heap) (hl9 : l.stackTraces = false) (hX : va_X b L xs s s.heap) (hbl : b < s.heap.size) (hbA : ¬ A b) (hL : L ≤ 2048) {g h1 h2 o h : Nat} {q q2 q3 : Nat → Nat} {f : Nat → Int64} {u0 : gw_U} {v0 : gd_U} {M : gm_M} (wf : gm_wf M) (hrest : gm_rest M) (hh : M 9 0 < 1999000) (hr : gc_rep u0.1.1 u0.1.2 M) (hs : gr_st v0.1 v0.2.1 M) (hn : gr_now v0.2.2.1 M) {i cells slots : Nat} (hi : i + 4 ≤ L) (hc : cells ≤ 500000) (hsl : slots ≤ 7000000) (p0 : Int32) (hb : ¬ gm_rg p0 0 (M 11 0)) (hx1 : xs (i + 1) = p0) (K : ∀ (f9 : Nat → Int64) (u9 : gw_U) (v9 : gd_U) (c9 s9 : Nat), c9 ≤ cells + 20 → s9 ≤ slots + 240 → gc_rep u9.1.1 u9.1.2 M → gr_st v9.1 v9.2.1 M → gr_now v9.2.2.1 M → gk_C p l e room_1 s m args below meth c 9 D A Q c9 s9 (gd_X cI h q3 v9 ++ (gw_O cJ o f9 ++ (gw_X cI cZ g h1 h2 q q2 u9))) [(4, .int (nI i)), (3, .ref o), (2, .ref h), (1, .ref g), (0, .ref b)] 1565 []) : gk_C p l e room_1 s m args below meth c 9 D A Q cells slots (gd_X cI h q3 v0 ++ (gw_O cJ o f ++ (gw_X cI cZ g h1 h2 q q2 u0))) [(4, .int (nI i)), (3, .ref o), (2, .ref h), (1, .ref g), (0, .ref b)] 481 [] := by
  refine gk_aload_n G dL_law_481 3 rfl ?_
  refine gk_aload_n G dL_law_482 4 rfl ?_
  refine gk_iload G dL_law_483 0 rfl ?_
  refine gk_iconst (v := nI 1) G dL_law_485 (by decide) ?_
  refine gk_iadd (v := nI (i + 1)) G dL_law_486 (nI_add i 1) ?_
  refine gk_sld (v := p0) G hX hbl hbA (i + 1) rfl (by omega) (by omega) hx1 dL_law_487 ?_
  refine gk_aload_n G dL_law_488 1 rfl ?_
  refine gk_callISW (wr := gd_X cI h q3 v0) G (cl_lift_no l D cI cZ cJ o f g h1 h2 q q2 u0 M hl9 p0 wf hr hb) gL_law_L_lift rfl 3 (by decide +kernel) rfl rfl ⟨(Nat.le_of_ble_eq_true rfl), (Nat.le_of_ble_eq_true rfl)⟩ rfl gl_Fok hE [8, 9, 10, 11, 12, 13, 14, 15, 16, 17, 18, 19, 20, 21, 22, 23, 24, 25, 26, 27, 28, 29] rfl (by decide) [0, 1, 2, 3, 4, 5, 6, 7] rfl (by decide) (by decide) rfl (Nat.le_of_ble_eq_true rfl) dL_law_489 ⟨(show cells + 1 ≤ 601024 by omega), (show slots + 6 ≤ 7293034 by omega)⟩ (fun r489 uu489 hp489 => ?_)
  obtain ⟨f489, u489⟩ := uu489
  have hK489 : r489 = nI 1 := hp489.1
  have hr489 : gc_rep u489.1.1 u489.1.2 M := hp489.2
  show gk_C p l e room_1 s m args below meth c 9 D A Q (cells + 1) (slots + 6) (gd_X cI h q3 v0 ++ (gw_O cJ o f489 ++ (gw_X cI cZ g h1 h2 q q2 u489))) [(4, .int (nI i)), (3, .ref o), (2, .ref h), (1, .ref g), (0, .ref b)] 492 [.int r489]
  refine gk_istore (lv' := [(5, .int r489), (4, .int (nI i)), (3, .ref o), (2, .ref h), (1, .ref g), (0, .ref b)]) G dL_law_492 (by decide) rfl ?_
  refine gk_aload_n G dL_law_494 3 rfl ?_
  refine gk_aload_n G dL_law_495 5 rfl ?_
  refine gk_iload G dL_law_496 1 rfl ?_
  refine gk_iconst (v := nI 1) G dL_law_498 (by decide) ?_
  refine gk_iadd (v := nI (i + 1)) G dL_law_499 (nI_add i 1) ?_
  refine gk_sld (v := p0) G hX hbl hbA (i + 1) rfl (by omega) (by omega) hx1 dL_law_500 ?_
  refine gk_callIV (wr := gw_O cJ o f489 ++ (gw_X cI cZ g h1 h2 q q2 u489)) G (c2_lift_no l D cI cZ cJ h q3 v0.1 v0.2.1 v0.2.2.1 v0.2.2.2.1 v0.2.2.2.2 M p0 wf hs hn hb) gL_law_X2_lift rfl 1 (by decide +kernel) rfl rfl ⟨(Nat.le_of_ble_eq_true rfl), (Nat.le_of_ble_eq_true rfl)⟩ rfl (q0 := 0) rfl (T := TX2) (N := 12) rfl gk_ok0 trivial [0, 1, 2, 3, 4, 5, 6, 7] rfl (by decide) [8, 9, 10, 11, 12, 13, 14, 15, 16, 17, 18, 19, 20, 21, 22, 23, 24, 25, 26, 27, 28, 29] rfl (by decide) (by decide) rfl (Nat.le_of_ble_eq_true rfl) dL_law_501 ⟨(show (cells + 1) + 0 ≤ 601024 by omega), (show (slots + 6) + 0 ≤ 7293034 by omega)⟩ (fun r501 v501 hp501 => ?_)
  have hR501 : r501 = nI 0 := hp501.1
  have hs501 : gr_st v501.1 v501.2.1 M := hp501.2.1
  have hn501 : gr_now v501.2.2.1 M := hp501.2.2.1
  have hF501 : v501.1 0 = nI 1 := hp501.2.2.2
  refine gk_wsub (w' := (gd_X cI h q3 v501 ++ (gw_O cJ o f489 ++ (gw_X cI cZ g h1 h2 q q2 u489)))) [22, 23, 24, 25, 26, 27, 28, 29, 0, 1, 2, 3, 4, 5, 6, 7, 8, 9, 10, 11, 12, 13, 14, 15, 16, 17, 18, 19, 20, 21] rfl (by decide) ?_
  show gk_C p l e room_1 s m args below meth c 9 D A Q ((cells + 1) + 0) ((slots + 6) + 0) (gd_X cI h q3 v501 ++ (gw_O cJ o f489 ++ (gw_X cI cZ g h1 h2 q q2 u489))) [(5, .int r489), (4, .int (nI i)), (3, .ref o), (2, .ref h), (1, .ref g), (0, .ref b)] 504 [.int r501]
  refine gk_istore (lv' := [(6, .int r501), (5, .int r489), (4, .int (nI i)), (3, .ref o), (2, .ref h), (1, .ref g), (0, .ref b)]) G dL_law_504 (by decide) rfl ?_
  refine gk_aload_n G dL_law_506 4 rfl ?_
  refine gk_callIV (wr := gw_O cJ o f489 ++ (gw_X cI cZ g h1 h2 q q2 u489)) G (c2_thrown l D cI cZ cJ h q3 v501.1 v501.2.1 v501.2.2.1 v501.2.2.2.1 v501.2.2.2.2 M) gL_law_X2_thrown rfl 0 (by decide +kernel) rfl rfl ⟨(Nat.le_of_ble_eq_true rfl), (Nat.le_of_ble_eq_true rfl)⟩ rfl (q0 := 0) rfl (T := TX2) (N := 12) rfl gk_ok0 trivial [0, 1, 2, 3, 4, 5, 6, 7] rfl (by decide) [8, 9, 10, 11, 12, 13, 14, 15, 16, 17, 18, 19, 20, 21, 22, 23, 24, 25, 26, 27, 28, 29] rfl (by decide) (by decide) rfl (Nat.le_of_ble_eq_true rfl) dL_law_507 ⟨(show ((cells + 1) + 0) + 0 ≤ 601024 by omega), (show ((slots + 6) + 0) + 0 ≤ 7293034 by omega)⟩ (fun r507 u507 hp507 => ?_)
  have hT507 : r507 = nI 1 := (show r507 = v501.1 0 from hp507).trans hF501
  refine gk_wsub (w' := (gd_X cI h q3 v501 ++ (gw_O cJ o f489 ++ (gw_X cI cZ g h1 h2 q q2 u489)))) [22, 23, 24, 25, 26, 27, 28, 29, 0, 1, 2, 3, 4, 5, 6, 7, 8, 9, 10, 11, 12, 13, 14, 15, 16, 17, 18, 19, 20, 21] rfl (by decide) ?_
  show gk_C p l e room_1 s m args below meth c 9 D A Q (((cells + 1) + 0) + 0) (((slots + 6) + 0) + 0) (gd_X cI h q3 v501 ++ (gw_O cJ o f489 ++ (gw_X cI cZ g h1 h2 q q2 u489))) [(6, .int r501), (5, .int r489), (4, .int (nI i)), (3, .ref o), (2, .ref h), (1, .ref g), (0, .ref b)] 510 [.int r507]
  refine gk_iload G dL_law_510 1 rfl ?_
  refine gk_icmp_eq (tgt := 517) G dL_law_512 (by decide) (fun c_512 => ?_) (fun c_512 => ?_)
  · refine gk_iload G dL_law_517 1 rfl ?_
    refine gk_if_ne (tgt := 534) G dL_law_519 (by decide) (fun c_519 => ?_) (fun c_519 => ?_)
    · refine gk_goto (tgt := 1565) G dL_law_534 (by decide) ?_
      exact gk_lsub [2, 3, 4, 5, 6] rfl (K f489 u489 v501 _ _ (by omega) (by omega) hr489 hs501 hn501)
    · exact absurd (hK489.symm.trans c_519) (by decide)
  · exact absurd (hT507.trans hK489.symm) c_512
set_option maxRecDepth 100000 in
set_option maxHeartbeats 1000000 in
theorem lg_lift_none {p : Program} {l : Launch} {e : Env} {s : State} {m : MethodId} {args : Array Value} {below : List Frame} {meth : Method} {c : Code} {D : va_G} {A : Nat → Prop} {Q : State → Prop} {cI cZ cJ : ClassId} {b L : Nat} {xs : Nat → Int32} (G : gk_G p s m args meth c RL 9 cL_law (some .boolean) wsL_law D (g_T cI cZ cJ) A) (hE : gl_F A s s.heap) (hl9 : l.stackTraces = false) (hX : va_X b L xs s s.heap) (hbl : b < s.heap.size) (hbA : ¬ A b) (hL : L ≤ 2048) {g h1 h2 o h : Nat} {q q2 q3 : Nat → Nat} {f : Nat → Int64} {u0 : gw_U} {v0 : gd_U} {M : gm_M} (wf : gm_wf M) (hrest : gm_rest M) (hh : M 9 0 < 1999000) (hr : gc_rep u0.1.1 u0.1.2 M) (hs : gr_st v0.1 v0.2.1 M) (hn : gr_now v0.2.2.1 M) {i cells slots : Nat} (hi : i + 4 ≤ L) (hc : cells ≤ 500000) (hsl : slots ≤ 7000000) (v : Nat) (hv : v < M 11 0) (h0 : M 7 v = 0) (hx1 : xs (i + 1) = nI v) (K : ∀ (f9 : Nat → Int64) (u9 : gw_U) (v9 : gd_U) (c9 s9 : Nat), c9 ≤ cells + 20 → s9 ≤ slots + 240 → gc_rep u9.1.1 u9.1.2 M → gr_st v9.1 v9.2.1 M → gr_now v9.2.2.1 M → gk_C p l e room_1 s m args below meth c 9 D A Q c9 s9 (gd_X cI h q3 v9 ++ (gw_O cJ o f9 ++ (gw_X cI cZ g h1 h2 q q2 u9))) [(4, .int (nI i)), (3, .ref o), (2, .ref h), (1, .ref g), (0, .ref b)] 1565 []) : gk_C p l e room_1 s m args below meth c 9 D A Q cells slots (gd_X cI h q3 v0 ++ (gw_O cJ o f ++ (gw_X cI cZ g h1 h2 q q2 u0))) [(4, .int (nI i)), (3, .ref o), (2, .ref h), (1, .ref g), (0, .ref b)] 481 [] := by
  refine gk_aload_n G dL_law_481 3 rfl ?_
  refine gk_aload_n G dL_law_482 4 rfl ?_
  refine gk_iload G dL_law_483 0 rfl ?_
  refine gk_iconst (v := nI 1) G dL_law_485 (by decide) ?_
  refine gk_iadd (v := nI (i + 1)) G dL_law_486 (nI_add i 1) ?_
  refine gk_sld (v := (nI v)) G hX hbl hbA (i + 1) rfl (by omega) (by omega) hx1 dL_law_487 ?_
  refine gk_aload_n G dL_law_488 1 rfl ?_
  refine gk_callISW (wr := gd_X cI h q3 v0) G (cl_lift_none l D cI cZ cJ o f g h1 h2 q q2 u0 M hl9 v wf hr hv h0) gL_law_L_lift rfl 3 (by decide +kernel) rfl rfl ⟨(Nat.le_of_ble_eq_true rfl), (Nat.le_of_ble_eq_true rfl)⟩ rfl gl_Fok hE [8, 9, 10, 11, 12, 13, 14, 15, 16, 17, 18, 19, 20, 21, 22, 23, 24, 25, 26, 27, 28, 29] rfl (by decide) [0, 1, 2, 3, 4, 5, 6, 7] rfl (by decide) (by decide) rfl (Nat.le_of_ble_eq_true rfl) dL_law_489 ⟨(show cells + 1 ≤ 601024 by omega), (show slots + 6 ≤ 7293034 by omega)⟩ (fun r489 uu489 hp489 => ?_)
  obtain ⟨f489, u489⟩ := uu489
  have hK489 : r489 = nI 2 := hp489.1
  have hr489 : gc_rep u489.1.1 u489.1.2 M := hp489.2
  show gk_C p l e room_1 s m args below meth c 9 D A Q (cells + 1) (slots + 6) (gd_X cI h q3 v0 ++ (gw_O cJ o f489 ++ (gw_X cI cZ g h1 h2 q q2 u489))) [(4, .int (nI i)), (3, .ref o), (2, .ref h), (1, .ref g), (0, .ref b)] 492 [.int r489]
  refine gk_istore (lv' := [(5, .int r489), (4, .int (nI i)), (3, .ref o), (2, .ref h), (1, .ref g), (0, .ref b)]) G dL_law_492 (by decide) rfl ?_
  refine gk_aload_n G dL_law_494 3 rfl ?_
  refine gk_aload_n G dL_law_495 5 rfl ?_
  refine gk_iload G dL_law_496 1 rfl ?_
  refine gk_iconst (v := nI 1) G dL_law_498 (by decide) ?_
  refine gk_iadd (v := nI (i + 1)) G dL_law_499 (nI_add i 1) ?_
  refine gk_sld (v := (nI v)) G hX hbl hbA (i + 1) rfl (by omega) (by omega) hx1 dL_law_500 ?_
  refine gk_callIV (wr := gw_O cJ o f489 ++ (gw_X cI cZ g h1 h2 q q2 u489)) G (c2_lift_none l D cI cZ cJ h q3 v0.1 v0.2.1 v0.2.2.1 v0.2.2.2.1 v0.2.2.2.2 M v wf hs hn (by omega) (by omega)) gL_law_X2_lift rfl 1 (by decide +kernel) rfl rfl ⟨(Nat.le_of_ble_eq_true rfl), (Nat.le_of_ble_eq_true rfl)⟩ rfl (q0 := 0) rfl (T := TX2) (N := 12) rfl gk_ok0 trivial [0, 1, 2, 3, 4, 5, 6, 7] rfl (by decide) [8, 9, 10, 11, 12, 13, 14, 15, 16, 17, 18, 19, 20, 21, 22, 23, 24, 25, 26, 27, 28, 29] rfl (by decide) (by decide) rfl (Nat.le_of_ble_eq_true rfl) dL_law_501 ⟨(show (cells + 1) + 0 ≤ 601024 by omega), (show (slots + 6) + 0 ≤ 7293034 by omega)⟩ (fun r501 v501 hp501 => ?_)
  have hR501 : r501 = nI 0 := hp501.1
  have hs501 : gr_st v501.1 v501.2.1 M := hp501.2.1
  have hn501 : gr_now v501.2.2.1 M := hp501.2.2.1
  have hF501 : v501.1 0 = nI 2 := hp501.2.2.2
  refine gk_wsub (w' := (gd_X cI h q3 v501 ++ (gw_O cJ o f489 ++ (gw_X cI cZ g h1 h2 q q2 u489)))) [22, 23, 24, 25, 26, 27, 28, 29, 0, 1, 2, 3, 4, 5, 6, 7, 8, 9, 10, 11, 12, 13, 14, 15, 16, 17, 18, 19, 20, 21] rfl (by decide) ?_
  show gk_C p l e room_1 s m args below meth c 9 D A Q ((cells + 1) + 0) ((slots + 6) + 0) (gd_X cI h q3 v501 ++ (gw_O cJ o f489 ++ (gw_X cI cZ g h1 h2 q q2 u489))) [(5, .int r489), (4, .int (nI i)), (3, .ref o), (2, .ref h), (1, .ref g), (0, .ref b)] 504 [.int r501]
  refine gk_istore (lv' := [(6, .int r501), (5, .int r489), (4, .int (nI i)), (3, .ref o), (2, .ref h), (1, .ref g), (0, .ref b)]) G dL_law_504 (by decide) rfl ?_
  refine gk_aload_n G dL_law_506 4 rfl ?_
  refine gk_callIV (wr := gw_O cJ o f489 ++ (gw_X cI cZ g h1 h2 q q2 u489)) G (c2_thrown l D cI cZ cJ h q3 v501.1 v501.2.1 v501.2.2.1 v501.2.2.2.1 v501.2.2.2.2 M) gL_law_X2_thrown rfl 0 (by decide +kernel) rfl rfl ⟨(Nat.le_of_ble_eq_true rfl), (Nat.le_of_ble_eq_true rfl)⟩ rfl (q0 := 0) rfl (T := TX2) (N := 12) rfl gk_ok0 trivial [0, 1, 2, 3, 4, 5, 6, 7] rfl (by decide) [8, 9, 10, 11, 12, 13, 14, 15, 16, 17, 18, 19, 20, 21, 22, 23, 24, 25, 26, 27, 28, 29] rfl (by decide) (by decide) rfl (Nat.le_of_ble_eq_true rfl) dL_law_507 ⟨(show ((cells + 1) + 0) + 0 ≤ 601024 by omega), (show ((slots + 6) + 0) + 0 ≤ 7293034 by omega)⟩ (fun r507 u507 hp507 => ?_)
  have hT507 : r507 = nI 2 := (show r507 = v501.1 0 from hp507).trans hF501
  refine gk_wsub (w' := (gd_X cI h q3 v501 ++ (gw_O cJ o f489 ++ (gw_X cI cZ g h1 h2 q q2 u489)))) [22, 23, 24, 25, 26, 27, 28, 29, 0, 1, 2, 3, 4, 5, 6, 7, 8, 9, 10, 11, 12, 13, 14, 15, 16, 17, 18, 19, 20, 21] rfl (by decide) ?_
  show gk_C p l e room_1 s m args below meth c 9 D A Q (((cells + 1) + 0) + 0) (((slots + 6) + 0) + 0) (gd_X cI h q3 v501 ++ (gw_O cJ o f489 ++ (gw_X cI cZ g h1 h2 q q2 u489))) [(6, .int r501), (5, .int r489), (4, .int (nI i)), (3, .ref o), (2, .ref h), (1, .ref g), (0, .ref b)] 510 [.int r507]
  refine gk_iload G dL_law_510 1 rfl ?_
  refine gk_icmp_eq (tgt := 517) G dL_law_512 (by decide) (fun c_512 => ?_) (fun c_512 => ?_)
  · refine gk_iload G dL_law_517 1 rfl ?_
    refine gk_if_ne (tgt := 534) G dL_law_519 (by decide) (fun c_519 => ?_) (fun c_519 => ?_)
    · refine gk_goto (tgt := 1565) G dL_law_534 (by decide) ?_
      exact gk_lsub [2, 3, 4, 5, 6] rfl (K f489 u489 v501 _ _ (by omega) (by omega) hr489 hs501 hn501)
    · exact absurd (hK489.symm.trans c_519) (by decide)
  · exact absurd (hT507.trans hK489.symm) c_512
set_option maxRecDepth 100000 in
set_option maxHeartbeats 1000000 in
theorem lg_lift_ok {p : Program} {l : Launch} {e : Env} {s : State} {m : MethodId} {args : Array Value} {below : List Frame} {meth : Method} {c : Code} {D : va_G} {A : Nat → Prop} {Q : State → Prop} {cI cZ cJ : ClassId} {b L : Nat} {xs : Nat → Int32} (G : gk_G p s m args meth c RL 9 cL_law (some .boolean) wsL_law D (g_T cI cZ cJ) A) (hE : gl_F A s s.heap) (hl9 : l.stackTraces = false) (hX : va_X b L xs s s.heap) (hbl : b < s.heap.size) (hbA : ¬ A b) (hL : L ≤ 2048) {g h1 h2 o h : Nat} {q q2 q3 : Nat → Nat} {f : Nat → Int64} {u0 : gw_U} {v0 : gd_U} {M : gm_M} (wf : gm_wf M) (hrest : gm_rest M) (hh : M 9 0 < 1999000) (hr : gc_rep u0.1.1 u0.1.2 M) (hs : gr_st v0.1 v0.2.1 M) (hn : gr_now v0.2.2.1 M) {i cells slots : Nat} (hi : i + 4 ≤ L) (hc : cells ≤ 500000) (hsl : slots ≤ 7000000) (v : Nat) (hv : v < M 11 0) (h0 : M 7 v ≠ 0) (hx1 : xs (i + 1) = nI v) (K : ∀ (f9 : Nat → Int64) (u9 : gw_U) (v9 : gd_U) (c9 s9 : Nat), c9 ≤ cells + 20 → s9 ≤ slots + 240 → gc_rep u9.1.1 u9.1.2 (gm_set M 7 v 0) → gr_st v9.1 v9.2.1 (gm_set M 7 v 0) → gr_now v9.2.2.1 (gm_set M 7 v 0) → gk_C p l e room_1 s m args below meth c 9 D A Q c9 s9 (gd_X cI h q3 v9 ++ (gw_O cJ o f9 ++ (gw_X cI cZ g h1 h2 q q2 u9))) [(4, .int (nI i)), (3, .ref o), (2, .ref h), (1, .ref g), (0, .ref b)] 1565 []) : gk_C p l e room_1 s m args below meth c 9 D A Q cells slots (gd_X cI h q3 v0 ++ (gw_O cJ o f ++ (gw_X cI cZ g h1 h2 q q2 u0))) [(4, .int (nI i)), (3, .ref o), (2, .ref h), (1, .ref g), (0, .ref b)] 481 [] := by
  refine gk_aload_n G dL_law_481 3 rfl ?_
  refine gk_aload_n G dL_law_482 4 rfl ?_
  refine gk_iload G dL_law_483 0 rfl ?_
  refine gk_iconst (v := nI 1) G dL_law_485 (by decide) ?_
  refine gk_iadd (v := nI (i + 1)) G dL_law_486 (nI_add i 1) ?_
  refine gk_sld (v := (nI v)) G hX hbl hbA (i + 1) rfl (by omega) (by omega) hx1 dL_law_487 ?_
  refine gk_aload_n G dL_law_488 1 rfl ?_
  refine gk_callISW (wr := gd_X cI h q3 v0) G (cl_lift_ok l D cI cZ cJ o f g h1 h2 q q2 u0 M v wf hr hv h0) gL_law_L_lift rfl 3 (by decide +kernel) rfl rfl ⟨(Nat.le_of_ble_eq_true rfl), (Nat.le_of_ble_eq_true rfl)⟩ rfl gl_Fok hE [8, 9, 10, 11, 12, 13, 14, 15, 16, 17, 18, 19, 20, 21, 22, 23, 24, 25, 26, 27, 28, 29] rfl (by decide) [0, 1, 2, 3, 4, 5, 6, 7] rfl (by decide) (by decide) rfl (Nat.le_of_ble_eq_true rfl) dL_law_489 ⟨(show cells + 0 ≤ 601024 by omega), (show slots + 0 ≤ 7293034 by omega)⟩ (fun r489 uu489 hp489 => ?_)
  obtain ⟨f489, u489⟩ := uu489
  have hK489 : r489 = nI 0 := hp489.1
  have hv489 : f489 0 = (gm_e (M 7 v)).toInt64 := hp489.2.1
  have hr489 : gc_rep u489.1.1 u489.1.2 (gm_set M 7 v 0) := hp489.2.2
  show gk_C p l e room_1 s m args below meth c 9 D A Q (cells + 0) (slots + 0) (gd_X cI h q3 v0 ++ (gw_O cJ o f489 ++ (gw_X cI cZ g h1 h2 q q2 u489))) [(4, .int (nI i)), (3, .ref o), (2, .ref h), (1, .ref g), (0, .ref b)] 492 [.int r489]
  refine gk_istore (lv' := [(5, .int r489), (4, .int (nI i)), (3, .ref o), (2, .ref h), (1, .ref g), (0, .ref b)]) G dL_law_492 (by decide) rfl ?_
  refine gk_aload_n G dL_law_494 3 rfl ?_
  refine gk_aload_n G dL_law_495 5 rfl ?_
  refine gk_iload G dL_law_496 1 rfl ?_
  refine gk_iconst (v := nI 1) G dL_law_498 (by decide) ?_
  refine gk_iadd (v := nI (i + 1)) G dL_law_499 (nI_add i 1) ?_
  refine gk_sld (v := (nI v)) G hX hbl hbA (i + 1) rfl (by omega) (by omega) hx1 dL_law_500 ?_
  refine gk_callIV (wr := gw_O cJ o f489 ++ (gw_X cI cZ g h1 h2 q q2 u489)) G (c2_lift_ok l D cI cZ cJ h q3 v0.1 v0.2.1 v0.2.2.1 v0.2.2.2.1 v0.2.2.2.2 M v wf hs hn (by omega) (by omega)) gL_law_X2_lift rfl 1 (by decide +kernel) rfl rfl ⟨(Nat.le_of_ble_eq_true rfl), (Nat.le_of_ble_eq_true rfl)⟩ rfl (q0 := 0) rfl (T := TX2) (N := 12) rfl gk_ok0 trivial [0, 1, 2, 3, 4, 5, 6, 7] rfl (by decide) [8, 9, 10, 11, 12, 13, 14, 15, 16, 17, 18, 19, 20, 21, 22, 23, 24, 25, 26, 27, 28, 29] rfl (by decide) (by decide) rfl (Nat.le_of_ble_eq_true rfl) dL_law_501 ⟨(show (cells + 0) + 0 ≤ 601024 by omega), (show (slots + 0) + 0 ≤ 7293034 by omega)⟩ (fun r501 v501 hp501 => ?_)
  have hR501 : r501 = gm_e (M 7 v) := hp501.1
  have hs501 : gr_st v501.1 v501.2.1 (gm_set M 7 v 0) := hp501.2.1
  have hn501 : gr_now v501.2.2.1 (gm_set M 7 v 0) := hp501.2.2.1
  have hF501 : v501.1 0 = nI 0 := hp501.2.2.2
  refine gk_wsub (w' := (gd_X cI h q3 v501 ++ (gw_O cJ o f489 ++ (gw_X cI cZ g h1 h2 q q2 u489)))) [22, 23, 24, 25, 26, 27, 28, 29, 0, 1, 2, 3, 4, 5, 6, 7, 8, 9, 10, 11, 12, 13, 14, 15, 16, 17, 18, 19, 20, 21] rfl (by decide) ?_
  show gk_C p l e room_1 s m args below meth c 9 D A Q ((cells + 0) + 0) ((slots + 0) + 0) (gd_X cI h q3 v501 ++ (gw_O cJ o f489 ++ (gw_X cI cZ g h1 h2 q q2 u489))) [(5, .int r489), (4, .int (nI i)), (3, .ref o), (2, .ref h), (1, .ref g), (0, .ref b)] 504 [.int r501]
  refine gk_istore (lv' := [(6, .int r501), (5, .int r489), (4, .int (nI i)), (3, .ref o), (2, .ref h), (1, .ref g), (0, .ref b)]) G dL_law_504 (by decide) rfl ?_
  refine gk_aload_n G dL_law_506 4 rfl ?_
  refine gk_callIV (wr := gw_O cJ o f489 ++ (gw_X cI cZ g h1 h2 q q2 u489)) G (c2_thrown l D cI cZ cJ h q3 v501.1 v501.2.1 v501.2.2.1 v501.2.2.2.1 v501.2.2.2.2 M) gL_law_X2_thrown rfl 0 (by decide +kernel) rfl rfl ⟨(Nat.le_of_ble_eq_true rfl), (Nat.le_of_ble_eq_true rfl)⟩ rfl (q0 := 0) rfl (T := TX2) (N := 12) rfl gk_ok0 trivial [0, 1, 2, 3, 4, 5, 6, 7] rfl (by decide) [8, 9, 10, 11, 12, 13, 14, 15, 16, 17, 18, 19, 20, 21, 22, 23, 24, 25, 26, 27, 28, 29] rfl (by decide) (by decide) rfl (Nat.le_of_ble_eq_true rfl) dL_law_507 ⟨(show ((cells + 0) + 0) + 0 ≤ 601024 by omega), (show ((slots + 0) + 0) + 0 ≤ 7293034 by omega)⟩ (fun r507 u507 hp507 => ?_)
  have hT507 : r507 = nI 0 := (show r507 = v501.1 0 from hp507).trans hF501
  refine gk_wsub (w' := (gd_X cI h q3 v501 ++ (gw_O cJ o f489 ++ (gw_X cI cZ g h1 h2 q q2 u489)))) [22, 23, 24, 25, 26, 27, 28, 29, 0, 1, 2, 3, 4, 5, 6, 7, 8, 9, 10, 11, 12, 13, 14, 15, 16, 17, 18, 19, 20, 21] rfl (by decide) ?_
  show gk_C p l e room_1 s m args below meth c 9 D A Q (((cells + 0) + 0) + 0) (((slots + 0) + 0) + 0) (gd_X cI h q3 v501 ++ (gw_O cJ o f489 ++ (gw_X cI cZ g h1 h2 q q2 u489))) [(6, .int r501), (5, .int r489), (4, .int (nI i)), (3, .ref o), (2, .ref h), (1, .ref g), (0, .ref b)] 510 [.int r507]
  refine gk_iload G dL_law_510 1 rfl ?_
  refine gk_icmp_eq (tgt := 517) G dL_law_512 (by decide) (fun c_512 => ?_) (fun c_512 => ?_)
  · refine gk_iload G dL_law_517 1 rfl ?_
    refine gk_if_ne (tgt := 534) G dL_law_519 (by decide) (fun c_519 => ?_) (fun c_519 => ?_)
    · exact absurd (hK489.trans nI_0) c_519
    · refine gk_aload_n G dL_law_522 3 rfl ?_
      refine gk_iconst (v := nI 0) G dL_law_523 (by decide) ?_
      refine gk_lald (v := f489 0) G (q0 := 8) (t0 := 2) rfl rfl 0 rfl (by decide) (by decide) rfl dL_law_524 ?_
      refine gk_iload G dL_law_525 0 rfl ?_
      refine gk_i2l (v := (r501).toInt64) G dL_law_527 rfl ?_
      refine gk_lcmp G dL_law_528 ?_
      refine gk_if_eq (tgt := 534) G dL_law_529 (by decide) (fun c_529 => ?_) (fun c_529 => ?_)
      · refine gk_goto (tgt := 1565) G dL_law_534 (by decide) ?_
        exact gk_lsub [2, 3, 4, 5, 6] rfl (K f489 u489 v501 _ _ (by omega) (by omega) hr489 hs501 hn501)
      · exact absurd (gl_cmp (hv489.trans (congrArg Int32.toInt64 hR501).symm)) c_529
  · exact absurd (hT507.trans hK489.symm) c_512
set_option maxRecDepth 100000 in
set_option maxHeartbeats 1000000 in
theorem lg_setUntil_no {p : Program} {l : Launch} {e : Env} {s : State} {m : MethodId} {args : Array Value} {below : List Frame} {meth : Method} {c : Code} {D : va_G} {A : Nat → Prop} {Q : State → Prop} {cI cZ cJ : ClassId} {b L : Nat} {xs : Nat → Int32} (G : gk_G p s m args meth c RL 9 cL_law (some .boolean) wsL_law D (g_T cI cZ cJ) A) (hE : gl_F A s s.heap) (hl9 : l.stackTraces = false) (hX : va_X b L xs s s.heap) (hbl : b < s.heap.size) (hbA : ¬ A b) (hL : L ≤ 2048) {g h1 h2 o h : Nat} {q q2 q3 : Nat → Nat} {f : Nat → Int64} {u0 : gw_U} {v0 : gd_U} {M : gm_M} (wf : gm_wf M) (hrest : gm_rest M) (hh : M 9 0 < 1999000) (hr : gc_rep u0.1.1 u0.1.2 M) (hs : gr_st v0.1 v0.2.1 M) (hn : gr_now v0.2.2.1 M) {i cells slots : Nat} (hi : i + 4 ≤ L) (hc : cells ≤ 500000) (hsl : slots ≤ 7000000) (p0 : Int32) (p1 : Int32) (hb : ¬ gm_rg p0 0 (M 11 0)) (hx1 : xs (i + 1) = p0) (hx2 : xs (i + 2) = p1) (K : ∀ (f9 : Nat → Int64) (u9 : gw_U) (v9 : gd_U) (c9 s9 : Nat), c9 ≤ cells + 20 → s9 ≤ slots + 240 → gc_rep u9.1.1 u9.1.2 M → gr_st v9.1 v9.2.1 M → gr_now v9.2.2.1 M → gk_C p l e room_1 s m args below meth c 9 D A Q c9 s9 (gd_X cI h q3 v9 ++ (gw_O cJ o f9 ++ (gw_X cI cZ g h1 h2 q q2 u9))) [(4, .int (nI i)), (3, .ref o), (2, .ref h), (1, .ref g), (0, .ref b)] 1565 []) : gk_C p l e room_1 s m args below meth c 9 D A Q cells slots (gd_X cI h q3 v0 ++ (gw_O cJ o f ++ (gw_X cI cZ g h1 h2 q q2 u0))) [(4, .int (nI i)), (3, .ref o), (2, .ref h), (1, .ref g), (0, .ref b)] 537 [] := by
  refine gk_aload_n G dL_law_537 3 rfl ?_
  refine gk_aload_n G dL_law_538 4 rfl ?_
  refine gk_iload G dL_law_539 0 rfl ?_
  refine gk_iconst (v := nI 1) G dL_law_541 (by decide) ?_
  refine gk_iadd (v := nI (i + 1)) G dL_law_542 (nI_add i 1) ?_
  refine gk_sld (v := p0) G hX hbl hbA (i + 1) rfl (by omega) (by omega) hx1 dL_law_543 ?_
  refine gk_aload_n G dL_law_544 4 rfl ?_
  refine gk_iload G dL_law_545 0 rfl ?_
  refine gk_iconst (v := nI 2) G dL_law_547 (by decide) ?_
  refine gk_iadd (v := nI (i + 2)) G dL_law_548 (nI_add i 2) ?_
  refine gk_sld (v := p1) G hX hbl hbA (i + 2) rfl (by omega) (by omega) hx2 dL_law_549 ?_
  refine gk_aload_n G dL_law_550 1 rfl ?_
  refine gk_callISW (wr := gd_X cI h q3 v0) G (cl_setUntil_no l D cI cZ cJ o f g h1 h2 q q2 u0 M hl9 p0 p1 wf hr hb) gL_law_L_setUntil rfl 4 (by decide +kernel) rfl rfl ⟨(Nat.le_of_ble_eq_true rfl), (Nat.le_of_ble_eq_true rfl)⟩ rfl gl_Fok hE [8, 9, 10, 11, 12, 13, 14, 15, 16, 17, 18, 19, 20, 21, 22, 23, 24, 25, 26, 27, 28, 29] rfl (by decide) [0, 1, 2, 3, 4, 5, 6, 7] rfl (by decide) (by decide) rfl (Nat.le_of_ble_eq_true rfl) dL_law_551 ⟨(show cells + 1 ≤ 601024 by omega), (show slots + 6 ≤ 7293034 by omega)⟩ (fun r551 uu551 hp551 => ?_)
  obtain ⟨f551, u551⟩ := uu551
  have hK551 : r551 = nI 1 := hp551.1
  have hr551 : gc_rep u551.1.1 u551.1.2 M := hp551.2
  show gk_C p l e room_1 s m args below meth c 9 D A Q (cells + 1) (slots + 6) (gd_X cI h q3 v0 ++ (gw_O cJ o f551 ++ (gw_X cI cZ g h1 h2 q q2 u551))) [(4, .int (nI i)), (3, .ref o), (2, .ref h), (1, .ref g), (0, .ref b)] 554 [.int r551]
  refine gk_istore (lv' := [(5, .int r551), (4, .int (nI i)), (3, .ref o), (2, .ref h), (1, .ref g), (0, .ref b)]) G dL_law_554 (by decide) rfl ?_
  refine gk_aload_n G dL_law_556 3 rfl ?_
  refine gk_aload_n G dL_law_557 5 rfl ?_
  refine gk_iload G dL_law_558 1 rfl ?_
  refine gk_iconst (v := nI 1) G dL_law_560 (by decide) ?_
  refine gk_iadd (v := nI (i + 1)) G dL_law_561 (nI_add i 1) ?_
  refine gk_sld (v := p0) G hX hbl hbA (i + 1) rfl (by omega) (by omega) hx1 dL_law_562 ?_
  refine gk_aload_n G dL_law_563 5 rfl ?_
  refine gk_iload G dL_law_564 1 rfl ?_
  refine gk_iconst (v := nI 2) G dL_law_566 (by decide) ?_
  refine gk_iadd (v := nI (i + 2)) G dL_law_567 (nI_add i 2) ?_
  refine gk_sld (v := p1) G hX hbl hbA (i + 2) rfl (by omega) (by omega) hx2 dL_law_568 ?_
  refine gk_callIV (wr := gw_O cJ o f551 ++ (gw_X cI cZ g h1 h2 q q2 u551)) G (c2_setUntil_no l D cI cZ cJ h q3 v0.1 v0.2.1 v0.2.2.1 v0.2.2.2.1 v0.2.2.2.2 M p0 p1 wf hs hn hb) gL_law_X2_setUntil rfl 2 (by decide +kernel) rfl rfl ⟨(Nat.le_of_ble_eq_true rfl), (Nat.le_of_ble_eq_true rfl)⟩ rfl (q0 := 0) rfl (T := TX2) (N := 12) rfl gk_ok0 trivial [0, 1, 2, 3, 4, 5, 6, 7] rfl (by decide) [8, 9, 10, 11, 12, 13, 14, 15, 16, 17, 18, 19, 20, 21, 22, 23, 24, 25, 26, 27, 28, 29] rfl (by decide) (by decide) rfl (Nat.le_of_ble_eq_true rfl) dL_law_569 ⟨(show (cells + 1) + 0 ≤ 601024 by omega), (show (slots + 6) + 0 ≤ 7293034 by omega)⟩ (fun r569 v569 hp569 => ?_)
  have hR569 : r569 = nI 0 := hp569.1
  have hs569 : gr_st v569.1 v569.2.1 M := hp569.2.1
  have hn569 : gr_now v569.2.2.1 M := hp569.2.2.1
  have hF569 : v569.1 0 = nI 1 := hp569.2.2.2
  refine gk_wsub (w' := (gd_X cI h q3 v569 ++ (gw_O cJ o f551 ++ (gw_X cI cZ g h1 h2 q q2 u551)))) [22, 23, 24, 25, 26, 27, 28, 29, 0, 1, 2, 3, 4, 5, 6, 7, 8, 9, 10, 11, 12, 13, 14, 15, 16, 17, 18, 19, 20, 21] rfl (by decide) ?_
  show gk_C p l e room_1 s m args below meth c 9 D A Q ((cells + 1) + 0) ((slots + 6) + 0) (gd_X cI h q3 v569 ++ (gw_O cJ o f551 ++ (gw_X cI cZ g h1 h2 q q2 u551))) [(5, .int r551), (4, .int (nI i)), (3, .ref o), (2, .ref h), (1, .ref g), (0, .ref b)] 572 [.int r569]
  refine gk_istore (lv' := [(6, .int r569), (5, .int r551), (4, .int (nI i)), (3, .ref o), (2, .ref h), (1, .ref g), (0, .ref b)]) G dL_law_572 (by decide) rfl ?_
  refine gk_aload_n G dL_law_574 4 rfl ?_
  refine gk_callIV (wr := gw_O cJ o f551 ++ (gw_X cI cZ g h1 h2 q q2 u551)) G (c2_thrown l D cI cZ cJ h q3 v569.1 v569.2.1 v569.2.2.1 v569.2.2.2.1 v569.2.2.2.2 M) gL_law_X2_thrown rfl 0 (by decide +kernel) rfl rfl ⟨(Nat.le_of_ble_eq_true rfl), (Nat.le_of_ble_eq_true rfl)⟩ rfl (q0 := 0) rfl (T := TX2) (N := 12) rfl gk_ok0 trivial [0, 1, 2, 3, 4, 5, 6, 7] rfl (by decide) [8, 9, 10, 11, 12, 13, 14, 15, 16, 17, 18, 19, 20, 21, 22, 23, 24, 25, 26, 27, 28, 29] rfl (by decide) (by decide) rfl (Nat.le_of_ble_eq_true rfl) dL_law_575 ⟨(show ((cells + 1) + 0) + 0 ≤ 601024 by omega), (show ((slots + 6) + 0) + 0 ≤ 7293034 by omega)⟩ (fun r575 u575 hp575 => ?_)
  have hT575 : r575 = nI 1 := (show r575 = v569.1 0 from hp575).trans hF569
  refine gk_wsub (w' := (gd_X cI h q3 v569 ++ (gw_O cJ o f551 ++ (gw_X cI cZ g h1 h2 q q2 u551)))) [22, 23, 24, 25, 26, 27, 28, 29, 0, 1, 2, 3, 4, 5, 6, 7, 8, 9, 10, 11, 12, 13, 14, 15, 16, 17, 18, 19, 20, 21] rfl (by decide) ?_
  show gk_C p l e room_1 s m args below meth c 9 D A Q (((cells + 1) + 0) + 0) (((slots + 6) + 0) + 0) (gd_X cI h q3 v569 ++ (gw_O cJ o f551 ++ (gw_X cI cZ g h1 h2 q q2 u551))) [(6, .int r569), (5, .int r551), (4, .int (nI i)), (3, .ref o), (2, .ref h), (1, .ref g), (0, .ref b)] 578 [.int r575]
  refine gk_iload G dL_law_578 1 rfl ?_
  refine gk_icmp_eq (tgt := 585) G dL_law_580 (by decide) (fun c_580 => ?_) (fun c_580 => ?_)
  · refine gk_iload G dL_law_585 1 rfl ?_
    refine gk_if_ne (tgt := 602) G dL_law_587 (by decide) (fun c_587 => ?_) (fun c_587 => ?_)
    · refine gk_goto (tgt := 1565) G dL_law_602 (by decide) ?_
      exact gk_lsub [2, 3, 4, 5, 6] rfl (K f551 u551 v569 _ _ (by omega) (by omega) hr551 hs569 hn569)
    · exact absurd (hK551.symm.trans c_587) (by decide)
  · exact absurd (hT575.trans hK551.symm) c_580
set_option maxRecDepth 100000 in
set_option maxHeartbeats 1000000 in
theorem lg_setUntil_no2 {p : Program} {l : Launch} {e : Env} {s : State} {m : MethodId} {args : Array Value} {below : List Frame} {meth : Method} {c : Code} {D : va_G} {A : Nat → Prop} {Q : State → Prop} {cI cZ cJ : ClassId} {b L : Nat} {xs : Nat → Int32} (G : gk_G p s m args meth c RL 9 cL_law (some .boolean) wsL_law D (g_T cI cZ cJ) A) (hE : gl_F A s s.heap) (hl9 : l.stackTraces = false) (hX : va_X b L xs s s.heap) (hbl : b < s.heap.size) (hbA : ¬ A b) (hL : L ≤ 2048) {g h1 h2 o h : Nat} {q q2 q3 : Nat → Nat} {f : Nat → Int64} {u0 : gw_U} {v0 : gd_U} {M : gm_M} (wf : gm_wf M) (hrest : gm_rest M) (hh : M 9 0 < 1999000) (hr : gc_rep u0.1.1 u0.1.2 M) (hs : gr_st v0.1 v0.2.1 M) (hn : gr_now v0.2.2.1 M) {i cells slots : Nat} (hi : i + 4 ≤ L) (hc : cells ≤ 500000) (hsl : slots ≤ 7000000) (v : Nat) (p1 : Int32) (hv : v < M 11 0) (hb : ¬ gm_rg p1 1 201) (hx1 : xs (i + 1) = nI v) (hx2 : xs (i + 2) = p1) (K : ∀ (f9 : Nat → Int64) (u9 : gw_U) (v9 : gd_U) (c9 s9 : Nat), c9 ≤ cells + 20 → s9 ≤ slots + 240 → gc_rep u9.1.1 u9.1.2 M → gr_st v9.1 v9.2.1 M → gr_now v9.2.2.1 M → gk_C p l e room_1 s m args below meth c 9 D A Q c9 s9 (gd_X cI h q3 v9 ++ (gw_O cJ o f9 ++ (gw_X cI cZ g h1 h2 q q2 u9))) [(4, .int (nI i)), (3, .ref o), (2, .ref h), (1, .ref g), (0, .ref b)] 1565 []) : gk_C p l e room_1 s m args below meth c 9 D A Q cells slots (gd_X cI h q3 v0 ++ (gw_O cJ o f ++ (gw_X cI cZ g h1 h2 q q2 u0))) [(4, .int (nI i)), (3, .ref o), (2, .ref h), (1, .ref g), (0, .ref b)] 537 [] := by
  refine gk_aload_n G dL_law_537 3 rfl ?_
  refine gk_aload_n G dL_law_538 4 rfl ?_
  refine gk_iload G dL_law_539 0 rfl ?_
  refine gk_iconst (v := nI 1) G dL_law_541 (by decide) ?_
  refine gk_iadd (v := nI (i + 1)) G dL_law_542 (nI_add i 1) ?_
  refine gk_sld (v := (nI v)) G hX hbl hbA (i + 1) rfl (by omega) (by omega) hx1 dL_law_543 ?_
  refine gk_aload_n G dL_law_544 4 rfl ?_
  refine gk_iload G dL_law_545 0 rfl ?_
  refine gk_iconst (v := nI 2) G dL_law_547 (by decide) ?_
  refine gk_iadd (v := nI (i + 2)) G dL_law_548 (nI_add i 2) ?_
  refine gk_sld (v := p1) G hX hbl hbA (i + 2) rfl (by omega) (by omega) hx2 dL_law_549 ?_
  refine gk_aload_n G dL_law_550 1 rfl ?_
  refine gk_callISW (wr := gd_X cI h q3 v0) G (cl_setUntil_no2 l D cI cZ cJ o f g h1 h2 q q2 u0 M hl9 v p1 wf hr hv hb) gL_law_L_setUntil rfl 4 (by decide +kernel) rfl rfl ⟨(Nat.le_of_ble_eq_true rfl), (Nat.le_of_ble_eq_true rfl)⟩ rfl gl_Fok hE [8, 9, 10, 11, 12, 13, 14, 15, 16, 17, 18, 19, 20, 21, 22, 23, 24, 25, 26, 27, 28, 29] rfl (by decide) [0, 1, 2, 3, 4, 5, 6, 7] rfl (by decide) (by decide) rfl (Nat.le_of_ble_eq_true rfl) dL_law_551 ⟨(show cells + 1 ≤ 601024 by omega), (show slots + 6 ≤ 7293034 by omega)⟩ (fun r551 uu551 hp551 => ?_)
  obtain ⟨f551, u551⟩ := uu551
  have hK551 : r551 = nI 2 := hp551.1
  have hr551 : gc_rep u551.1.1 u551.1.2 M := hp551.2
  show gk_C p l e room_1 s m args below meth c 9 D A Q (cells + 1) (slots + 6) (gd_X cI h q3 v0 ++ (gw_O cJ o f551 ++ (gw_X cI cZ g h1 h2 q q2 u551))) [(4, .int (nI i)), (3, .ref o), (2, .ref h), (1, .ref g), (0, .ref b)] 554 [.int r551]
  refine gk_istore (lv' := [(5, .int r551), (4, .int (nI i)), (3, .ref o), (2, .ref h), (1, .ref g), (0, .ref b)]) G dL_law_554 (by decide) rfl ?_
  refine gk_aload_n G dL_law_556 3 rfl ?_
  refine gk_aload_n G dL_law_557 5 rfl ?_
  refine gk_iload G dL_law_558 1 rfl ?_
  refine gk_iconst (v := nI 1) G dL_law_560 (by decide) ?_
  refine gk_iadd (v := nI (i + 1)) G dL_law_561 (nI_add i 1) ?_
  refine gk_sld (v := (nI v)) G hX hbl hbA (i + 1) rfl (by omega) (by omega) hx1 dL_law_562 ?_
  refine gk_aload_n G dL_law_563 5 rfl ?_
  refine gk_iload G dL_law_564 1 rfl ?_
  refine gk_iconst (v := nI 2) G dL_law_566 (by decide) ?_
  refine gk_iadd (v := nI (i + 2)) G dL_law_567 (nI_add i 2) ?_
  refine gk_sld (v := p1) G hX hbl hbA (i + 2) rfl (by omega) (by omega) hx2 dL_law_568 ?_
  refine gk_callIV (wr := gw_O cJ o f551 ++ (gw_X cI cZ g h1 h2 q q2 u551)) G (c2_setUntil_no2 l D cI cZ cJ h q3 v0.1 v0.2.1 v0.2.2.1 v0.2.2.2.1 v0.2.2.2.2 M v p1 wf hs hn (by omega) hb) gL_law_X2_setUntil rfl 2 (by decide +kernel) rfl rfl ⟨(Nat.le_of_ble_eq_true rfl), (Nat.le_of_ble_eq_true rfl)⟩ rfl (q0 := 0) rfl (T := TX2) (N := 12) rfl gk_ok0 trivial [0, 1, 2, 3, 4, 5, 6, 7] rfl (by decide) [8, 9, 10, 11, 12, 13, 14, 15, 16, 17, 18, 19, 20, 21, 22, 23, 24, 25, 26, 27, 28, 29] rfl (by decide) (by decide) rfl (Nat.le_of_ble_eq_true rfl) dL_law_569 ⟨(show (cells + 1) + 0 ≤ 601024 by omega), (show (slots + 6) + 0 ≤ 7293034 by omega)⟩ (fun r569 v569 hp569 => ?_)
  have hR569 : r569 = nI 0 := hp569.1
  have hs569 : gr_st v569.1 v569.2.1 M := hp569.2.1
  have hn569 : gr_now v569.2.2.1 M := hp569.2.2.1
  have hF569 : v569.1 0 = nI 2 := hp569.2.2.2
  refine gk_wsub (w' := (gd_X cI h q3 v569 ++ (gw_O cJ o f551 ++ (gw_X cI cZ g h1 h2 q q2 u551)))) [22, 23, 24, 25, 26, 27, 28, 29, 0, 1, 2, 3, 4, 5, 6, 7, 8, 9, 10, 11, 12, 13, 14, 15, 16, 17, 18, 19, 20, 21] rfl (by decide) ?_
  show gk_C p l e room_1 s m args below meth c 9 D A Q ((cells + 1) + 0) ((slots + 6) + 0) (gd_X cI h q3 v569 ++ (gw_O cJ o f551 ++ (gw_X cI cZ g h1 h2 q q2 u551))) [(5, .int r551), (4, .int (nI i)), (3, .ref o), (2, .ref h), (1, .ref g), (0, .ref b)] 572 [.int r569]
  refine gk_istore (lv' := [(6, .int r569), (5, .int r551), (4, .int (nI i)), (3, .ref o), (2, .ref h), (1, .ref g), (0, .ref b)]) G dL_law_572 (by decide) rfl ?_
  refine gk_aload_n G dL_law_574 4 rfl ?_
  refine gk_callIV (wr := gw_O cJ o f551 ++ (gw_X cI cZ g h1 h2 q q2 u551)) G (c2_thrown l D cI cZ cJ h q3 v569.1 v569.2.1 v569.2.2.1 v569.2.2.2.1 v569.2.2.2.2 M) gL_law_X2_thrown rfl 0 (by decide +kernel) rfl rfl ⟨(Nat.le_of_ble_eq_true rfl), (Nat.le_of_ble_eq_true rfl)⟩ rfl (q0 := 0) rfl (T := TX2) (N := 12) rfl gk_ok0 trivial [0, 1, 2, 3, 4, 5, 6, 7] rfl (by decide) [8, 9, 10, 11, 12, 13, 14, 15, 16, 17, 18, 19, 20, 21, 22, 23, 24, 25, 26, 27, 28, 29] rfl (by decide) (by decide) rfl (Nat.le_of_ble_eq_true rfl) dL_law_575 ⟨(show ((cells + 1) + 0) + 0 ≤ 601024 by omega), (show ((slots + 6) + 0) + 0 ≤ 7293034 by omega)⟩ (fun r575 u575 hp575 => ?_)
  have hT575 : r575 = nI 2 := (show r575 = v569.1 0 from hp575).trans hF569
  refine gk_wsub (w' := (gd_X cI h q3 v569 ++ (gw_O cJ o f551 ++ (gw_X cI cZ g h1 h2 q q2 u551)))) [22, 23, 24, 25, 26, 27, 28, 29, 0, 1, 2, 3, 4, 5, 6, 7, 8, 9, 10, 11, 12, 13, 14, 15, 16, 17, 18, 19, 20, 21] rfl (by decide) ?_
  show gk_C p l e room_1 s m args below meth c 9 D A Q (((cells + 1) + 0) + 0) (((slots + 6) + 0) + 0) (gd_X cI h q3 v569 ++ (gw_O cJ o f551 ++ (gw_X cI cZ g h1 h2 q q2 u551))) [(6, .int r569), (5, .int r551), (4, .int (nI i)), (3, .ref o), (2, .ref h), (1, .ref g), (0, .ref b)] 578 [.int r575]
  refine gk_iload G dL_law_578 1 rfl ?_
  refine gk_icmp_eq (tgt := 585) G dL_law_580 (by decide) (fun c_580 => ?_) (fun c_580 => ?_)
  · refine gk_iload G dL_law_585 1 rfl ?_
    refine gk_if_ne (tgt := 602) G dL_law_587 (by decide) (fun c_587 => ?_) (fun c_587 => ?_)
    · refine gk_goto (tgt := 1565) G dL_law_602 (by decide) ?_
      exact gk_lsub [2, 3, 4, 5, 6] rfl (K f551 u551 v569 _ _ (by omega) (by omega) hr551 hs569 hn569)
    · exact absurd (hK551.symm.trans c_587) (by decide)
  · exact absurd (hT575.trans hK551.symm) c_580
set_option maxRecDepth 100000 in
set_option maxHeartbeats 1000000 in
theorem lg_setUntil_ok {p : Program} {l : Launch} {e : Env} {s : State} {m : MethodId} {args : Array Value} {below : List Frame} {meth : Method} {c : Code} {D : va_G} {A : Nat → Prop} {Q : State → Prop} {cI cZ cJ : ClassId} {b L : Nat} {xs : Nat → Int32} (G : gk_G p s m args meth c RL 9 cL_law (some .boolean) wsL_law D (g_T cI cZ cJ) A) (hE : gl_F A s s.heap) (hl9 : l.stackTraces = false) (hX : va_X b L xs s s.heap) (hbl : b < s.heap.size) (hbA : ¬ A b) (hL : L ≤ 2048) {g h1 h2 o h : Nat} {q q2 q3 : Nat → Nat} {f : Nat → Int64} {u0 : gw_U} {v0 : gd_U} {M : gm_M} (wf : gm_wf M) (hrest : gm_rest M) (hh : M 9 0 < 1999000) (hr : gc_rep u0.1.1 u0.1.2 M) (hs : gr_st v0.1 v0.2.1 M) (hn : gr_now v0.2.2.1 M) {i cells slots : Nat} (hi : i + 4 ≤ L) (hc : cells ≤ 500000) (hsl : slots ≤ 7000000) (v : Nat) (x : Nat) (hv : v < M 11 0) (hx0 : 1 ≤ x) (hx : x < 201) (hx1 : xs (i + 1) = nI v) (hx2 : xs (i + 2) = nI x) (K : ∀ (f9 : Nat → Int64) (u9 : gw_U) (v9 : gd_U) (c9 s9 : Nat), c9 ≤ cells + 20 → s9 ≤ slots + 240 → gc_rep u9.1.1 u9.1.2 (gm_set M 6 v x) → gr_st v9.1 v9.2.1 (gm_set M 6 v x) → gr_now v9.2.2.1 (gm_set M 6 v x) → gk_C p l e room_1 s m args below meth c 9 D A Q c9 s9 (gd_X cI h q3 v9 ++ (gw_O cJ o f9 ++ (gw_X cI cZ g h1 h2 q q2 u9))) [(4, .int (nI i)), (3, .ref o), (2, .ref h), (1, .ref g), (0, .ref b)] 1565 []) : gk_C p l e room_1 s m args below meth c 9 D A Q cells slots (gd_X cI h q3 v0 ++ (gw_O cJ o f ++ (gw_X cI cZ g h1 h2 q q2 u0))) [(4, .int (nI i)), (3, .ref o), (2, .ref h), (1, .ref g), (0, .ref b)] 537 [] := by
  refine gk_aload_n G dL_law_537 3 rfl ?_
  refine gk_aload_n G dL_law_538 4 rfl ?_
  refine gk_iload G dL_law_539 0 rfl ?_
  refine gk_iconst (v := nI 1) G dL_law_541 (by decide) ?_
  refine gk_iadd (v := nI (i + 1)) G dL_law_542 (nI_add i 1) ?_
  refine gk_sld (v := (nI v)) G hX hbl hbA (i + 1) rfl (by omega) (by omega) hx1 dL_law_543 ?_
  refine gk_aload_n G dL_law_544 4 rfl ?_
  refine gk_iload G dL_law_545 0 rfl ?_
  refine gk_iconst (v := nI 2) G dL_law_547 (by decide) ?_
  refine gk_iadd (v := nI (i + 2)) G dL_law_548 (nI_add i 2) ?_
  refine gk_sld (v := (nI x)) G hX hbl hbA (i + 2) rfl (by omega) (by omega) hx2 dL_law_549 ?_
  refine gk_aload_n G dL_law_550 1 rfl ?_
  refine gk_callISW (wr := gd_X cI h q3 v0) G (cl_setUntil_ok l D cI cZ cJ o f g h1 h2 q q2 u0 M v x wf hr hv hx0 hx) gL_law_L_setUntil rfl 4 (by decide +kernel) rfl rfl ⟨(Nat.le_of_ble_eq_true rfl), (Nat.le_of_ble_eq_true rfl)⟩ rfl gl_Fok hE [8, 9, 10, 11, 12, 13, 14, 15, 16, 17, 18, 19, 20, 21, 22, 23, 24, 25, 26, 27, 28, 29] rfl (by decide) [0, 1, 2, 3, 4, 5, 6, 7] rfl (by decide) (by decide) rfl (Nat.le_of_ble_eq_true rfl) dL_law_551 ⟨(show cells + 0 ≤ 601024 by omega), (show slots + 0 ≤ 7293034 by omega)⟩ (fun r551 uu551 hp551 => ?_)
  obtain ⟨f551, u551⟩ := uu551
  have hK551 : r551 = nI 0 := hp551.1
  have hv551 : f551 0 = (nI (M 6 v)).toInt64 := hp551.2.1
  have hr551 : gc_rep u551.1.1 u551.1.2 (gm_set M 6 v x) := hp551.2.2
  show gk_C p l e room_1 s m args below meth c 9 D A Q (cells + 0) (slots + 0) (gd_X cI h q3 v0 ++ (gw_O cJ o f551 ++ (gw_X cI cZ g h1 h2 q q2 u551))) [(4, .int (nI i)), (3, .ref o), (2, .ref h), (1, .ref g), (0, .ref b)] 554 [.int r551]
  refine gk_istore (lv' := [(5, .int r551), (4, .int (nI i)), (3, .ref o), (2, .ref h), (1, .ref g), (0, .ref b)]) G dL_law_554 (by decide) rfl ?_
  refine gk_aload_n G dL_law_556 3 rfl ?_
  refine gk_aload_n G dL_law_557 5 rfl ?_
  refine gk_iload G dL_law_558 1 rfl ?_
  refine gk_iconst (v := nI 1) G dL_law_560 (by decide) ?_
  refine gk_iadd (v := nI (i + 1)) G dL_law_561 (nI_add i 1) ?_
  refine gk_sld (v := (nI v)) G hX hbl hbA (i + 1) rfl (by omega) (by omega) hx1 dL_law_562 ?_
  refine gk_aload_n G dL_law_563 5 rfl ?_
  refine gk_iload G dL_law_564 1 rfl ?_
  refine gk_iconst (v := nI 2) G dL_law_566 (by decide) ?_
  refine gk_iadd (v := nI (i + 2)) G dL_law_567 (nI_add i 2) ?_
  refine gk_sld (v := (nI x)) G hX hbl hbA (i + 2) rfl (by omega) (by omega) hx2 dL_law_568 ?_
  refine gk_callIV (wr := gw_O cJ o f551 ++ (gw_X cI cZ g h1 h2 q q2 u551)) G (c2_setUntil_ok l D cI cZ cJ h q3 v0.1 v0.2.1 v0.2.2.1 v0.2.2.2.1 v0.2.2.2.2 M v x wf hs hn (by omega) (by omega) (by omega)) gL_law_X2_setUntil rfl 2 (by decide +kernel) rfl rfl ⟨(Nat.le_of_ble_eq_true rfl), (Nat.le_of_ble_eq_true rfl)⟩ rfl (q0 := 0) rfl (T := TX2) (N := 12) rfl gk_ok0 trivial [0, 1, 2, 3, 4, 5, 6, 7] rfl (by decide) [8, 9, 10, 11, 12, 13, 14, 15, 16, 17, 18, 19, 20, 21, 22, 23, 24, 25, 26, 27, 28, 29] rfl (by decide) (by decide) rfl (Nat.le_of_ble_eq_true rfl) dL_law_569 ⟨(show (cells + 0) + 0 ≤ 601024 by omega), (show (slots + 0) + 0 ≤ 7293034 by omega)⟩ (fun r569 v569 hp569 => ?_)
  have hR569 : r569 = nI (M 6 v) := hp569.1
  have hs569 : gr_st v569.1 v569.2.1 (gm_set M 6 v x) := hp569.2.1
  have hn569 : gr_now v569.2.2.1 (gm_set M 6 v x) := hp569.2.2.1
  have hF569 : v569.1 0 = nI 0 := hp569.2.2.2
  refine gk_wsub (w' := (gd_X cI h q3 v569 ++ (gw_O cJ o f551 ++ (gw_X cI cZ g h1 h2 q q2 u551)))) [22, 23, 24, 25, 26, 27, 28, 29, 0, 1, 2, 3, 4, 5, 6, 7, 8, 9, 10, 11, 12, 13, 14, 15, 16, 17, 18, 19, 20, 21] rfl (by decide) ?_
  show gk_C p l e room_1 s m args below meth c 9 D A Q ((cells + 0) + 0) ((slots + 0) + 0) (gd_X cI h q3 v569 ++ (gw_O cJ o f551 ++ (gw_X cI cZ g h1 h2 q q2 u551))) [(5, .int r551), (4, .int (nI i)), (3, .ref o), (2, .ref h), (1, .ref g), (0, .ref b)] 572 [.int r569]
  refine gk_istore (lv' := [(6, .int r569), (5, .int r551), (4, .int (nI i)), (3, .ref o), (2, .ref h), (1, .ref g), (0, .ref b)]) G dL_law_572 (by decide) rfl ?_
  refine gk_aload_n G dL_law_574 4 rfl ?_
  refine gk_callIV (wr := gw_O cJ o f551 ++ (gw_X cI cZ g h1 h2 q q2 u551)) G (c2_thrown l D cI cZ cJ h q3 v569.1 v569.2.1 v569.2.2.1 v569.2.2.2.1 v569.2.2.2.2 M) gL_law_X2_thrown rfl 0 (by decide +kernel) rfl rfl ⟨(Nat.le_of_ble_eq_true rfl), (Nat.le_of_ble_eq_true rfl)⟩ rfl (q0 := 0) rfl (T := TX2) (N := 12) rfl gk_ok0 trivial [0, 1, 2, 3, 4, 5, 6, 7] rfl (by decide) [8, 9, 10, 11, 12, 13, 14, 15, 16, 17, 18, 19, 20, 21, 22, 23, 24, 25, 26, 27, 28, 29] rfl (by decide) (by decide) rfl (Nat.le_of_ble_eq_true rfl) dL_law_575 ⟨(show ((cells + 0) + 0) + 0 ≤ 601024 by omega), (show ((slots + 0) + 0) + 0 ≤ 7293034 by omega)⟩ (fun r575 u575 hp575 => ?_)
  have hT575 : r575 = nI 0 := (show r575 = v569.1 0 from hp575).trans hF569
  refine gk_wsub (w' := (gd_X cI h q3 v569 ++ (gw_O cJ o f551 ++ (gw_X cI cZ g h1 h2 q q2 u551)))) [22, 23, 24, 25, 26, 27, 28, 29, 0, 1, 2, 3, 4, 5, 6, 7, 8, 9, 10, 11, 12, 13, 14, 15, 16, 17, 18, 19, 20, 21] rfl (by decide) ?_
  show gk_C p l e room_1 s m args below meth c 9 D A Q (((cells + 0) + 0) + 0) (((slots + 0) + 0) + 0) (gd_X cI h q3 v569 ++ (gw_O cJ o f551 ++ (gw_X cI cZ g h1 h2 q q2 u551))) [(6, .int r569), (5, .int r551), (4, .int (nI i)), (3, .ref o), (2, .ref h), (1, .ref g), (0, .ref b)] 578 [.int r575]
  refine gk_iload G dL_law_578 1 rfl ?_
  refine gk_icmp_eq (tgt := 585) G dL_law_580 (by decide) (fun c_580 => ?_) (fun c_580 => ?_)
  · refine gk_iload G dL_law_585 1 rfl ?_
    refine gk_if_ne (tgt := 602) G dL_law_587 (by decide) (fun c_587 => ?_) (fun c_587 => ?_)
    · exact absurd (hK551.trans nI_0) c_587
    · refine gk_aload_n G dL_law_590 3 rfl ?_
      refine gk_iconst (v := nI 0) G dL_law_591 (by decide) ?_
      refine gk_lald (v := f551 0) G (q0 := 8) (t0 := 2) rfl rfl 0 rfl (by decide) (by decide) rfl dL_law_592 ?_
      refine gk_iload G dL_law_593 0 rfl ?_
      refine gk_i2l (v := (r569).toInt64) G dL_law_595 rfl ?_
      refine gk_lcmp G dL_law_596 ?_
      refine gk_if_eq (tgt := 602) G dL_law_597 (by decide) (fun c_597 => ?_) (fun c_597 => ?_)
      · refine gk_goto (tgt := 1565) G dL_law_602 (by decide) ?_
        exact gk_lsub [2, 3, 4, 5, 6] rfl (K f551 u551 v569 _ _ (by omega) (by omega) hr551 hs569 hn569)
      · exact absurd (gl_cmp (hv551.trans (congrArg Int32.toInt64 hR569).symm)) c_597
  · exact absurd (hT575.trans hK551.symm) c_580
set_option maxRecDepth 100000 in
set_option maxHeartbeats 1000000 in
theorem lg_pass_no {p : Program} {l : Launch} {e : Env} {s : State} {m : MethodId} {args : Array Value} {below : List Frame} {meth : Method} {c : Code} {D : va_G} {A : Nat → Prop} {Q : State → Prop} {cI cZ cJ : ClassId} {b L : Nat} {xs : Nat → Int32} (G : gk_G p s m args meth c RL 9 cL_law (some .boolean) wsL_law D (g_T cI cZ cJ) A) (hE : gl_F A s s.heap) (hl9 : l.stackTraces = false) (hX : va_X b L xs s s.heap) (hbl : b < s.heap.size) (hbA : ¬ A b) (hL : L ≤ 2048) {g h1 h2 o h : Nat} {q q2 q3 : Nat → Nat} {f : Nat → Int64} {u0 : gw_U} {v0 : gd_U} {M : gm_M} (wf : gm_wf M) (hrest : gm_rest M) (hh : M 9 0 < 1999000) (hr : gc_rep u0.1.1 u0.1.2 M) (hs : gr_st v0.1 v0.2.1 M) (hn : gr_now v0.2.2.1 M) {i cells slots : Nat} (hi : i + 4 ≤ L) (hc : cells ≤ 500000) (hsl : slots ≤ 7000000) (p0 : Int32) (hb : ¬ gm_rg p0 1 61) (hx1 : xs (i + 1) = p0) (K : ∀ (f9 : Nat → Int64) (u9 : gw_U) (v9 : gd_U) (c9 s9 : Nat), c9 ≤ cells + 20 → s9 ≤ slots + 240 → gc_rep u9.1.1 u9.1.2 M → gr_st v9.1 v9.2.1 M → gr_now v9.2.2.1 M → gk_C p l e room_1 s m args below meth c 9 D A Q c9 s9 (gd_X cI h q3 v9 ++ (gw_O cJ o f9 ++ (gw_X cI cZ g h1 h2 q q2 u9))) [(4, .int (nI i)), (3, .ref o), (2, .ref h), (1, .ref g), (0, .ref b)] 1565 []) : gk_C p l e room_1 s m args below meth c 9 D A Q cells slots (gd_X cI h q3 v0 ++ (gw_O cJ o f ++ (gw_X cI cZ g h1 h2 q q2 u0))) [(4, .int (nI i)), (3, .ref o), (2, .ref h), (1, .ref g), (0, .ref b)] 605 [] := by
  refine gk_aload_n G dL_law_605 3 rfl ?_
  refine gk_aload_n G dL_law_606 4 rfl ?_
  refine gk_iload G dL_law_607 0 rfl ?_
  refine gk_iconst (v := nI 1) G dL_law_609 (by decide) ?_
  refine gk_iadd (v := nI (i + 1)) G dL_law_610 (nI_add i 1) ?_
  refine gk_sld (v := p0) G hX hbl hbA (i + 1) rfl (by omega) (by omega) hx1 dL_law_611 ?_
  refine gk_aload_n G dL_law_612 1 rfl ?_
  refine gk_callISW (wr := gd_X cI h q3 v0) G (cl_pass_no l D cI cZ cJ o f g h1 h2 q q2 u0 M hl9 p0 wf hr hb) gL_law_L_pass rfl 3 (by decide +kernel) rfl rfl ⟨(Nat.le_of_ble_eq_true rfl), (Nat.le_of_ble_eq_true rfl)⟩ rfl gl_Fok hE [8, 9, 10, 11, 12, 13, 14, 15, 16, 17, 18, 19, 20, 21, 22, 23, 24, 25, 26, 27, 28, 29] rfl (by decide) [0, 1, 2, 3, 4, 5, 6, 7] rfl (by decide) (by decide) rfl (Nat.le_of_ble_eq_true rfl) dL_law_613 ⟨(show cells + 1 ≤ 601024 by omega), (show slots + 6 ≤ 7293034 by omega)⟩ (fun r613 uu613 hp613 => ?_)
  obtain ⟨f613, u613⟩ := uu613
  have hK613 : r613 = nI 1 := hp613.1
  have hr613 : gc_rep u613.1.1 u613.1.2 M := hp613.2
  show gk_C p l e room_1 s m args below meth c 9 D A Q (cells + 1) (slots + 6) (gd_X cI h q3 v0 ++ (gw_O cJ o f613 ++ (gw_X cI cZ g h1 h2 q q2 u613))) [(4, .int (nI i)), (3, .ref o), (2, .ref h), (1, .ref g), (0, .ref b)] 616 [.int r613]
  refine gk_istore (lv' := [(5, .int r613), (4, .int (nI i)), (3, .ref o), (2, .ref h), (1, .ref g), (0, .ref b)]) G dL_law_616 (by decide) rfl ?_
  refine gk_aload_n G dL_law_618 3 rfl ?_
  refine gk_aload_n G dL_law_619 5 rfl ?_
  refine gk_iload G dL_law_620 1 rfl ?_
  refine gk_iconst (v := nI 1) G dL_law_622 (by decide) ?_
  refine gk_iadd (v := nI (i + 1)) G dL_law_623 (nI_add i 1) ?_
  refine gk_sld (v := p0) G hX hbl hbA (i + 1) rfl (by omega) (by omega) hx1 dL_law_624 ?_
  refine gk_callIV (wr := gw_O cJ o f613 ++ (gw_X cI cZ g h1 h2 q q2 u613)) G (c2_pass_no l D cI cZ cJ h q3 v0.1 v0.2.1 v0.2.2.1 v0.2.2.2.1 v0.2.2.2.2 M p0 wf hs hn hb) gL_law_X2_pass rfl 1 (by decide +kernel) rfl rfl ⟨(Nat.le_of_ble_eq_true rfl), (Nat.le_of_ble_eq_true rfl)⟩ rfl (q0 := 0) rfl (T := TX2) (N := 12) rfl gk_ok0 trivial [0, 1, 2, 3, 4, 5, 6, 7] rfl (by decide) [8, 9, 10, 11, 12, 13, 14, 15, 16, 17, 18, 19, 20, 21, 22, 23, 24, 25, 26, 27, 28, 29] rfl (by decide) (by decide) rfl (Nat.le_of_ble_eq_true rfl) dL_law_625 ⟨(show (cells + 1) + 0 ≤ 601024 by omega), (show (slots + 6) + 0 ≤ 7293034 by omega)⟩ (fun r625 v625 hp625 => ?_)
  have hR625 : r625 = nI 0 := hp625.1
  have hs625 : gr_st v625.1 v625.2.1 M := hp625.2.1
  have hn625 : gr_now v625.2.2.1 M := hp625.2.2.1
  have hF625 : v625.1 0 = nI 1 := hp625.2.2.2
  refine gk_wsub (w' := (gd_X cI h q3 v625 ++ (gw_O cJ o f613 ++ (gw_X cI cZ g h1 h2 q q2 u613)))) [22, 23, 24, 25, 26, 27, 28, 29, 0, 1, 2, 3, 4, 5, 6, 7, 8, 9, 10, 11, 12, 13, 14, 15, 16, 17, 18, 19, 20, 21] rfl (by decide) ?_
  show gk_C p l e room_1 s m args below meth c 9 D A Q ((cells + 1) + 0) ((slots + 6) + 0) (gd_X cI h q3 v625 ++ (gw_O cJ o f613 ++ (gw_X cI cZ g h1 h2 q q2 u613))) [(5, .int r613), (4, .int (nI i)), (3, .ref o), (2, .ref h), (1, .ref g), (0, .ref b)] 628 [.int r625]
  refine gk_istore (lv' := [(6, .int r625), (5, .int r613), (4, .int (nI i)), (3, .ref o), (2, .ref h), (1, .ref g), (0, .ref b)]) G dL_law_628 (by decide) rfl ?_
  refine gk_aload_n G dL_law_630 4 rfl ?_
  refine gk_callIV (wr := gw_O cJ o f613 ++ (gw_X cI cZ g h1 h2 q q2 u613)) G (c2_thrown l D cI cZ cJ h q3 v625.1 v625.2.1 v625.2.2.1 v625.2.2.2.1 v625.2.2.2.2 M) gL_law_X2_thrown rfl 0 (by decide +kernel) rfl rfl ⟨(Nat.le_of_ble_eq_true rfl), (Nat.le_of_ble_eq_true rfl)⟩ rfl (q0 := 0) rfl (T := TX2) (N := 12) rfl gk_ok0 trivial [0, 1, 2, 3, 4, 5, 6, 7] rfl (by decide) [8, 9, 10, 11, 12, 13, 14, 15, 16, 17, 18, 19, 20, 21, 22, 23, 24, 25, 26, 27, 28, 29] rfl (by decide) (by decide) rfl (Nat.le_of_ble_eq_true rfl) dL_law_631 ⟨(show ((cells + 1) + 0) + 0 ≤ 601024 by omega), (show ((slots + 6) + 0) + 0 ≤ 7293034 by omega)⟩ (fun r631 u631 hp631 => ?_)
  have hT631 : r631 = nI 1 := (show r631 = v625.1 0 from hp631).trans hF625
  refine gk_wsub (w' := (gd_X cI h q3 v625 ++ (gw_O cJ o f613 ++ (gw_X cI cZ g h1 h2 q q2 u613)))) [22, 23, 24, 25, 26, 27, 28, 29, 0, 1, 2, 3, 4, 5, 6, 7, 8, 9, 10, 11, 12, 13, 14, 15, 16, 17, 18, 19, 20, 21] rfl (by decide) ?_
  show gk_C p l e room_1 s m args below meth c 9 D A Q (((cells + 1) + 0) + 0) (((slots + 6) + 0) + 0) (gd_X cI h q3 v625 ++ (gw_O cJ o f613 ++ (gw_X cI cZ g h1 h2 q q2 u613))) [(6, .int r625), (5, .int r613), (4, .int (nI i)), (3, .ref o), (2, .ref h), (1, .ref g), (0, .ref b)] 634 [.int r631]
  refine gk_iload G dL_law_634 1 rfl ?_
  refine gk_icmp_eq (tgt := 641) G dL_law_636 (by decide) (fun c_636 => ?_) (fun c_636 => ?_)
  · refine gk_iload G dL_law_641 1 rfl ?_
    refine gk_if_ne (tgt := 658) G dL_law_643 (by decide) (fun c_643 => ?_) (fun c_643 => ?_)
    · refine gk_goto (tgt := 1565) G dL_law_658 (by decide) ?_
      exact gk_lsub [2, 3, 4, 5, 6] rfl (K f613 u613 v625 _ _ (by omega) (by omega) hr613 hs625 hn625)
    · exact absurd (hK613.symm.trans c_643) (by decide)
  · exact absurd (hT631.trans hK613.symm) c_636
set_option maxRecDepth 100000 in
set_option maxHeartbeats 1000000 in
theorem lg_pass_ok {p : Program} {l : Launch} {e : Env} {s : State} {m : MethodId} {args : Array Value} {below : List Frame} {meth : Method} {c : Code} {D : va_G} {A : Nat → Prop} {Q : State → Prop} {cI cZ cJ : ClassId} {b L : Nat} {xs : Nat → Int32} (G : gk_G p s m args meth c RL 9 cL_law (some .boolean) wsL_law D (g_T cI cZ cJ) A) (hE : gl_F A s s.heap) (hl9 : l.stackTraces = false) (hX : va_X b L xs s s.heap) (hbl : b < s.heap.size) (hbA : ¬ A b) (hL : L ≤ 2048) {g h1 h2 o h : Nat} {q q2 q3 : Nat → Nat} {f : Nat → Int64} {u0 : gw_U} {v0 : gd_U} {M : gm_M} (wf : gm_wf M) (hrest : gm_rest M) (hh : M 9 0 < 1999000) (hr : gc_rep u0.1.1 u0.1.2 M) (hs : gr_st v0.1 v0.2.1 M) (hn : gr_now v0.2.2.1 M) {i cells slots : Nat} (hi : i + 4 ≤ L) (hc : cells ≤ 500000) (hsl : slots ≤ 7000000) (v : Nat) (hv0 : 1 ≤ v) (hv : v < 61) (hx1 : xs (i + 1) = nI v) (K : ∀ (f9 : Nat → Int64) (u9 : gw_U) (v9 : gd_U) (c9 s9 : Nat), c9 ≤ cells + 20 → s9 ≤ slots + 240 → gc_rep u9.1.1 u9.1.2 (gm_hrs M v) → gr_st v9.1 v9.2.1 (gm_hrs M v) → gr_now v9.2.2.1 (gm_hrs M v) → gk_C p l e room_1 s m args below meth c 9 D A Q c9 s9 (gd_X cI h q3 v9 ++ (gw_O cJ o f9 ++ (gw_X cI cZ g h1 h2 q q2 u9))) [(4, .int (nI i)), (3, .ref o), (2, .ref h), (1, .ref g), (0, .ref b)] 1565 []) : gk_C p l e room_1 s m args below meth c 9 D A Q cells slots (gd_X cI h q3 v0 ++ (gw_O cJ o f ++ (gw_X cI cZ g h1 h2 q q2 u0))) [(4, .int (nI i)), (3, .ref o), (2, .ref h), (1, .ref g), (0, .ref b)] 605 [] := by
  refine gk_aload_n G dL_law_605 3 rfl ?_
  refine gk_aload_n G dL_law_606 4 rfl ?_
  refine gk_iload G dL_law_607 0 rfl ?_
  refine gk_iconst (v := nI 1) G dL_law_609 (by decide) ?_
  refine gk_iadd (v := nI (i + 1)) G dL_law_610 (nI_add i 1) ?_
  refine gk_sld (v := (nI v)) G hX hbl hbA (i + 1) rfl (by omega) (by omega) hx1 dL_law_611 ?_
  refine gk_aload_n G dL_law_612 1 rfl ?_
  refine gk_callISW (wr := gd_X cI h q3 v0) G (cl_pass_ok l D cI cZ cJ o f g h1 h2 q q2 u0 M v wf hr hrest (by omega) hv0 hv) gL_law_L_pass rfl 3 (by decide +kernel) rfl rfl ⟨(Nat.le_of_ble_eq_true rfl), (Nat.le_of_ble_eq_true rfl)⟩ rfl gl_Fok hE [8, 9, 10, 11, 12, 13, 14, 15, 16, 17, 18, 19, 20, 21, 22, 23, 24, 25, 26, 27, 28, 29] rfl (by decide) [0, 1, 2, 3, 4, 5, 6, 7] rfl (by decide) (by decide) rfl (Nat.le_of_ble_eq_true rfl) dL_law_613 ⟨(show cells + 0 ≤ 601024 by omega), (show slots + 0 ≤ 7293034 by omega)⟩ (fun r613 uu613 hp613 => ?_)
  obtain ⟨f613, u613⟩ := uu613
  have hK613 : r613 = nI 0 := hp613.1
  have hv613 : f613 0 = (nI (gm_hrs M v 16 0 - M 16 0)).toInt64 := hp613.2.1
  have hr613 : gc_rep u613.1.1 u613.1.2 (gm_hrs M v) := hp613.2.2
  show gk_C p l e room_1 s m args below meth c 9 D A Q (cells + 0) (slots + 0) (gd_X cI h q3 v0 ++ (gw_O cJ o f613 ++ (gw_X cI cZ g h1 h2 q q2 u613))) [(4, .int (nI i)), (3, .ref o), (2, .ref h), (1, .ref g), (0, .ref b)] 616 [.int r613]
  refine gk_istore (lv' := [(5, .int r613), (4, .int (nI i)), (3, .ref o), (2, .ref h), (1, .ref g), (0, .ref b)]) G dL_law_616 (by decide) rfl ?_
  refine gk_aload_n G dL_law_618 3 rfl ?_
  refine gk_aload_n G dL_law_619 5 rfl ?_
  refine gk_iload G dL_law_620 1 rfl ?_
  refine gk_iconst (v := nI 1) G dL_law_622 (by decide) ?_
  refine gk_iadd (v := nI (i + 1)) G dL_law_623 (nI_add i 1) ?_
  refine gk_sld (v := (nI v)) G hX hbl hbA (i + 1) rfl (by omega) (by omega) hx1 dL_law_624 ?_
  refine gk_callIV (wr := gw_O cJ o f613 ++ (gw_X cI cZ g h1 h2 q q2 u613)) G (c2_pass_ok l D cI cZ cJ h q3 v0.1 v0.2.1 v0.2.2.1 v0.2.2.2.1 v0.2.2.2.2 M v wf hs hn hrest (by omega) (by omega) (by omega)) gL_law_X2_pass rfl 1 (by decide +kernel) rfl rfl ⟨(Nat.le_of_ble_eq_true rfl), (Nat.le_of_ble_eq_true rfl)⟩ rfl (q0 := 0) rfl (T := TX2) (N := 12) rfl gk_ok0 trivial [0, 1, 2, 3, 4, 5, 6, 7] rfl (by decide) [8, 9, 10, 11, 12, 13, 14, 15, 16, 17, 18, 19, 20, 21, 22, 23, 24, 25, 26, 27, 28, 29] rfl (by decide) (by decide) rfl (Nat.le_of_ble_eq_true rfl) dL_law_625 ⟨(show (cells + 0) + 0 ≤ 601024 by omega), (show (slots + 0) + 0 ≤ 7293034 by omega)⟩ (fun r625 v625 hp625 => ?_)
  have hR625 : r625 = nI (gm_hrs M v 16 0 - M 16 0) := hp625.1
  have hs625 : gr_st v625.1 v625.2.1 (gm_hrs M v) := hp625.2.1
  have hn625 : gr_now v625.2.2.1 (gm_hrs M v) := hp625.2.2.1
  have hF625 : v625.1 0 = nI 0 := hp625.2.2.2
  refine gk_wsub (w' := (gd_X cI h q3 v625 ++ (gw_O cJ o f613 ++ (gw_X cI cZ g h1 h2 q q2 u613)))) [22, 23, 24, 25, 26, 27, 28, 29, 0, 1, 2, 3, 4, 5, 6, 7, 8, 9, 10, 11, 12, 13, 14, 15, 16, 17, 18, 19, 20, 21] rfl (by decide) ?_
  show gk_C p l e room_1 s m args below meth c 9 D A Q ((cells + 0) + 0) ((slots + 0) + 0) (gd_X cI h q3 v625 ++ (gw_O cJ o f613 ++ (gw_X cI cZ g h1 h2 q q2 u613))) [(5, .int r613), (4, .int (nI i)), (3, .ref o), (2, .ref h), (1, .ref g), (0, .ref b)] 628 [.int r625]
  refine gk_istore (lv' := [(6, .int r625), (5, .int r613), (4, .int (nI i)), (3, .ref o), (2, .ref h), (1, .ref g), (0, .ref b)]) G dL_law_628 (by decide) rfl ?_
  refine gk_aload_n G dL_law_630 4 rfl ?_
  refine gk_callIV (wr := gw_O cJ o f613 ++ (gw_X cI cZ g h1 h2 q q2 u613)) G (c2_thrown l D cI cZ cJ h q3 v625.1 v625.2.1 v625.2.2.1 v625.2.2.2.1 v625.2.2.2.2 M) gL_law_X2_thrown rfl 0 (by decide +kernel) rfl rfl ⟨(Nat.le_of_ble_eq_true rfl), (Nat.le_of_ble_eq_true rfl)⟩ rfl (q0 := 0) rfl (T := TX2) (N := 12) rfl gk_ok0 trivial [0, 1, 2, 3, 4, 5, 6, 7] rfl (by decide) [8, 9, 10, 11, 12, 13, 14, 15, 16, 17, 18, 19, 20, 21, 22, 23, 24, 25, 26, 27, 28, 29] rfl (by decide) (by decide) rfl (Nat.le_of_ble_eq_true rfl) dL_law_631 ⟨(show ((cells + 0) + 0) + 0 ≤ 601024 by omega), (show ((slots + 0) + 0) + 0 ≤ 7293034 by omega)⟩ (fun r631 u631 hp631 => ?_)
  have hT631 : r631 = nI 0 := (show r631 = v625.1 0 from hp631).trans hF625
  refine gk_wsub (w' := (gd_X cI h q3 v625 ++ (gw_O cJ o f613 ++ (gw_X cI cZ g h1 h2 q q2 u613)))) [22, 23, 24, 25, 26, 27, 28, 29, 0, 1, 2, 3, 4, 5, 6, 7, 8, 9, 10, 11, 12, 13, 14, 15, 16, 17, 18, 19, 20, 21] rfl (by decide) ?_
  show gk_C p l e room_1 s m args below meth c 9 D A Q (((cells + 0) + 0) + 0) (((slots + 0) + 0) + 0) (gd_X cI h q3 v625 ++ (gw_O cJ o f613 ++ (gw_X cI cZ g h1 h2 q q2 u613))) [(6, .int r625), (5, .int r613), (4, .int (nI i)), (3, .ref o), (2, .ref h), (1, .ref g), (0, .ref b)] 634 [.int r631]
  refine gk_iload G dL_law_634 1 rfl ?_
  refine gk_icmp_eq (tgt := 641) G dL_law_636 (by decide) (fun c_636 => ?_) (fun c_636 => ?_)
  · refine gk_iload G dL_law_641 1 rfl ?_
    refine gk_if_ne (tgt := 658) G dL_law_643 (by decide) (fun c_643 => ?_) (fun c_643 => ?_)
    · exact absurd (hK613.trans nI_0) c_643
    · refine gk_aload_n G dL_law_646 3 rfl ?_
      refine gk_iconst (v := nI 0) G dL_law_647 (by decide) ?_
      refine gk_lald (v := f613 0) G (q0 := 8) (t0 := 2) rfl rfl 0 rfl (by decide) (by decide) rfl dL_law_648 ?_
      refine gk_iload G dL_law_649 0 rfl ?_
      refine gk_i2l (v := (r625).toInt64) G dL_law_651 rfl ?_
      refine gk_lcmp G dL_law_652 ?_
      refine gk_if_eq (tgt := 658) G dL_law_653 (by decide) (fun c_653 => ?_) (fun c_653 => ?_)
      · refine gk_goto (tgt := 1565) G dL_law_658 (by decide) ?_
        exact gk_lsub [2, 3, 4, 5, 6] rfl (K f613 u613 v625 _ _ (by omega) (by omega) hr613 hs625 hn625)
      · exact absurd (gl_cmp (hv613.trans (congrArg Int32.toInt64 hR625).symm)) c_653
  · exact absurd (hT631.trans hK613.symm) c_636
set_option maxRecDepth 100000 in
set_option maxHeartbeats 1000000 in
theorem lg_hour {p : Program} {l : Launch} {e : Env} {s : State} {m : MethodId} {args : Array Value} {below : List Frame} {meth : Method} {c : Code} {D : va_G} {A : Nat → Prop} {Q : State → Prop} {cI cZ cJ : ClassId} {b L : Nat} {xs : Nat → Int32} (G : gk_G p s m args meth c RL 9 cL_law (some .boolean) wsL_law D (g_T cI cZ cJ) A) (hE : gl_F A s s.heap) (hl9 : l.stackTraces = false) (hX : va_X b L xs s s.heap) (hbl : b < s.heap.size) (hbA : ¬ A b) (hL : L ≤ 2048) {g h1 h2 o h : Nat} {q q2 q3 : Nat → Nat} {f : Nat → Int64} {u0 : gw_U} {v0 : gd_U} {M : gm_M} (wf : gm_wf M) (hrest : gm_rest M) (hh : M 9 0 < 1999000) (hr : gc_rep u0.1.1 u0.1.2 M) (hs : gr_st v0.1 v0.2.1 M) (hn : gr_now v0.2.2.1 M) {i cells slots : Nat} (hi : i + 4 ≤ L) (hc : cells ≤ 500000) (hsl : slots ≤ 7000000)    (K : ∀ (f9 : Nat → Int64) (u9 : gw_U) (v9 : gd_U) (c9 s9 : Nat), c9 ≤ cells + 20 → s9 ≤ slots + 240 → gc_rep u9.1.1 u9.1.2 M → gr_st v9.1 v9.2.1 M → gr_now v9.2.2.1 M → gk_C p l e room_1 s m args below meth c 9 D A Q c9 s9 (gd_X cI h q3 v9 ++ (gw_O cJ o f9 ++ (gw_X cI cZ g h1 h2 q q2 u9))) [(4, .int (nI i)), (3, .ref o), (2, .ref h), (1, .ref g), (0, .ref b)] 1565 []) : gk_C p l e room_1 s m args below meth c 9 D A Q cells slots (gd_X cI h q3 v0 ++ (gw_O cJ o f ++ (gw_X cI cZ g h1 h2 q q2 u0))) [(4, .int (nI i)), (3, .ref o), (2, .ref h), (1, .ref g), (0, .ref b)] 661 [] := by
  refine gk_aload_n G dL_law_661 3 rfl ?_
  refine gk_callIV (wr := gd_X cI h q3 v0 ++ gw_O cJ o f) G (c1_hour l D cI cZ cJ g h1 h2 q u0.1.1 u0.1.2 q2 u0.2.1 u0.2.2 M wf hr) gL_law_X1_hour rfl 0 (by decide +kernel) rfl rfl ⟨(Nat.le_of_ble_eq_true rfl), (Nat.le_of_ble_eq_true rfl)⟩ rfl (q0 := 0) rfl (T := TX1) (N := 2) rfl gn_ok hE.1 [9, 10, 11, 12, 13, 14, 15, 16, 17, 18, 19, 20, 21, 22, 23, 24, 25, 26, 27, 28, 29] rfl (by decide) [0, 1, 2, 3, 4, 5, 6, 7, 8] rfl (by decide) (by decide) rfl (Nat.le_of_ble_eq_true rfl) dL_law_662 ⟨(show cells + 0 ≤ 601024 by omega), (show slots + 0 ≤ 7293034 by omega)⟩ (fun r662 u662 hp662 => ?_)
  have hK662 : r662 = nI (M 9 0) := hp662.1
  have hr662 : gc_rep u662.1.1 u662.1.2 M := hp662.2
  refine gk_wsub (w' := (gd_X cI h q3 v0 ++ (gw_O cJ o f ++ (gw_X cI cZ g h1 h2 q q2 u662)))) [0, 1, 2, 3, 4, 5, 6, 7, 8, 9, 10, 11, 12, 13, 14, 15, 16, 17, 18, 19, 20, 21, 22, 23, 24, 25, 26, 27, 28, 29] rfl (by decide) ?_
  show gk_C p l e room_1 s m args below meth c 9 D A Q (cells + 0) (slots + 0) (gd_X cI h q3 v0 ++ (gw_O cJ o f ++ (gw_X cI cZ g h1 h2 q q2 u662))) [(4, .int (nI i)), (3, .ref o), (2, .ref h), (1, .ref g), (0, .ref b)] 665 [.int r662]
  refine gk_aload_n G dL_law_665 2 rfl ?_
  refine gk_callIV (wr := gw_O cJ o f ++ (gw_X cI cZ g h1 h2 q q2 u662)) G (c2_hour l D cI cZ cJ h q3 v0.1 v0.2.1 v0.2.2.1 v0.2.2.2.1 v0.2.2.2.2 M wf hs hn) gL_law_X2_hour rfl 0 (by decide +kernel) rfl rfl ⟨(Nat.le_of_ble_eq_true rfl), (Nat.le_of_ble_eq_true rfl)⟩ rfl (q0 := 0) rfl (T := TX2) (N := 12) rfl gk_ok0 trivial [0, 1, 2, 3, 4, 5, 6, 7] rfl (by decide) [8, 9, 10, 11, 12, 13, 14, 15, 16, 17, 18, 19, 20, 21, 22, 23, 24, 25, 26, 27, 28, 29] rfl (by decide) (by decide) rfl (Nat.le_of_ble_eq_true rfl) dL_law_666 ⟨(show (cells + 0) + 0 ≤ 601024 by omega), (show (slots + 0) + 0 ≤ 7293034 by omega)⟩ (fun r666 v666 hp666 => ?_)
  have hR666 : r666 = nI (M 9 0) := hp666.1
  have hs666 : gr_st v666.1 v666.2.1 M := hp666.2.1
  have hn666 : gr_now v666.2.2.1 M := hp666.2.2.1
  have hF666 : v666.1 0 = nI 0 := hp666.2.2.2
  refine gk_wsub (w' := (gd_X cI h q3 v666 ++ (gw_O cJ o f ++ (gw_X cI cZ g h1 h2 q q2 u662)))) [22, 23, 24, 25, 26, 27, 28, 29, 0, 1, 2, 3, 4, 5, 6, 7, 8, 9, 10, 11, 12, 13, 14, 15, 16, 17, 18, 19, 20, 21] rfl (by decide) ?_
  show gk_C p l e room_1 s m args below meth c 9 D A Q ((cells + 0) + 0) ((slots + 0) + 0) (gd_X cI h q3 v666 ++ (gw_O cJ o f ++ (gw_X cI cZ g h1 h2 q q2 u662))) [(4, .int (nI i)), (3, .ref o), (2, .ref h), (1, .ref g), (0, .ref b)] 669 [.int r666, .int r662]
  refine gk_icmp_eq (tgt := 1565) G dL_law_669 (by decide) (fun c_669 => ?_) (fun c_669 => ?_)
  · exact gk_lsub [0, 1, 2, 3, 4] rfl (K f u662 v666 _ _ (by omega) (by omega) hr662 hs666 hn666)
  · exact absurd (hK662.trans hR666.symm) c_669
set_option maxRecDepth 100000 in
set_option maxHeartbeats 1000000 in
theorem lg_stones {p : Program} {l : Launch} {e : Env} {s : State} {m : MethodId} {args : Array Value} {below : List Frame} {meth : Method} {c : Code} {D : va_G} {A : Nat → Prop} {Q : State → Prop} {cI cZ cJ : ClassId} {b L : Nat} {xs : Nat → Int32} (G : gk_G p s m args meth c RL 9 cL_law (some .boolean) wsL_law D (g_T cI cZ cJ) A) (hE : gl_F A s s.heap) (hl9 : l.stackTraces = false) (hX : va_X b L xs s s.heap) (hbl : b < s.heap.size) (hbA : ¬ A b) (hL : L ≤ 2048) {g h1 h2 o h : Nat} {q q2 q3 : Nat → Nat} {f : Nat → Int64} {u0 : gw_U} {v0 : gd_U} {M : gm_M} (wf : gm_wf M) (hrest : gm_rest M) (hh : M 9 0 < 1999000) (hr : gc_rep u0.1.1 u0.1.2 M) (hs : gr_st v0.1 v0.2.1 M) (hn : gr_now v0.2.2.1 M) {i cells slots : Nat} (hi : i + 4 ≤ L) (hc : cells ≤ 500000) (hsl : slots ≤ 7000000)    (K : ∀ (f9 : Nat → Int64) (u9 : gw_U) (v9 : gd_U) (c9 s9 : Nat), c9 ≤ cells + 20 → s9 ≤ slots + 240 → gc_rep u9.1.1 u9.1.2 M → gr_st v9.1 v9.2.1 M → gr_now v9.2.2.1 M → gk_C p l e room_1 s m args below meth c 9 D A Q c9 s9 (gd_X cI h q3 v9 ++ (gw_O cJ o f9 ++ (gw_X cI cZ g h1 h2 q q2 u9))) [(4, .int (nI i)), (3, .ref o), (2, .ref h), (1, .ref g), (0, .ref b)] 1565 []) : gk_C p l e room_1 s m args below meth c 9 D A Q cells slots (gd_X cI h q3 v0 ++ (gw_O cJ o f ++ (gw_X cI cZ g h1 h2 q q2 u0))) [(4, .int (nI i)), (3, .ref o), (2, .ref h), (1, .ref g), (0, .ref b)] 674 [] := by
  refine gk_aload_n G dL_law_674 3 rfl ?_
  refine gk_callIV (wr := gd_X cI h q3 v0 ++ gw_O cJ o f) G (c1_stones l D cI cZ cJ g h1 h2 q u0.1.1 u0.1.2 q2 u0.2.1 u0.2.2 M wf hr) gL_law_X1_stones rfl 0 (by decide +kernel) rfl rfl ⟨(Nat.le_of_ble_eq_true rfl), (Nat.le_of_ble_eq_true rfl)⟩ rfl (q0 := 0) rfl (T := TX1) (N := 2) rfl gn_ok hE.1 [9, 10, 11, 12, 13, 14, 15, 16, 17, 18, 19, 20, 21, 22, 23, 24, 25, 26, 27, 28, 29] rfl (by decide) [0, 1, 2, 3, 4, 5, 6, 7, 8] rfl (by decide) (by decide) rfl (Nat.le_of_ble_eq_true rfl) dL_law_675 ⟨(show cells + 0 ≤ 601024 by omega), (show slots + 0 ≤ 7293034 by omega)⟩ (fun r675 u675 hp675 => ?_)
  have hK675 : r675 = nI (M 10 0) := hp675.1
  have hr675 : gc_rep u675.1.1 u675.1.2 M := hp675.2
  refine gk_wsub (w' := (gd_X cI h q3 v0 ++ (gw_O cJ o f ++ (gw_X cI cZ g h1 h2 q q2 u675)))) [0, 1, 2, 3, 4, 5, 6, 7, 8, 9, 10, 11, 12, 13, 14, 15, 16, 17, 18, 19, 20, 21, 22, 23, 24, 25, 26, 27, 28, 29] rfl (by decide) ?_
  show gk_C p l e room_1 s m args below meth c 9 D A Q (cells + 0) (slots + 0) (gd_X cI h q3 v0 ++ (gw_O cJ o f ++ (gw_X cI cZ g h1 h2 q q2 u675))) [(4, .int (nI i)), (3, .ref o), (2, .ref h), (1, .ref g), (0, .ref b)] 678 [.int r675]
  refine gk_aload_n G dL_law_678 2 rfl ?_
  refine gk_callIV (wr := gw_O cJ o f ++ (gw_X cI cZ g h1 h2 q q2 u675)) G (c2_stones l D cI cZ cJ h q3 v0.1 v0.2.1 v0.2.2.1 v0.2.2.2.1 v0.2.2.2.2 M wf hs hn) gL_law_X2_stones rfl 0 (by decide +kernel) rfl rfl ⟨(Nat.le_of_ble_eq_true rfl), (Nat.le_of_ble_eq_true rfl)⟩ rfl (q0 := 0) rfl (T := TX2) (N := 12) rfl gk_ok0 trivial [0, 1, 2, 3, 4, 5, 6, 7] rfl (by decide) [8, 9, 10, 11, 12, 13, 14, 15, 16, 17, 18, 19, 20, 21, 22, 23, 24, 25, 26, 27, 28, 29] rfl (by decide) (by decide) rfl (Nat.le_of_ble_eq_true rfl) dL_law_679 ⟨(show (cells + 0) + 0 ≤ 601024 by omega), (show (slots + 0) + 0 ≤ 7293034 by omega)⟩ (fun r679 v679 hp679 => ?_)
  have hR679 : r679 = nI (M 10 0) := hp679.1
  have hs679 : gr_st v679.1 v679.2.1 M := hp679.2.1
  have hn679 : gr_now v679.2.2.1 M := hp679.2.2.1
  have hF679 : v679.1 0 = nI 0 := hp679.2.2.2
  refine gk_wsub (w' := (gd_X cI h q3 v679 ++ (gw_O cJ o f ++ (gw_X cI cZ g h1 h2 q q2 u675)))) [22, 23, 24, 25, 26, 27, 28, 29, 0, 1, 2, 3, 4, 5, 6, 7, 8, 9, 10, 11, 12, 13, 14, 15, 16, 17, 18, 19, 20, 21] rfl (by decide) ?_
  show gk_C p l e room_1 s m args below meth c 9 D A Q ((cells + 0) + 0) ((slots + 0) + 0) (gd_X cI h q3 v679 ++ (gw_O cJ o f ++ (gw_X cI cZ g h1 h2 q q2 u675))) [(4, .int (nI i)), (3, .ref o), (2, .ref h), (1, .ref g), (0, .ref b)] 682 [.int r679, .int r675]
  refine gk_icmp_eq (tgt := 1565) G dL_law_682 (by decide) (fun c_682 => ?_) (fun c_682 => ?_)
  · exact gk_lsub [0, 1, 2, 3, 4] rfl (K f u675 v679 _ _ (by omega) (by omega) hr675 hs679 hn679)
  · exact absurd (hK675.trans hR679.symm) c_682
set_option maxRecDepth 100000 in
set_option maxHeartbeats 1000000 in
theorem lg_sacks {p : Program} {l : Launch} {e : Env} {s : State} {m : MethodId} {args : Array Value} {below : List Frame} {meth : Method} {c : Code} {D : va_G} {A : Nat → Prop} {Q : State → Prop} {cI cZ cJ : ClassId} {b L : Nat} {xs : Nat → Int32} (G : gk_G p s m args meth c RL 9 cL_law (some .boolean) wsL_law D (g_T cI cZ cJ) A) (hE : gl_F A s s.heap) (hl9 : l.stackTraces = false) (hX : va_X b L xs s s.heap) (hbl : b < s.heap.size) (hbA : ¬ A b) (hL : L ≤ 2048) {g h1 h2 o h : Nat} {q q2 q3 : Nat → Nat} {f : Nat → Int64} {u0 : gw_U} {v0 : gd_U} {M : gm_M} (wf : gm_wf M) (hrest : gm_rest M) (hh : M 9 0 < 1999000) (hr : gc_rep u0.1.1 u0.1.2 M) (hs : gr_st v0.1 v0.2.1 M) (hn : gr_now v0.2.2.1 M) {i cells slots : Nat} (hi : i + 4 ≤ L) (hc : cells ≤ 500000) (hsl : slots ≤ 7000000)    (K : ∀ (f9 : Nat → Int64) (u9 : gw_U) (v9 : gd_U) (c9 s9 : Nat), c9 ≤ cells + 20 → s9 ≤ slots + 240 → gc_rep u9.1.1 u9.1.2 M → gr_st v9.1 v9.2.1 M → gr_now v9.2.2.1 M → gk_C p l e room_1 s m args below meth c 9 D A Q c9 s9 (gd_X cI h q3 v9 ++ (gw_O cJ o f9 ++ (gw_X cI cZ g h1 h2 q q2 u9))) [(4, .int (nI i)), (3, .ref o), (2, .ref h), (1, .ref g), (0, .ref b)] 1565 []) : gk_C p l e room_1 s m args below meth c 9 D A Q cells slots (gd_X cI h q3 v0 ++ (gw_O cJ o f ++ (gw_X cI cZ g h1 h2 q q2 u0))) [(4, .int (nI i)), (3, .ref o), (2, .ref h), (1, .ref g), (0, .ref b)] 687 [] := by
  refine gk_aload_n G dL_law_687 3 rfl ?_
  refine gk_callIV (wr := gd_X cI h q3 v0 ++ gw_O cJ o f) G (c1_sacks l D cI cZ cJ g h1 h2 q u0.1.1 u0.1.2 q2 u0.2.1 u0.2.2 M wf hr) gL_law_X1_sacks rfl 0 (by decide +kernel) rfl rfl ⟨(Nat.le_of_ble_eq_true rfl), (Nat.le_of_ble_eq_true rfl)⟩ rfl (q0 := 0) rfl (T := TX1) (N := 2) rfl gn_ok hE.1 [9, 10, 11, 12, 13, 14, 15, 16, 17, 18, 19, 20, 21, 22, 23, 24, 25, 26, 27, 28, 29] rfl (by decide) [0, 1, 2, 3, 4, 5, 6, 7, 8] rfl (by decide) (by decide) rfl (Nat.le_of_ble_eq_true rfl) dL_law_688 ⟨(show cells + 0 ≤ 601024 by omega), (show slots + 0 ≤ 7293034 by omega)⟩ (fun r688 u688 hp688 => ?_)
  have hK688 : r688 = nI (M 11 0) := hp688.1
  have hr688 : gc_rep u688.1.1 u688.1.2 M := hp688.2
  refine gk_wsub (w' := (gd_X cI h q3 v0 ++ (gw_O cJ o f ++ (gw_X cI cZ g h1 h2 q q2 u688)))) [0, 1, 2, 3, 4, 5, 6, 7, 8, 9, 10, 11, 12, 13, 14, 15, 16, 17, 18, 19, 20, 21, 22, 23, 24, 25, 26, 27, 28, 29] rfl (by decide) ?_
  show gk_C p l e room_1 s m args below meth c 9 D A Q (cells + 0) (slots + 0) (gd_X cI h q3 v0 ++ (gw_O cJ o f ++ (gw_X cI cZ g h1 h2 q q2 u688))) [(4, .int (nI i)), (3, .ref o), (2, .ref h), (1, .ref g), (0, .ref b)] 691 [.int r688]
  refine gk_aload_n G dL_law_691 2 rfl ?_
  refine gk_callIV (wr := gw_O cJ o f ++ (gw_X cI cZ g h1 h2 q q2 u688)) G (c2_sacks l D cI cZ cJ h q3 v0.1 v0.2.1 v0.2.2.1 v0.2.2.2.1 v0.2.2.2.2 M wf hs hn) gL_law_X2_sacks rfl 0 (by decide +kernel) rfl rfl ⟨(Nat.le_of_ble_eq_true rfl), (Nat.le_of_ble_eq_true rfl)⟩ rfl (q0 := 0) rfl (T := TX2) (N := 12) rfl gk_ok0 trivial [0, 1, 2, 3, 4, 5, 6, 7] rfl (by decide) [8, 9, 10, 11, 12, 13, 14, 15, 16, 17, 18, 19, 20, 21, 22, 23, 24, 25, 26, 27, 28, 29] rfl (by decide) (by decide) rfl (Nat.le_of_ble_eq_true rfl) dL_law_692 ⟨(show (cells + 0) + 0 ≤ 601024 by omega), (show (slots + 0) + 0 ≤ 7293034 by omega)⟩ (fun r692 v692 hp692 => ?_)
  have hR692 : r692 = nI (M 11 0) := hp692.1
  have hs692 : gr_st v692.1 v692.2.1 M := hp692.2.1
  have hn692 : gr_now v692.2.2.1 M := hp692.2.2.1
  have hF692 : v692.1 0 = nI 0 := hp692.2.2.2
  refine gk_wsub (w' := (gd_X cI h q3 v692 ++ (gw_O cJ o f ++ (gw_X cI cZ g h1 h2 q q2 u688)))) [22, 23, 24, 25, 26, 27, 28, 29, 0, 1, 2, 3, 4, 5, 6, 7, 8, 9, 10, 11, 12, 13, 14, 15, 16, 17, 18, 19, 20, 21] rfl (by decide) ?_
  show gk_C p l e room_1 s m args below meth c 9 D A Q ((cells + 0) + 0) ((slots + 0) + 0) (gd_X cI h q3 v692 ++ (gw_O cJ o f ++ (gw_X cI cZ g h1 h2 q q2 u688))) [(4, .int (nI i)), (3, .ref o), (2, .ref h), (1, .ref g), (0, .ref b)] 695 [.int r692, .int r688]
  refine gk_icmp_eq (tgt := 1565) G dL_law_695 (by decide) (fun c_695 => ?_) (fun c_695 => ?_)
  · exact gk_lsub [0, 1, 2, 3, 4] rfl (K f u688 v692 _ _ (by omega) (by omega) hr688 hs692 hn692)
  · exact absurd (hK688.trans hR692.symm) c_695
set_option maxRecDepth 100000 in
set_option maxHeartbeats 1000000 in
theorem lg_rule {p : Program} {l : Launch} {e : Env} {s : State} {m : MethodId} {args : Array Value} {below : List Frame} {meth : Method} {c : Code} {D : va_G} {A : Nat → Prop} {Q : State → Prop} {cI cZ cJ : ClassId} {b L : Nat} {xs : Nat → Int32} (G : gk_G p s m args meth c RL 9 cL_law (some .boolean) wsL_law D (g_T cI cZ cJ) A) (hE : gl_F A s s.heap) (hl9 : l.stackTraces = false) (hX : va_X b L xs s s.heap) (hbl : b < s.heap.size) (hbA : ¬ A b) (hL : L ≤ 2048) {g h1 h2 o h : Nat} {q q2 q3 : Nat → Nat} {f : Nat → Int64} {u0 : gw_U} {v0 : gd_U} {M : gm_M} (wf : gm_wf M) (hrest : gm_rest M) (hh : M 9 0 < 1999000) (hr : gc_rep u0.1.1 u0.1.2 M) (hs : gr_st v0.1 v0.2.1 M) (hn : gr_now v0.2.2.1 M) {i cells slots : Nat} (hi : i + 4 ≤ L) (hc : cells ≤ 500000) (hsl : slots ≤ 7000000)    (K : ∀ (f9 : Nat → Int64) (u9 : gw_U) (v9 : gd_U) (c9 s9 : Nat), c9 ≤ cells + 20 → s9 ≤ slots + 240 → gc_rep u9.1.1 u9.1.2 M → gr_st v9.1 v9.2.1 M → gr_now v9.2.2.1 M → gk_C p l e room_1 s m args below meth c 9 D A Q c9 s9 (gd_X cI h q3 v9 ++ (gw_O cJ o f9 ++ (gw_X cI cZ g h1 h2 q q2 u9))) [(4, .int (nI i)), (3, .ref o), (2, .ref h), (1, .ref g), (0, .ref b)] 1565 []) : gk_C p l e room_1 s m args below meth c 9 D A Q cells slots (gd_X cI h q3 v0 ++ (gw_O cJ o f ++ (gw_X cI cZ g h1 h2 q q2 u0))) [(4, .int (nI i)), (3, .ref o), (2, .ref h), (1, .ref g), (0, .ref b)] 700 [] := by
  refine gk_aload_n G dL_law_700 3 rfl ?_
  refine gk_callIV (wr := gd_X cI h q3 v0 ++ gw_O cJ o f) G (c1_rule l D cI cZ cJ g h1 h2 q u0.1.1 u0.1.2 q2 u0.2.1 u0.2.2 M wf hr) gL_law_X1_rule rfl 0 (by decide +kernel) rfl rfl ⟨(Nat.le_of_ble_eq_true rfl), (Nat.le_of_ble_eq_true rfl)⟩ rfl (q0 := 0) rfl (T := TX1) (N := 2) rfl gn_ok hE.1 [9, 10, 11, 12, 13, 14, 15, 16, 17, 18, 19, 20, 21, 22, 23, 24, 25, 26, 27, 28, 29] rfl (by decide) [0, 1, 2, 3, 4, 5, 6, 7, 8] rfl (by decide) (by decide) rfl (Nat.le_of_ble_eq_true rfl) dL_law_701 ⟨(show cells + 0 ≤ 601024 by omega), (show slots + 0 ≤ 7293034 by omega)⟩ (fun r701 u701 hp701 => ?_)
  have hK701 : r701 = nI (M 14 0) := hp701.1
  have hr701 : gc_rep u701.1.1 u701.1.2 M := hp701.2
  refine gk_wsub (w' := (gd_X cI h q3 v0 ++ (gw_O cJ o f ++ (gw_X cI cZ g h1 h2 q q2 u701)))) [0, 1, 2, 3, 4, 5, 6, 7, 8, 9, 10, 11, 12, 13, 14, 15, 16, 17, 18, 19, 20, 21, 22, 23, 24, 25, 26, 27, 28, 29] rfl (by decide) ?_
  show gk_C p l e room_1 s m args below meth c 9 D A Q (cells + 0) (slots + 0) (gd_X cI h q3 v0 ++ (gw_O cJ o f ++ (gw_X cI cZ g h1 h2 q q2 u701))) [(4, .int (nI i)), (3, .ref o), (2, .ref h), (1, .ref g), (0, .ref b)] 704 [.int r701]
  refine gk_aload_n G dL_law_704 2 rfl ?_
  refine gk_callIV (wr := gw_O cJ o f ++ (gw_X cI cZ g h1 h2 q q2 u701)) G (c2_rule l D cI cZ cJ h q3 v0.1 v0.2.1 v0.2.2.1 v0.2.2.2.1 v0.2.2.2.2 M wf hs hn) gL_law_X2_rule rfl 0 (by decide +kernel) rfl rfl ⟨(Nat.le_of_ble_eq_true rfl), (Nat.le_of_ble_eq_true rfl)⟩ rfl (q0 := 0) rfl (T := TX2) (N := 12) rfl gk_ok0 trivial [0, 1, 2, 3, 4, 5, 6, 7] rfl (by decide) [8, 9, 10, 11, 12, 13, 14, 15, 16, 17, 18, 19, 20, 21, 22, 23, 24, 25, 26, 27, 28, 29] rfl (by decide) (by decide) rfl (Nat.le_of_ble_eq_true rfl) dL_law_705 ⟨(show (cells + 0) + 0 ≤ 601024 by omega), (show (slots + 0) + 0 ≤ 7293034 by omega)⟩ (fun r705 v705 hp705 => ?_)
  have hR705 : r705 = nI (M 14 0) := hp705.1
  have hs705 : gr_st v705.1 v705.2.1 M := hp705.2.1
  have hn705 : gr_now v705.2.2.1 M := hp705.2.2.1
  have hF705 : v705.1 0 = nI 0 := hp705.2.2.2
  refine gk_wsub (w' := (gd_X cI h q3 v705 ++ (gw_O cJ o f ++ (gw_X cI cZ g h1 h2 q q2 u701)))) [22, 23, 24, 25, 26, 27, 28, 29, 0, 1, 2, 3, 4, 5, 6, 7, 8, 9, 10, 11, 12, 13, 14, 15, 16, 17, 18, 19, 20, 21] rfl (by decide) ?_
  show gk_C p l e room_1 s m args below meth c 9 D A Q ((cells + 0) + 0) ((slots + 0) + 0) (gd_X cI h q3 v705 ++ (gw_O cJ o f ++ (gw_X cI cZ g h1 h2 q q2 u701))) [(4, .int (nI i)), (3, .ref o), (2, .ref h), (1, .ref g), (0, .ref b)] 708 [.int r705, .int r701]
  refine gk_icmp_eq (tgt := 1565) G dL_law_708 (by decide) (fun c_708 => ?_) (fun c_708 => ?_)
  · exact gk_lsub [0, 1, 2, 3, 4] rfl (K f u701 v705 _ _ (by omega) (by omega) hr701 hs705 hn705)
  · exact absurd (hK701.trans hR705.symm) c_708
set_option maxRecDepth 100000 in
set_option maxHeartbeats 1000000 in
theorem lg_wind {p : Program} {l : Launch} {e : Env} {s : State} {m : MethodId} {args : Array Value} {below : List Frame} {meth : Method} {c : Code} {D : va_G} {A : Nat → Prop} {Q : State → Prop} {cI cZ cJ : ClassId} {b L : Nat} {xs : Nat → Int32} (G : gk_G p s m args meth c RL 9 cL_law (some .boolean) wsL_law D (g_T cI cZ cJ) A) (hE : gl_F A s s.heap) (hl9 : l.stackTraces = false) (hX : va_X b L xs s s.heap) (hbl : b < s.heap.size) (hbA : ¬ A b) (hL : L ≤ 2048) {g h1 h2 o h : Nat} {q q2 q3 : Nat → Nat} {f : Nat → Int64} {u0 : gw_U} {v0 : gd_U} {M : gm_M} (wf : gm_wf M) (hrest : gm_rest M) (hh : M 9 0 < 1999000) (hr : gc_rep u0.1.1 u0.1.2 M) (hs : gr_st v0.1 v0.2.1 M) (hn : gr_now v0.2.2.1 M) {i cells slots : Nat} (hi : i + 4 ≤ L) (hc : cells ≤ 500000) (hsl : slots ≤ 7000000)    (K : ∀ (f9 : Nat → Int64) (u9 : gw_U) (v9 : gd_U) (c9 s9 : Nat), c9 ≤ cells + 20 → s9 ≤ slots + 240 → gc_rep u9.1.1 u9.1.2 M → gr_st v9.1 v9.2.1 M → gr_now v9.2.2.1 M → gk_C p l e room_1 s m args below meth c 9 D A Q c9 s9 (gd_X cI h q3 v9 ++ (gw_O cJ o f9 ++ (gw_X cI cZ g h1 h2 q q2 u9))) [(4, .int (nI i)), (3, .ref o), (2, .ref h), (1, .ref g), (0, .ref b)] 1565 []) : gk_C p l e room_1 s m args below meth c 9 D A Q cells slots (gd_X cI h q3 v0 ++ (gw_O cJ o f ++ (gw_X cI cZ g h1 h2 q q2 u0))) [(4, .int (nI i)), (3, .ref o), (2, .ref h), (1, .ref g), (0, .ref b)] 713 [] := by
  refine gk_aload_n G dL_law_713 3 rfl ?_
  refine gk_callIV (wr := gd_X cI h q3 v0 ++ gw_O cJ o f) G (c1_wind l D cI cZ cJ g h1 h2 q u0.1.1 u0.1.2 q2 u0.2.1 u0.2.2 M wf hr (by omega)) gL_law_X1_wind rfl 0 (by decide +kernel) rfl rfl ⟨(Nat.le_of_ble_eq_true rfl), (Nat.le_of_ble_eq_true rfl)⟩ rfl (q0 := 0) rfl (T := TX1) (N := 2) rfl gn_ok hE.1 [9, 10, 11, 12, 13, 14, 15, 16, 17, 18, 19, 20, 21, 22, 23, 24, 25, 26, 27, 28, 29] rfl (by decide) [0, 1, 2, 3, 4, 5, 6, 7, 8] rfl (by decide) (by decide) rfl (Nat.le_of_ble_eq_true rfl) dL_law_714 ⟨(show cells + 0 ≤ 601024 by omega), (show slots + 0 ≤ 7293034 by omega)⟩ (fun r714 u714 hp714 => ?_)
  have hK714 : r714 = nI (gm_wnd M) := hp714.1
  have hr714 : gc_rep u714.1.1 u714.1.2 M := hp714.2
  refine gk_wsub (w' := (gd_X cI h q3 v0 ++ (gw_O cJ o f ++ (gw_X cI cZ g h1 h2 q q2 u714)))) [0, 1, 2, 3, 4, 5, 6, 7, 8, 9, 10, 11, 12, 13, 14, 15, 16, 17, 18, 19, 20, 21, 22, 23, 24, 25, 26, 27, 28, 29] rfl (by decide) ?_
  show gk_C p l e room_1 s m args below meth c 9 D A Q (cells + 0) (slots + 0) (gd_X cI h q3 v0 ++ (gw_O cJ o f ++ (gw_X cI cZ g h1 h2 q q2 u714))) [(4, .int (nI i)), (3, .ref o), (2, .ref h), (1, .ref g), (0, .ref b)] 717 [.int r714]
  refine gk_aload_n G dL_law_717 2 rfl ?_
  refine gk_callIV (wr := gw_O cJ o f ++ (gw_X cI cZ g h1 h2 q q2 u714)) G (c2_wind l D cI cZ cJ h q3 v0.1 v0.2.1 v0.2.2.1 v0.2.2.2.1 v0.2.2.2.2 M wf hs hn (by omega)) gL_law_X2_wind rfl 0 (by decide +kernel) rfl rfl ⟨(Nat.le_of_ble_eq_true rfl), (Nat.le_of_ble_eq_true rfl)⟩ rfl (q0 := 0) rfl (T := TX2) (N := 12) rfl gk_ok0 trivial [0, 1, 2, 3, 4, 5, 6, 7] rfl (by decide) [8, 9, 10, 11, 12, 13, 14, 15, 16, 17, 18, 19, 20, 21, 22, 23, 24, 25, 26, 27, 28, 29] rfl (by decide) (by decide) rfl (Nat.le_of_ble_eq_true rfl) dL_law_718 ⟨(show (cells + 0) + 0 ≤ 601024 by omega), (show (slots + 0) + 0 ≤ 7293034 by omega)⟩ (fun r718 v718 hp718 => ?_)
  have hR718 : r718 = nI (gm_wnd M) := hp718.1
  have hs718 : gr_st v718.1 v718.2.1 M := hp718.2.1
  have hn718 : gr_now v718.2.2.1 M := hp718.2.2.1
  have hF718 : v718.1 0 = nI 0 := hp718.2.2.2
  refine gk_wsub (w' := (gd_X cI h q3 v718 ++ (gw_O cJ o f ++ (gw_X cI cZ g h1 h2 q q2 u714)))) [22, 23, 24, 25, 26, 27, 28, 29, 0, 1, 2, 3, 4, 5, 6, 7, 8, 9, 10, 11, 12, 13, 14, 15, 16, 17, 18, 19, 20, 21] rfl (by decide) ?_
  show gk_C p l e room_1 s m args below meth c 9 D A Q ((cells + 0) + 0) ((slots + 0) + 0) (gd_X cI h q3 v718 ++ (gw_O cJ o f ++ (gw_X cI cZ g h1 h2 q q2 u714))) [(4, .int (nI i)), (3, .ref o), (2, .ref h), (1, .ref g), (0, .ref b)] 721 [.int r718, .int r714]
  refine gk_icmp_eq (tgt := 1565) G dL_law_721 (by decide) (fun c_721 => ?_) (fun c_721 => ?_)
  · exact gk_lsub [0, 1, 2, 3, 4] rfl (K f u714 v718 _ _ (by omega) (by omega) hr714 hs718 hn718)
  · exact absurd (hK714.trans hR718.symm) c_721
set_option maxRecDepth 100000 in
set_option maxHeartbeats 1000000 in
theorem lg_sackOn_no {p : Program} {l : Launch} {e : Env} {s : State} {m : MethodId} {args : Array Value} {below : List Frame} {meth : Method} {c : Code} {D : va_G} {A : Nat → Prop} {Q : State → Prop} {cI cZ cJ : ClassId} {b L : Nat} {xs : Nat → Int32} (G : gk_G p s m args meth c RL 9 cL_law (some .boolean) wsL_law D (g_T cI cZ cJ) A) (hE : gl_F A s s.heap) (hl9 : l.stackTraces = false) (hX : va_X b L xs s s.heap) (hbl : b < s.heap.size) (hbA : ¬ A b) (hL : L ≤ 2048) {g h1 h2 o h : Nat} {q q2 q3 : Nat → Nat} {f : Nat → Int64} {u0 : gw_U} {v0 : gd_U} {M : gm_M} (wf : gm_wf M) (hrest : gm_rest M) (hh : M 9 0 < 1999000) (hr : gc_rep u0.1.1 u0.1.2 M) (hs : gr_st v0.1 v0.2.1 M) (hn : gr_now v0.2.2.1 M) {i cells slots : Nat} (hi : i + 4 ≤ L) (hc : cells ≤ 500000) (hsl : slots ≤ 7000000) (p0 : Int32) (hb : ¬ gm_rg p0 0 (M 10 0)) (hx1 : xs (i + 1) = p0) (K : ∀ (f9 : Nat → Int64) (u9 : gw_U) (v9 : gd_U) (c9 s9 : Nat), c9 ≤ cells + 20 → s9 ≤ slots + 240 → gc_rep u9.1.1 u9.1.2 M → gr_st v9.1 v9.2.1 M → gr_now v9.2.2.1 M → gk_C p l e room_1 s m args below meth c 9 D A Q c9 s9 (gd_X cI h q3 v9 ++ (gw_O cJ o f9 ++ (gw_X cI cZ g h1 h2 q q2 u9))) [(4, .int (nI i)), (3, .ref o), (2, .ref h), (1, .ref g), (0, .ref b)] 1565 []) : gk_C p l e room_1 s m args below meth c 9 D A Q cells slots (gd_X cI h q3 v0 ++ (gw_O cJ o f ++ (gw_X cI cZ g h1 h2 q q2 u0))) [(4, .int (nI i)), (3, .ref o), (2, .ref h), (1, .ref g), (0, .ref b)] 726 [] := by
  refine gk_aload_n G dL_law_726 3 rfl ?_
  refine gk_aload_n G dL_law_727 4 rfl ?_
  refine gk_iload G dL_law_728 0 rfl ?_
  refine gk_iconst (v := nI 1) G dL_law_730 (by decide) ?_
  refine gk_iadd (v := nI (i + 1)) G dL_law_731 (nI_add i 1) ?_
  refine gk_sld (v := p0) G hX hbl hbA (i + 1) rfl (by omega) (by omega) hx1 dL_law_732 ?_
  refine gk_aload_n G dL_law_733 1 rfl ?_
  refine gk_callISW (wr := gd_X cI h q3 v0) G (cl_sackOn_no l D cI cZ cJ o f g h1 h2 q q2 u0 M hl9 p0 wf hr hb) gL_law_L_sackOn rfl 3 (by decide +kernel) rfl rfl ⟨(Nat.le_of_ble_eq_true rfl), (Nat.le_of_ble_eq_true rfl)⟩ rfl gl_Fok hE [8, 9, 10, 11, 12, 13, 14, 15, 16, 17, 18, 19, 20, 21, 22, 23, 24, 25, 26, 27, 28, 29] rfl (by decide) [0, 1, 2, 3, 4, 5, 6, 7] rfl (by decide) (by decide) rfl (Nat.le_of_ble_eq_true rfl) dL_law_734 ⟨(show cells + 1 ≤ 601024 by omega), (show slots + 6 ≤ 7293034 by omega)⟩ (fun r734 uu734 hp734 => ?_)
  obtain ⟨f734, u734⟩ := uu734
  have hK734 : r734 = nI 1 := hp734.1
  have hr734 : gc_rep u734.1.1 u734.1.2 M := hp734.2
  show gk_C p l e room_1 s m args below meth c 9 D A Q (cells + 1) (slots + 6) (gd_X cI h q3 v0 ++ (gw_O cJ o f734 ++ (gw_X cI cZ g h1 h2 q q2 u734))) [(4, .int (nI i)), (3, .ref o), (2, .ref h), (1, .ref g), (0, .ref b)] 737 [.int r734]
  refine gk_istore (lv' := [(5, .int r734), (4, .int (nI i)), (3, .ref o), (2, .ref h), (1, .ref g), (0, .ref b)]) G dL_law_737 (by decide) rfl ?_
  refine gk_aload_n G dL_law_739 3 rfl ?_
  refine gk_aload_n G dL_law_740 5 rfl ?_
  refine gk_iload G dL_law_741 1 rfl ?_
  refine gk_iconst (v := nI 1) G dL_law_743 (by decide) ?_
  refine gk_iadd (v := nI (i + 1)) G dL_law_744 (nI_add i 1) ?_
  refine gk_sld (v := p0) G hX hbl hbA (i + 1) rfl (by omega) (by omega) hx1 dL_law_745 ?_
  refine gk_callIV (wr := gw_O cJ o f734 ++ (gw_X cI cZ g h1 h2 q q2 u734)) G (c2_sackOn_no l D cI cZ cJ h q3 v0.1 v0.2.1 v0.2.2.1 v0.2.2.2.1 v0.2.2.2.2 M p0 wf hs hn hb) gL_law_X2_sackOn rfl 1 (by decide +kernel) rfl rfl ⟨(Nat.le_of_ble_eq_true rfl), (Nat.le_of_ble_eq_true rfl)⟩ rfl (q0 := 0) rfl (T := TX2) (N := 12) rfl gk_ok0 trivial [0, 1, 2, 3, 4, 5, 6, 7] rfl (by decide) [8, 9, 10, 11, 12, 13, 14, 15, 16, 17, 18, 19, 20, 21, 22, 23, 24, 25, 26, 27, 28, 29] rfl (by decide) (by decide) rfl (Nat.le_of_ble_eq_true rfl) dL_law_746 ⟨(show (cells + 1) + 0 ≤ 601024 by omega), (show (slots + 6) + 0 ≤ 7293034 by omega)⟩ (fun r746 v746 hp746 => ?_)
  have hR746 : r746 = nI 0 := hp746.1
  have hs746 : gr_st v746.1 v746.2.1 M := hp746.2.1
  have hn746 : gr_now v746.2.2.1 M := hp746.2.2.1
  have hF746 : v746.1 0 = nI 1 := hp746.2.2.2
  refine gk_wsub (w' := (gd_X cI h q3 v746 ++ (gw_O cJ o f734 ++ (gw_X cI cZ g h1 h2 q q2 u734)))) [22, 23, 24, 25, 26, 27, 28, 29, 0, 1, 2, 3, 4, 5, 6, 7, 8, 9, 10, 11, 12, 13, 14, 15, 16, 17, 18, 19, 20, 21] rfl (by decide) ?_
  show gk_C p l e room_1 s m args below meth c 9 D A Q ((cells + 1) + 0) ((slots + 6) + 0) (gd_X cI h q3 v746 ++ (gw_O cJ o f734 ++ (gw_X cI cZ g h1 h2 q q2 u734))) [(5, .int r734), (4, .int (nI i)), (3, .ref o), (2, .ref h), (1, .ref g), (0, .ref b)] 749 [.int r746]
  refine gk_istore (lv' := [(6, .int r746), (5, .int r734), (4, .int (nI i)), (3, .ref o), (2, .ref h), (1, .ref g), (0, .ref b)]) G dL_law_749 (by decide) rfl ?_
  refine gk_aload_n G dL_law_751 4 rfl ?_
  refine gk_callIV (wr := gw_O cJ o f734 ++ (gw_X cI cZ g h1 h2 q q2 u734)) G (c2_thrown l D cI cZ cJ h q3 v746.1 v746.2.1 v746.2.2.1 v746.2.2.2.1 v746.2.2.2.2 M) gL_law_X2_thrown rfl 0 (by decide +kernel) rfl rfl ⟨(Nat.le_of_ble_eq_true rfl), (Nat.le_of_ble_eq_true rfl)⟩ rfl (q0 := 0) rfl (T := TX2) (N := 12) rfl gk_ok0 trivial [0, 1, 2, 3, 4, 5, 6, 7] rfl (by decide) [8, 9, 10, 11, 12, 13, 14, 15, 16, 17, 18, 19, 20, 21, 22, 23, 24, 25, 26, 27, 28, 29] rfl (by decide) (by decide) rfl (Nat.le_of_ble_eq_true rfl) dL_law_752 ⟨(show ((cells + 1) + 0) + 0 ≤ 601024 by omega), (show ((slots + 6) + 0) + 0 ≤ 7293034 by omega)⟩ (fun r752 u752 hp752 => ?_)
  have hT752 : r752 = nI 1 := (show r752 = v746.1 0 from hp752).trans hF746
  refine gk_wsub (w' := (gd_X cI h q3 v746 ++ (gw_O cJ o f734 ++ (gw_X cI cZ g h1 h2 q q2 u734)))) [22, 23, 24, 25, 26, 27, 28, 29, 0, 1, 2, 3, 4, 5, 6, 7, 8, 9, 10, 11, 12, 13, 14, 15, 16, 17, 18, 19, 20, 21] rfl (by decide) ?_
  show gk_C p l e room_1 s m args below meth c 9 D A Q (((cells + 1) + 0) + 0) (((slots + 6) + 0) + 0) (gd_X cI h q3 v746 ++ (gw_O cJ o f734 ++ (gw_X cI cZ g h1 h2 q q2 u734))) [(6, .int r746), (5, .int r734), (4, .int (nI i)), (3, .ref o), (2, .ref h), (1, .ref g), (0, .ref b)] 755 [.int r752]
  refine gk_iload G dL_law_755 1 rfl ?_
  refine gk_icmp_eq (tgt := 762) G dL_law_757 (by decide) (fun c_757 => ?_) (fun c_757 => ?_)
  · refine gk_iload G dL_law_762 1 rfl ?_
    refine gk_if_ne (tgt := 779) G dL_law_764 (by decide) (fun c_764 => ?_) (fun c_764 => ?_)
    · refine gk_goto (tgt := 1565) G dL_law_779 (by decide) ?_
      exact gk_lsub [2, 3, 4, 5, 6] rfl (K f734 u734 v746 _ _ (by omega) (by omega) hr734 hs746 hn746)
    · exact absurd (hK734.symm.trans c_764) (by decide)
  · exact absurd (hT752.trans hK734.symm) c_757
set_option maxRecDepth 100000 in
set_option maxHeartbeats 1000000 in
theorem lg_sackOn_ok {p : Program} {l : Launch} {e : Env} {s : State} {m : MethodId} {args : Array Value} {below : List Frame} {meth : Method} {c : Code} {D : va_G} {A : Nat → Prop} {Q : State → Prop} {cI cZ cJ : ClassId} {b L : Nat} {xs : Nat → Int32} (G : gk_G p s m args meth c RL 9 cL_law (some .boolean) wsL_law D (g_T cI cZ cJ) A) (hE : gl_F A s s.heap) (hl9 : l.stackTraces = false) (hX : va_X b L xs s s.heap) (hbl : b < s.heap.size) (hbA : ¬ A b) (hL : L ≤ 2048) {g h1 h2 o h : Nat} {q q2 q3 : Nat → Nat} {f : Nat → Int64} {u0 : gw_U} {v0 : gd_U} {M : gm_M} (wf : gm_wf M) (hrest : gm_rest M) (hh : M 9 0 < 1999000) (hr : gc_rep u0.1.1 u0.1.2 M) (hs : gr_st v0.1 v0.2.1 M) (hn : gr_now v0.2.2.1 M) {i cells slots : Nat} (hi : i + 4 ≤ L) (hc : cells ≤ 500000) (hsl : slots ≤ 7000000) (v : Nat) (hv : v < M 10 0) (hx1 : xs (i + 1) = nI v) (K : ∀ (f9 : Nat → Int64) (u9 : gw_U) (v9 : gd_U) (c9 s9 : Nat), c9 ≤ cells + 20 → s9 ≤ slots + 240 → gc_rep u9.1.1 u9.1.2 M → gr_st v9.1 v9.2.1 M → gr_now v9.2.2.1 M → gk_C p l e room_1 s m args below meth c 9 D A Q c9 s9 (gd_X cI h q3 v9 ++ (gw_O cJ o f9 ++ (gw_X cI cZ g h1 h2 q q2 u9))) [(4, .int (nI i)), (3, .ref o), (2, .ref h), (1, .ref g), (0, .ref b)] 1565 []) : gk_C p l e room_1 s m args below meth c 9 D A Q cells slots (gd_X cI h q3 v0 ++ (gw_O cJ o f ++ (gw_X cI cZ g h1 h2 q q2 u0))) [(4, .int (nI i)), (3, .ref o), (2, .ref h), (1, .ref g), (0, .ref b)] 726 [] := by
  refine gk_aload_n G dL_law_726 3 rfl ?_
  refine gk_aload_n G dL_law_727 4 rfl ?_
  refine gk_iload G dL_law_728 0 rfl ?_
  refine gk_iconst (v := nI 1) G dL_law_730 (by decide) ?_
  refine gk_iadd (v := nI (i + 1)) G dL_law_731 (nI_add i 1) ?_
  refine gk_sld (v := (nI v)) G hX hbl hbA (i + 1) rfl (by omega) (by omega) hx1 dL_law_732 ?_
  refine gk_aload_n G dL_law_733 1 rfl ?_
  refine gk_callISW (wr := gd_X cI h q3 v0) G (cl_sackOn_ok l D cI cZ cJ o f g h1 h2 q q2 u0 M v wf hr hv) gL_law_L_sackOn rfl 3 (by decide +kernel) rfl rfl ⟨(Nat.le_of_ble_eq_true rfl), (Nat.le_of_ble_eq_true rfl)⟩ rfl gl_Fok hE [8, 9, 10, 11, 12, 13, 14, 15, 16, 17, 18, 19, 20, 21, 22, 23, 24, 25, 26, 27, 28, 29] rfl (by decide) [0, 1, 2, 3, 4, 5, 6, 7] rfl (by decide) (by decide) rfl (Nat.le_of_ble_eq_true rfl) dL_law_734 ⟨(show cells + 0 ≤ 601024 by omega), (show slots + 0 ≤ 7293034 by omega)⟩ (fun r734 uu734 hp734 => ?_)
  obtain ⟨f734, u734⟩ := uu734
  have hK734 : r734 = nI 0 := hp734.1
  have hv734 : f734 0 = (gm_e (gm_who M v (M 11 0))).toInt64 := hp734.2.1
  have hr734 : gc_rep u734.1.1 u734.1.2 M := hp734.2.2
  show gk_C p l e room_1 s m args below meth c 9 D A Q (cells + 0) (slots + 0) (gd_X cI h q3 v0 ++ (gw_O cJ o f734 ++ (gw_X cI cZ g h1 h2 q q2 u734))) [(4, .int (nI i)), (3, .ref o), (2, .ref h), (1, .ref g), (0, .ref b)] 737 [.int r734]
  refine gk_istore (lv' := [(5, .int r734), (4, .int (nI i)), (3, .ref o), (2, .ref h), (1, .ref g), (0, .ref b)]) G dL_law_737 (by decide) rfl ?_
  refine gk_aload_n G dL_law_739 3 rfl ?_
  refine gk_aload_n G dL_law_740 5 rfl ?_
  refine gk_iload G dL_law_741 1 rfl ?_
  refine gk_iconst (v := nI 1) G dL_law_743 (by decide) ?_
  refine gk_iadd (v := nI (i + 1)) G dL_law_744 (nI_add i 1) ?_
  refine gk_sld (v := (nI v)) G hX hbl hbA (i + 1) rfl (by omega) (by omega) hx1 dL_law_745 ?_
  refine gk_callIV (wr := gw_O cJ o f734 ++ (gw_X cI cZ g h1 h2 q q2 u734)) G (c2_sackOn_ok l D cI cZ cJ h q3 v0.1 v0.2.1 v0.2.2.1 v0.2.2.2.1 v0.2.2.2.2 M v wf hs hn (by omega)) gL_law_X2_sackOn rfl 1 (by decide +kernel) rfl rfl ⟨(Nat.le_of_ble_eq_true rfl), (Nat.le_of_ble_eq_true rfl)⟩ rfl (q0 := 0) rfl (T := TX2) (N := 12) rfl gk_ok0 trivial [0, 1, 2, 3, 4, 5, 6, 7] rfl (by decide) [8, 9, 10, 11, 12, 13, 14, 15, 16, 17, 18, 19, 20, 21, 22, 23, 24, 25, 26, 27, 28, 29] rfl (by decide) (by decide) rfl (Nat.le_of_ble_eq_true rfl) dL_law_746 ⟨(show (cells + 0) + 0 ≤ 601024 by omega), (show (slots + 0) + 0 ≤ 7293034 by omega)⟩ (fun r746 v746 hp746 => ?_)
  have hR746 : r746 = gm_e (gm_who M v (M 11 0)) := hp746.1
  have hs746 : gr_st v746.1 v746.2.1 M := hp746.2.1
  have hn746 : gr_now v746.2.2.1 M := hp746.2.2.1
  have hF746 : v746.1 0 = nI 0 := hp746.2.2.2
  refine gk_wsub (w' := (gd_X cI h q3 v746 ++ (gw_O cJ o f734 ++ (gw_X cI cZ g h1 h2 q q2 u734)))) [22, 23, 24, 25, 26, 27, 28, 29, 0, 1, 2, 3, 4, 5, 6, 7, 8, 9, 10, 11, 12, 13, 14, 15, 16, 17, 18, 19, 20, 21] rfl (by decide) ?_
  show gk_C p l e room_1 s m args below meth c 9 D A Q ((cells + 0) + 0) ((slots + 0) + 0) (gd_X cI h q3 v746 ++ (gw_O cJ o f734 ++ (gw_X cI cZ g h1 h2 q q2 u734))) [(5, .int r734), (4, .int (nI i)), (3, .ref o), (2, .ref h), (1, .ref g), (0, .ref b)] 749 [.int r746]
  refine gk_istore (lv' := [(6, .int r746), (5, .int r734), (4, .int (nI i)), (3, .ref o), (2, .ref h), (1, .ref g), (0, .ref b)]) G dL_law_749 (by decide) rfl ?_
  refine gk_aload_n G dL_law_751 4 rfl ?_
  refine gk_callIV (wr := gw_O cJ o f734 ++ (gw_X cI cZ g h1 h2 q q2 u734)) G (c2_thrown l D cI cZ cJ h q3 v746.1 v746.2.1 v746.2.2.1 v746.2.2.2.1 v746.2.2.2.2 M) gL_law_X2_thrown rfl 0 (by decide +kernel) rfl rfl ⟨(Nat.le_of_ble_eq_true rfl), (Nat.le_of_ble_eq_true rfl)⟩ rfl (q0 := 0) rfl (T := TX2) (N := 12) rfl gk_ok0 trivial [0, 1, 2, 3, 4, 5, 6, 7] rfl (by decide) [8, 9, 10, 11, 12, 13, 14, 15, 16, 17, 18, 19, 20, 21, 22, 23, 24, 25, 26, 27, 28, 29] rfl (by decide) (by decide) rfl (Nat.le_of_ble_eq_true rfl) dL_law_752 ⟨(show ((cells + 0) + 0) + 0 ≤ 601024 by omega), (show ((slots + 0) + 0) + 0 ≤ 7293034 by omega)⟩ (fun r752 u752 hp752 => ?_)
  have hT752 : r752 = nI 0 := (show r752 = v746.1 0 from hp752).trans hF746
  refine gk_wsub (w' := (gd_X cI h q3 v746 ++ (gw_O cJ o f734 ++ (gw_X cI cZ g h1 h2 q q2 u734)))) [22, 23, 24, 25, 26, 27, 28, 29, 0, 1, 2, 3, 4, 5, 6, 7, 8, 9, 10, 11, 12, 13, 14, 15, 16, 17, 18, 19, 20, 21] rfl (by decide) ?_
  show gk_C p l e room_1 s m args below meth c 9 D A Q (((cells + 0) + 0) + 0) (((slots + 0) + 0) + 0) (gd_X cI h q3 v746 ++ (gw_O cJ o f734 ++ (gw_X cI cZ g h1 h2 q q2 u734))) [(6, .int r746), (5, .int r734), (4, .int (nI i)), (3, .ref o), (2, .ref h), (1, .ref g), (0, .ref b)] 755 [.int r752]
  refine gk_iload G dL_law_755 1 rfl ?_
  refine gk_icmp_eq (tgt := 762) G dL_law_757 (by decide) (fun c_757 => ?_) (fun c_757 => ?_)
  · refine gk_iload G dL_law_762 1 rfl ?_
    refine gk_if_ne (tgt := 779) G dL_law_764 (by decide) (fun c_764 => ?_) (fun c_764 => ?_)
    · exact absurd (hK734.trans nI_0) c_764
    · refine gk_aload_n G dL_law_767 3 rfl ?_
      refine gk_iconst (v := nI 0) G dL_law_768 (by decide) ?_
      refine gk_lald (v := f734 0) G (q0 := 8) (t0 := 2) rfl rfl 0 rfl (by decide) (by decide) rfl dL_law_769 ?_
      refine gk_iload G dL_law_770 0 rfl ?_
      refine gk_i2l (v := (r746).toInt64) G dL_law_772 rfl ?_
      refine gk_lcmp G dL_law_773 ?_
      refine gk_if_eq (tgt := 779) G dL_law_774 (by decide) (fun c_774 => ?_) (fun c_774 => ?_)
      · refine gk_goto (tgt := 1565) G dL_law_779 (by decide) ?_
        exact gk_lsub [2, 3, 4, 5, 6] rfl (K f734 u734 v746 _ _ (by omega) (by omega) hr734 hs746 hn746)
      · exact absurd (gl_cmp (hv734.trans (congrArg Int32.toInt64 hR746).symm)) c_774
  · exact absurd (hT752.trans hK734.symm) c_757
set_option maxRecDepth 100000 in
set_option maxHeartbeats 1000000 in
theorem lg_stoneOf_no {p : Program} {l : Launch} {e : Env} {s : State} {m : MethodId} {args : Array Value} {below : List Frame} {meth : Method} {c : Code} {D : va_G} {A : Nat → Prop} {Q : State → Prop} {cI cZ cJ : ClassId} {b L : Nat} {xs : Nat → Int32} (G : gk_G p s m args meth c RL 9 cL_law (some .boolean) wsL_law D (g_T cI cZ cJ) A) (hE : gl_F A s s.heap) (hl9 : l.stackTraces = false) (hX : va_X b L xs s s.heap) (hbl : b < s.heap.size) (hbA : ¬ A b) (hL : L ≤ 2048) {g h1 h2 o h : Nat} {q q2 q3 : Nat → Nat} {f : Nat → Int64} {u0 : gw_U} {v0 : gd_U} {M : gm_M} (wf : gm_wf M) (hrest : gm_rest M) (hh : M 9 0 < 1999000) (hr : gc_rep u0.1.1 u0.1.2 M) (hs : gr_st v0.1 v0.2.1 M) (hn : gr_now v0.2.2.1 M) {i cells slots : Nat} (hi : i + 4 ≤ L) (hc : cells ≤ 500000) (hsl : slots ≤ 7000000) (p0 : Int32) (hb : ¬ gm_rg p0 0 (M 11 0)) (hx1 : xs (i + 1) = p0) (K : ∀ (f9 : Nat → Int64) (u9 : gw_U) (v9 : gd_U) (c9 s9 : Nat), c9 ≤ cells + 20 → s9 ≤ slots + 240 → gc_rep u9.1.1 u9.1.2 M → gr_st v9.1 v9.2.1 M → gr_now v9.2.2.1 M → gk_C p l e room_1 s m args below meth c 9 D A Q c9 s9 (gd_X cI h q3 v9 ++ (gw_O cJ o f9 ++ (gw_X cI cZ g h1 h2 q q2 u9))) [(4, .int (nI i)), (3, .ref o), (2, .ref h), (1, .ref g), (0, .ref b)] 1565 []) : gk_C p l e room_1 s m args below meth c 9 D A Q cells slots (gd_X cI h q3 v0 ++ (gw_O cJ o f ++ (gw_X cI cZ g h1 h2 q q2 u0))) [(4, .int (nI i)), (3, .ref o), (2, .ref h), (1, .ref g), (0, .ref b)] 782 [] := by
  refine gk_aload_n G dL_law_782 3 rfl ?_
  refine gk_aload_n G dL_law_783 4 rfl ?_
  refine gk_iload G dL_law_784 0 rfl ?_
  refine gk_iconst (v := nI 1) G dL_law_786 (by decide) ?_
  refine gk_iadd (v := nI (i + 1)) G dL_law_787 (nI_add i 1) ?_
  refine gk_sld (v := p0) G hX hbl hbA (i + 1) rfl (by omega) (by omega) hx1 dL_law_788 ?_
  refine gk_aload_n G dL_law_789 1 rfl ?_
  refine gk_callISW (wr := gd_X cI h q3 v0) G (cl_stoneOf_no l D cI cZ cJ o f g h1 h2 q q2 u0 M hl9 p0 wf hr hb) gL_law_L_stoneOf rfl 3 (by decide +kernel) rfl rfl ⟨(Nat.le_of_ble_eq_true rfl), (Nat.le_of_ble_eq_true rfl)⟩ rfl gl_Fok hE [8, 9, 10, 11, 12, 13, 14, 15, 16, 17, 18, 19, 20, 21, 22, 23, 24, 25, 26, 27, 28, 29] rfl (by decide) [0, 1, 2, 3, 4, 5, 6, 7] rfl (by decide) (by decide) rfl (Nat.le_of_ble_eq_true rfl) dL_law_790 ⟨(show cells + 1 ≤ 601024 by omega), (show slots + 6 ≤ 7293034 by omega)⟩ (fun r790 uu790 hp790 => ?_)
  obtain ⟨f790, u790⟩ := uu790
  have hK790 : r790 = nI 1 := hp790.1
  have hr790 : gc_rep u790.1.1 u790.1.2 M := hp790.2
  show gk_C p l e room_1 s m args below meth c 9 D A Q (cells + 1) (slots + 6) (gd_X cI h q3 v0 ++ (gw_O cJ o f790 ++ (gw_X cI cZ g h1 h2 q q2 u790))) [(4, .int (nI i)), (3, .ref o), (2, .ref h), (1, .ref g), (0, .ref b)] 793 [.int r790]
  refine gk_istore (lv' := [(5, .int r790), (4, .int (nI i)), (3, .ref o), (2, .ref h), (1, .ref g), (0, .ref b)]) G dL_law_793 (by decide) rfl ?_
  refine gk_aload_n G dL_law_795 3 rfl ?_
  refine gk_aload_n G dL_law_796 5 rfl ?_
  refine gk_iload G dL_law_797 1 rfl ?_
  refine gk_iconst (v := nI 1) G dL_law_799 (by decide) ?_
  refine gk_iadd (v := nI (i + 1)) G dL_law_800 (nI_add i 1) ?_
  refine gk_sld (v := p0) G hX hbl hbA (i + 1) rfl (by omega) (by omega) hx1 dL_law_801 ?_
  refine gk_callIV (wr := gw_O cJ o f790 ++ (gw_X cI cZ g h1 h2 q q2 u790)) G (c2_stoneOf_no l D cI cZ cJ h q3 v0.1 v0.2.1 v0.2.2.1 v0.2.2.2.1 v0.2.2.2.2 M p0 wf hs hn hb) gL_law_X2_stoneOf rfl 1 (by decide +kernel) rfl rfl ⟨(Nat.le_of_ble_eq_true rfl), (Nat.le_of_ble_eq_true rfl)⟩ rfl (q0 := 0) rfl (T := TX2) (N := 12) rfl gk_ok0 trivial [0, 1, 2, 3, 4, 5, 6, 7] rfl (by decide) [8, 9, 10, 11, 12, 13, 14, 15, 16, 17, 18, 19, 20, 21, 22, 23, 24, 25, 26, 27, 28, 29] rfl (by decide) (by decide) rfl (Nat.le_of_ble_eq_true rfl) dL_law_802 ⟨(show (cells + 1) + 0 ≤ 601024 by omega), (show (slots + 6) + 0 ≤ 7293034 by omega)⟩ (fun r802 v802 hp802 => ?_)
  have hR802 : r802 = nI 0 := hp802.1
  have hs802 : gr_st v802.1 v802.2.1 M := hp802.2.1
  have hn802 : gr_now v802.2.2.1 M := hp802.2.2.1
  have hF802 : v802.1 0 = nI 1 := hp802.2.2.2
  refine gk_wsub (w' := (gd_X cI h q3 v802 ++ (gw_O cJ o f790 ++ (gw_X cI cZ g h1 h2 q q2 u790)))) [22, 23, 24, 25, 26, 27, 28, 29, 0, 1, 2, 3, 4, 5, 6, 7, 8, 9, 10, 11, 12, 13, 14, 15, 16, 17, 18, 19, 20, 21] rfl (by decide) ?_
  show gk_C p l e room_1 s m args below meth c 9 D A Q ((cells + 1) + 0) ((slots + 6) + 0) (gd_X cI h q3 v802 ++ (gw_O cJ o f790 ++ (gw_X cI cZ g h1 h2 q q2 u790))) [(5, .int r790), (4, .int (nI i)), (3, .ref o), (2, .ref h), (1, .ref g), (0, .ref b)] 805 [.int r802]
  refine gk_istore (lv' := [(6, .int r802), (5, .int r790), (4, .int (nI i)), (3, .ref o), (2, .ref h), (1, .ref g), (0, .ref b)]) G dL_law_805 (by decide) rfl ?_
  refine gk_aload_n G dL_law_807 4 rfl ?_
  refine gk_callIV (wr := gw_O cJ o f790 ++ (gw_X cI cZ g h1 h2 q q2 u790)) G (c2_thrown l D cI cZ cJ h q3 v802.1 v802.2.1 v802.2.2.1 v802.2.2.2.1 v802.2.2.2.2 M) gL_law_X2_thrown rfl 0 (by decide +kernel) rfl rfl ⟨(Nat.le_of_ble_eq_true rfl), (Nat.le_of_ble_eq_true rfl)⟩ rfl (q0 := 0) rfl (T := TX2) (N := 12) rfl gk_ok0 trivial [0, 1, 2, 3, 4, 5, 6, 7] rfl (by decide) [8, 9, 10, 11, 12, 13, 14, 15, 16, 17, 18, 19, 20, 21, 22, 23, 24, 25, 26, 27, 28, 29] rfl (by decide) (by decide) rfl (Nat.le_of_ble_eq_true rfl) dL_law_808 ⟨(show ((cells + 1) + 0) + 0 ≤ 601024 by omega), (show ((slots + 6) + 0) + 0 ≤ 7293034 by omega)⟩ (fun r808 u808 hp808 => ?_)
  have hT808 : r808 = nI 1 := (show r808 = v802.1 0 from hp808).trans hF802
  refine gk_wsub (w' := (gd_X cI h q3 v802 ++ (gw_O cJ o f790 ++ (gw_X cI cZ g h1 h2 q q2 u790)))) [22, 23, 24, 25, 26, 27, 28, 29, 0, 1, 2, 3, 4, 5, 6, 7, 8, 9, 10, 11, 12, 13, 14, 15, 16, 17, 18, 19, 20, 21] rfl (by decide) ?_
  show gk_C p l e room_1 s m args below meth c 9 D A Q (((cells + 1) + 0) + 0) (((slots + 6) + 0) + 0) (gd_X cI h q3 v802 ++ (gw_O cJ o f790 ++ (gw_X cI cZ g h1 h2 q q2 u790))) [(6, .int r802), (5, .int r790), (4, .int (nI i)), (3, .ref o), (2, .ref h), (1, .ref g), (0, .ref b)] 811 [.int r808]
  refine gk_iload G dL_law_811 1 rfl ?_
  refine gk_icmp_eq (tgt := 818) G dL_law_813 (by decide) (fun c_813 => ?_) (fun c_813 => ?_)
  · refine gk_iload G dL_law_818 1 rfl ?_
    refine gk_if_ne (tgt := 835) G dL_law_820 (by decide) (fun c_820 => ?_) (fun c_820 => ?_)
    · refine gk_goto (tgt := 1565) G dL_law_835 (by decide) ?_
      exact gk_lsub [2, 3, 4, 5, 6] rfl (K f790 u790 v802 _ _ (by omega) (by omega) hr790 hs802 hn802)
    · exact absurd (hK790.symm.trans c_820) (by decide)
  · exact absurd (hT808.trans hK790.symm) c_813
set_option maxRecDepth 100000 in
set_option maxHeartbeats 1000000 in
theorem lg_stoneOf_ok {p : Program} {l : Launch} {e : Env} {s : State} {m : MethodId} {args : Array Value} {below : List Frame} {meth : Method} {c : Code} {D : va_G} {A : Nat → Prop} {Q : State → Prop} {cI cZ cJ : ClassId} {b L : Nat} {xs : Nat → Int32} (G : gk_G p s m args meth c RL 9 cL_law (some .boolean) wsL_law D (g_T cI cZ cJ) A) (hE : gl_F A s s.heap) (hl9 : l.stackTraces = false) (hX : va_X b L xs s s.heap) (hbl : b < s.heap.size) (hbA : ¬ A b) (hL : L ≤ 2048) {g h1 h2 o h : Nat} {q q2 q3 : Nat → Nat} {f : Nat → Int64} {u0 : gw_U} {v0 : gd_U} {M : gm_M} (wf : gm_wf M) (hrest : gm_rest M) (hh : M 9 0 < 1999000) (hr : gc_rep u0.1.1 u0.1.2 M) (hs : gr_st v0.1 v0.2.1 M) (hn : gr_now v0.2.2.1 M) {i cells slots : Nat} (hi : i + 4 ≤ L) (hc : cells ≤ 500000) (hsl : slots ≤ 7000000) (v : Nat) (hv : v < M 11 0) (hx1 : xs (i + 1) = nI v) (K : ∀ (f9 : Nat → Int64) (u9 : gw_U) (v9 : gd_U) (c9 s9 : Nat), c9 ≤ cells + 20 → s9 ≤ slots + 240 → gc_rep u9.1.1 u9.1.2 M → gr_st v9.1 v9.2.1 M → gr_now v9.2.2.1 M → gk_C p l e room_1 s m args below meth c 9 D A Q c9 s9 (gd_X cI h q3 v9 ++ (gw_O cJ o f9 ++ (gw_X cI cZ g h1 h2 q q2 u9))) [(4, .int (nI i)), (3, .ref o), (2, .ref h), (1, .ref g), (0, .ref b)] 1565 []) : gk_C p l e room_1 s m args below meth c 9 D A Q cells slots (gd_X cI h q3 v0 ++ (gw_O cJ o f ++ (gw_X cI cZ g h1 h2 q q2 u0))) [(4, .int (nI i)), (3, .ref o), (2, .ref h), (1, .ref g), (0, .ref b)] 782 [] := by
  refine gk_aload_n G dL_law_782 3 rfl ?_
  refine gk_aload_n G dL_law_783 4 rfl ?_
  refine gk_iload G dL_law_784 0 rfl ?_
  refine gk_iconst (v := nI 1) G dL_law_786 (by decide) ?_
  refine gk_iadd (v := nI (i + 1)) G dL_law_787 (nI_add i 1) ?_
  refine gk_sld (v := (nI v)) G hX hbl hbA (i + 1) rfl (by omega) (by omega) hx1 dL_law_788 ?_
  refine gk_aload_n G dL_law_789 1 rfl ?_
  refine gk_callISW (wr := gd_X cI h q3 v0) G (cl_stoneOf_ok l D cI cZ cJ o f g h1 h2 q q2 u0 M v wf hr hv) gL_law_L_stoneOf rfl 3 (by decide +kernel) rfl rfl ⟨(Nat.le_of_ble_eq_true rfl), (Nat.le_of_ble_eq_true rfl)⟩ rfl gl_Fok hE [8, 9, 10, 11, 12, 13, 14, 15, 16, 17, 18, 19, 20, 21, 22, 23, 24, 25, 26, 27, 28, 29] rfl (by decide) [0, 1, 2, 3, 4, 5, 6, 7] rfl (by decide) (by decide) rfl (Nat.le_of_ble_eq_true rfl) dL_law_790 ⟨(show cells + 0 ≤ 601024 by omega), (show slots + 0 ≤ 7293034 by omega)⟩ (fun r790 uu790 hp790 => ?_)
  obtain ⟨f790, u790⟩ := uu790
  have hK790 : r790 = nI 0 := hp790.1
  have hv790 : f790 0 = (gm_e (M 7 v)).toInt64 := hp790.2.1
  have hr790 : gc_rep u790.1.1 u790.1.2 M := hp790.2.2
  show gk_C p l e room_1 s m args below meth c 9 D A Q (cells + 0) (slots + 0) (gd_X cI h q3 v0 ++ (gw_O cJ o f790 ++ (gw_X cI cZ g h1 h2 q q2 u790))) [(4, .int (nI i)), (3, .ref o), (2, .ref h), (1, .ref g), (0, .ref b)] 793 [.int r790]
  refine gk_istore (lv' := [(5, .int r790), (4, .int (nI i)), (3, .ref o), (2, .ref h), (1, .ref g), (0, .ref b)]) G dL_law_793 (by decide) rfl ?_
  refine gk_aload_n G dL_law_795 3 rfl ?_
  refine gk_aload_n G dL_law_796 5 rfl ?_
  refine gk_iload G dL_law_797 1 rfl ?_
  refine gk_iconst (v := nI 1) G dL_law_799 (by decide) ?_
  refine gk_iadd (v := nI (i + 1)) G dL_law_800 (nI_add i 1) ?_
  refine gk_sld (v := (nI v)) G hX hbl hbA (i + 1) rfl (by omega) (by omega) hx1 dL_law_801 ?_
  refine gk_callIV (wr := gw_O cJ o f790 ++ (gw_X cI cZ g h1 h2 q q2 u790)) G (c2_stoneOf_ok l D cI cZ cJ h q3 v0.1 v0.2.1 v0.2.2.1 v0.2.2.2.1 v0.2.2.2.2 M v wf hs hn (by omega)) gL_law_X2_stoneOf rfl 1 (by decide +kernel) rfl rfl ⟨(Nat.le_of_ble_eq_true rfl), (Nat.le_of_ble_eq_true rfl)⟩ rfl (q0 := 0) rfl (T := TX2) (N := 12) rfl gk_ok0 trivial [0, 1, 2, 3, 4, 5, 6, 7] rfl (by decide) [8, 9, 10, 11, 12, 13, 14, 15, 16, 17, 18, 19, 20, 21, 22, 23, 24, 25, 26, 27, 28, 29] rfl (by decide) (by decide) rfl (Nat.le_of_ble_eq_true rfl) dL_law_802 ⟨(show (cells + 0) + 0 ≤ 601024 by omega), (show (slots + 0) + 0 ≤ 7293034 by omega)⟩ (fun r802 v802 hp802 => ?_)
  have hR802 : r802 = gm_e (M 7 v) := hp802.1
  have hs802 : gr_st v802.1 v802.2.1 M := hp802.2.1
  have hn802 : gr_now v802.2.2.1 M := hp802.2.2.1
  have hF802 : v802.1 0 = nI 0 := hp802.2.2.2
  refine gk_wsub (w' := (gd_X cI h q3 v802 ++ (gw_O cJ o f790 ++ (gw_X cI cZ g h1 h2 q q2 u790)))) [22, 23, 24, 25, 26, 27, 28, 29, 0, 1, 2, 3, 4, 5, 6, 7, 8, 9, 10, 11, 12, 13, 14, 15, 16, 17, 18, 19, 20, 21] rfl (by decide) ?_
  show gk_C p l e room_1 s m args below meth c 9 D A Q ((cells + 0) + 0) ((slots + 0) + 0) (gd_X cI h q3 v802 ++ (gw_O cJ o f790 ++ (gw_X cI cZ g h1 h2 q q2 u790))) [(5, .int r790), (4, .int (nI i)), (3, .ref o), (2, .ref h), (1, .ref g), (0, .ref b)] 805 [.int r802]
  refine gk_istore (lv' := [(6, .int r802), (5, .int r790), (4, .int (nI i)), (3, .ref o), (2, .ref h), (1, .ref g), (0, .ref b)]) G dL_law_805 (by decide) rfl ?_
  refine gk_aload_n G dL_law_807 4 rfl ?_
  refine gk_callIV (wr := gw_O cJ o f790 ++ (gw_X cI cZ g h1 h2 q q2 u790)) G (c2_thrown l D cI cZ cJ h q3 v802.1 v802.2.1 v802.2.2.1 v802.2.2.2.1 v802.2.2.2.2 M) gL_law_X2_thrown rfl 0 (by decide +kernel) rfl rfl ⟨(Nat.le_of_ble_eq_true rfl), (Nat.le_of_ble_eq_true rfl)⟩ rfl (q0 := 0) rfl (T := TX2) (N := 12) rfl gk_ok0 trivial [0, 1, 2, 3, 4, 5, 6, 7] rfl (by decide) [8, 9, 10, 11, 12, 13, 14, 15, 16, 17, 18, 19, 20, 21, 22, 23, 24, 25, 26, 27, 28, 29] rfl (by decide) (by decide) rfl (Nat.le_of_ble_eq_true rfl) dL_law_808 ⟨(show ((cells + 0) + 0) + 0 ≤ 601024 by omega), (show ((slots + 0) + 0) + 0 ≤ 7293034 by omega)⟩ (fun r808 u808 hp808 => ?_)
  have hT808 : r808 = nI 0 := (show r808 = v802.1 0 from hp808).trans hF802
  refine gk_wsub (w' := (gd_X cI h q3 v802 ++ (gw_O cJ o f790 ++ (gw_X cI cZ g h1 h2 q q2 u790)))) [22, 23, 24, 25, 26, 27, 28, 29, 0, 1, 2, 3, 4, 5, 6, 7, 8, 9, 10, 11, 12, 13, 14, 15, 16, 17, 18, 19, 20, 21] rfl (by decide) ?_
  show gk_C p l e room_1 s m args below meth c 9 D A Q (((cells + 0) + 0) + 0) (((slots + 0) + 0) + 0) (gd_X cI h q3 v802 ++ (gw_O cJ o f790 ++ (gw_X cI cZ g h1 h2 q q2 u790))) [(6, .int r802), (5, .int r790), (4, .int (nI i)), (3, .ref o), (2, .ref h), (1, .ref g), (0, .ref b)] 811 [.int r808]
  refine gk_iload G dL_law_811 1 rfl ?_
  refine gk_icmp_eq (tgt := 818) G dL_law_813 (by decide) (fun c_813 => ?_) (fun c_813 => ?_)
  · refine gk_iload G dL_law_818 1 rfl ?_
    refine gk_if_ne (tgt := 835) G dL_law_820 (by decide) (fun c_820 => ?_) (fun c_820 => ?_)
    · exact absurd (hK790.trans nI_0) c_820
    · refine gk_aload_n G dL_law_823 3 rfl ?_
      refine gk_iconst (v := nI 0) G dL_law_824 (by decide) ?_
      refine gk_lald (v := f790 0) G (q0 := 8) (t0 := 2) rfl rfl 0 rfl (by decide) (by decide) rfl dL_law_825 ?_
      refine gk_iload G dL_law_826 0 rfl ?_
      refine gk_i2l (v := (r802).toInt64) G dL_law_828 rfl ?_
      refine gk_lcmp G dL_law_829 ?_
      refine gk_if_eq (tgt := 835) G dL_law_830 (by decide) (fun c_830 => ?_) (fun c_830 => ?_)
      · refine gk_goto (tgt := 1565) G dL_law_835 (by decide) ?_
        exact gk_lsub [2, 3, 4, 5, 6] rfl (K f790 u790 v802 _ _ (by omega) (by omega) hr790 hs802 hn802)
      · exact absurd (gl_cmp (hv790.trans (congrArg Int32.toInt64 hR802).symm)) c_830
  · exact absurd (hT808.trans hK790.symm) c_813
set_option maxRecDepth 100000 in
set_option maxHeartbeats 1000000 in
theorem lg_leftOf_no {p : Program} {l : Launch} {e : Env} {s : State} {m : MethodId} {args : Array Value} {below : List Frame} {meth : Method} {c : Code} {D : va_G} {A : Nat → Prop} {Q : State → Prop} {cI cZ cJ : ClassId} {b L : Nat} {xs : Nat → Int32} (G : gk_G p s m args meth c RL 9 cL_law (some .boolean) wsL_law D (g_T cI cZ cJ) A) (hE : gl_F A s s.heap) (hl9 : l.stackTraces = false) (hX : va_X b L xs s s.heap) (hbl : b < s.heap.size) (hbA : ¬ A b) (hL : L ≤ 2048) {g h1 h2 o h : Nat} {q q2 q3 : Nat → Nat} {f : Nat → Int64} {u0 : gw_U} {v0 : gd_U} {M : gm_M} (wf : gm_wf M) (hrest : gm_rest M) (hh : M 9 0 < 1999000) (hr : gc_rep u0.1.1 u0.1.2 M) (hs : gr_st v0.1 v0.2.1 M) (hn : gr_now v0.2.2.1 M) {i cells slots : Nat} (hi : i + 4 ≤ L) (hc : cells ≤ 500000) (hsl : slots ≤ 7000000) (p0 : Int32) (hb : ¬ gm_rg p0 0 (M 11 0)) (hx1 : xs (i + 1) = p0) (K : ∀ (f9 : Nat → Int64) (u9 : gw_U) (v9 : gd_U) (c9 s9 : Nat), c9 ≤ cells + 20 → s9 ≤ slots + 240 → gc_rep u9.1.1 u9.1.2 M → gr_st v9.1 v9.2.1 M → gr_now v9.2.2.1 M → gk_C p l e room_1 s m args below meth c 9 D A Q c9 s9 (gd_X cI h q3 v9 ++ (gw_O cJ o f9 ++ (gw_X cI cZ g h1 h2 q q2 u9))) [(4, .int (nI i)), (3, .ref o), (2, .ref h), (1, .ref g), (0, .ref b)] 1565 []) : gk_C p l e room_1 s m args below meth c 9 D A Q cells slots (gd_X cI h q3 v0 ++ (gw_O cJ o f ++ (gw_X cI cZ g h1 h2 q q2 u0))) [(4, .int (nI i)), (3, .ref o), (2, .ref h), (1, .ref g), (0, .ref b)] 838 [] := by
  refine gk_aload_n G dL_law_838 3 rfl ?_
  refine gk_aload_n G dL_law_839 4 rfl ?_
  refine gk_iload G dL_law_840 0 rfl ?_
  refine gk_iconst (v := nI 1) G dL_law_842 (by decide) ?_
  refine gk_iadd (v := nI (i + 1)) G dL_law_843 (nI_add i 1) ?_
  refine gk_sld (v := p0) G hX hbl hbA (i + 1) rfl (by omega) (by omega) hx1 dL_law_844 ?_
  refine gk_aload_n G dL_law_845 1 rfl ?_
  refine gk_callISW (wr := gd_X cI h q3 v0) G (cl_leftOf_no l D cI cZ cJ o f g h1 h2 q q2 u0 M hl9 p0 wf hr hb) gL_law_L_leftOf rfl 3 (by decide +kernel) rfl rfl ⟨(Nat.le_of_ble_eq_true rfl), (Nat.le_of_ble_eq_true rfl)⟩ rfl gl_Fok hE [8, 9, 10, 11, 12, 13, 14, 15, 16, 17, 18, 19, 20, 21, 22, 23, 24, 25, 26, 27, 28, 29] rfl (by decide) [0, 1, 2, 3, 4, 5, 6, 7] rfl (by decide) (by decide) rfl (Nat.le_of_ble_eq_true rfl) dL_law_846 ⟨(show cells + 1 ≤ 601024 by omega), (show slots + 6 ≤ 7293034 by omega)⟩ (fun r846 uu846 hp846 => ?_)
  obtain ⟨f846, u846⟩ := uu846
  have hK846 : r846 = nI 1 := hp846.1
  have hr846 : gc_rep u846.1.1 u846.1.2 M := hp846.2
  show gk_C p l e room_1 s m args below meth c 9 D A Q (cells + 1) (slots + 6) (gd_X cI h q3 v0 ++ (gw_O cJ o f846 ++ (gw_X cI cZ g h1 h2 q q2 u846))) [(4, .int (nI i)), (3, .ref o), (2, .ref h), (1, .ref g), (0, .ref b)] 849 [.int r846]
  refine gk_istore (lv' := [(5, .int r846), (4, .int (nI i)), (3, .ref o), (2, .ref h), (1, .ref g), (0, .ref b)]) G dL_law_849 (by decide) rfl ?_
  refine gk_aload_n G dL_law_851 3 rfl ?_
  refine gk_aload_n G dL_law_852 5 rfl ?_
  refine gk_iload G dL_law_853 1 rfl ?_
  refine gk_iconst (v := nI 1) G dL_law_855 (by decide) ?_
  refine gk_iadd (v := nI (i + 1)) G dL_law_856 (nI_add i 1) ?_
  refine gk_sld (v := p0) G hX hbl hbA (i + 1) rfl (by omega) (by omega) hx1 dL_law_857 ?_
  refine gk_callIV (wr := gw_O cJ o f846 ++ (gw_X cI cZ g h1 h2 q q2 u846)) G (c2_leftOf_no l D cI cZ cJ h q3 v0.1 v0.2.1 v0.2.2.1 v0.2.2.2.1 v0.2.2.2.2 M p0 wf hs hn hb) gL_law_X2_leftOf rfl 1 (by decide +kernel) rfl rfl ⟨(Nat.le_of_ble_eq_true rfl), (Nat.le_of_ble_eq_true rfl)⟩ rfl (q0 := 0) rfl (T := TX2) (N := 12) rfl gk_ok0 trivial [0, 1, 2, 3, 4, 5, 6, 7] rfl (by decide) [8, 9, 10, 11, 12, 13, 14, 15, 16, 17, 18, 19, 20, 21, 22, 23, 24, 25, 26, 27, 28, 29] rfl (by decide) (by decide) rfl (Nat.le_of_ble_eq_true rfl) dL_law_858 ⟨(show (cells + 1) + 0 ≤ 601024 by omega), (show (slots + 6) + 0 ≤ 7293034 by omega)⟩ (fun r858 v858 hp858 => ?_)
  have hR858 : r858 = nI 0 := hp858.1
  have hs858 : gr_st v858.1 v858.2.1 M := hp858.2.1
  have hn858 : gr_now v858.2.2.1 M := hp858.2.2.1
  have hF858 : v858.1 0 = nI 1 := hp858.2.2.2
  refine gk_wsub (w' := (gd_X cI h q3 v858 ++ (gw_O cJ o f846 ++ (gw_X cI cZ g h1 h2 q q2 u846)))) [22, 23, 24, 25, 26, 27, 28, 29, 0, 1, 2, 3, 4, 5, 6, 7, 8, 9, 10, 11, 12, 13, 14, 15, 16, 17, 18, 19, 20, 21] rfl (by decide) ?_
  show gk_C p l e room_1 s m args below meth c 9 D A Q ((cells + 1) + 0) ((slots + 6) + 0) (gd_X cI h q3 v858 ++ (gw_O cJ o f846 ++ (gw_X cI cZ g h1 h2 q q2 u846))) [(5, .int r846), (4, .int (nI i)), (3, .ref o), (2, .ref h), (1, .ref g), (0, .ref b)] 861 [.int r858]
  refine gk_istore (lv' := [(6, .int r858), (5, .int r846), (4, .int (nI i)), (3, .ref o), (2, .ref h), (1, .ref g), (0, .ref b)]) G dL_law_861 (by decide) rfl ?_
  refine gk_aload_n G dL_law_863 4 rfl ?_
  refine gk_callIV (wr := gw_O cJ o f846 ++ (gw_X cI cZ g h1 h2 q q2 u846)) G (c2_thrown l D cI cZ cJ h q3 v858.1 v858.2.1 v858.2.2.1 v858.2.2.2.1 v858.2.2.2.2 M) gL_law_X2_thrown rfl 0 (by decide +kernel) rfl rfl ⟨(Nat.le_of_ble_eq_true rfl), (Nat.le_of_ble_eq_true rfl)⟩ rfl (q0 := 0) rfl (T := TX2) (N := 12) rfl gk_ok0 trivial [0, 1, 2, 3, 4, 5, 6, 7] rfl (by decide) [8, 9, 10, 11, 12, 13, 14, 15, 16, 17, 18, 19, 20, 21, 22, 23, 24, 25, 26, 27, 28, 29] rfl (by decide) (by decide) rfl (Nat.le_of_ble_eq_true rfl) dL_law_864 ⟨(show ((cells + 1) + 0) + 0 ≤ 601024 by omega), (show ((slots + 6) + 0) + 0 ≤ 7293034 by omega)⟩ (fun r864 u864 hp864 => ?_)
  have hT864 : r864 = nI 1 := (show r864 = v858.1 0 from hp864).trans hF858
  refine gk_wsub (w' := (gd_X cI h q3 v858 ++ (gw_O cJ o f846 ++ (gw_X cI cZ g h1 h2 q q2 u846)))) [22, 23, 24, 25, 26, 27, 28, 29, 0, 1, 2, 3, 4, 5, 6, 7, 8, 9, 10, 11, 12, 13, 14, 15, 16, 17, 18, 19, 20, 21] rfl (by decide) ?_
  show gk_C p l e room_1 s m args below meth c 9 D A Q (((cells + 1) + 0) + 0) (((slots + 6) + 0) + 0) (gd_X cI h q3 v858 ++ (gw_O cJ o f846 ++ (gw_X cI cZ g h1 h2 q q2 u846))) [(6, .int r858), (5, .int r846), (4, .int (nI i)), (3, .ref o), (2, .ref h), (1, .ref g), (0, .ref b)] 867 [.int r864]
  refine gk_iload G dL_law_867 1 rfl ?_
  refine gk_icmp_eq (tgt := 874) G dL_law_869 (by decide) (fun c_869 => ?_) (fun c_869 => ?_)
  · refine gk_iload G dL_law_874 1 rfl ?_
    refine gk_if_ne (tgt := 891) G dL_law_876 (by decide) (fun c_876 => ?_) (fun c_876 => ?_)
    · refine gk_goto (tgt := 1565) G dL_law_891 (by decide) ?_
      exact gk_lsub [2, 3, 4, 5, 6] rfl (K f846 u846 v858 _ _ (by omega) (by omega) hr846 hs858 hn858)
    · exact absurd (hK846.symm.trans c_876) (by decide)
  · exact absurd (hT864.trans hK846.symm) c_869
set_option maxRecDepth 100000 in
set_option maxHeartbeats 1000000 in
theorem lg_leftOf_ok {p : Program} {l : Launch} {e : Env} {s : State} {m : MethodId} {args : Array Value} {below : List Frame} {meth : Method} {c : Code} {D : va_G} {A : Nat → Prop} {Q : State → Prop} {cI cZ cJ : ClassId} {b L : Nat} {xs : Nat → Int32} (G : gk_G p s m args meth c RL 9 cL_law (some .boolean) wsL_law D (g_T cI cZ cJ) A) (hE : gl_F A s s.heap) (hl9 : l.stackTraces = false) (hX : va_X b L xs s s.heap) (hbl : b < s.heap.size) (hbA : ¬ A b) (hL : L ≤ 2048) {g h1 h2 o h : Nat} {q q2 q3 : Nat → Nat} {f : Nat → Int64} {u0 : gw_U} {v0 : gd_U} {M : gm_M} (wf : gm_wf M) (hrest : gm_rest M) (hh : M 9 0 < 1999000) (hr : gc_rep u0.1.1 u0.1.2 M) (hs : gr_st v0.1 v0.2.1 M) (hn : gr_now v0.2.2.1 M) {i cells slots : Nat} (hi : i + 4 ≤ L) (hc : cells ≤ 500000) (hsl : slots ≤ 7000000) (v : Nat) (hv : v < M 11 0) (hx1 : xs (i + 1) = nI v) (K : ∀ (f9 : Nat → Int64) (u9 : gw_U) (v9 : gd_U) (c9 s9 : Nat), c9 ≤ cells + 20 → s9 ≤ slots + 240 → gc_rep u9.1.1 u9.1.2 M → gr_st v9.1 v9.2.1 M → gr_now v9.2.2.1 M → gk_C p l e room_1 s m args below meth c 9 D A Q c9 s9 (gd_X cI h q3 v9 ++ (gw_O cJ o f9 ++ (gw_X cI cZ g h1 h2 q q2 u9))) [(4, .int (nI i)), (3, .ref o), (2, .ref h), (1, .ref g), (0, .ref b)] 1565 []) : gk_C p l e room_1 s m args below meth c 9 D A Q cells slots (gd_X cI h q3 v0 ++ (gw_O cJ o f ++ (gw_X cI cZ g h1 h2 q q2 u0))) [(4, .int (nI i)), (3, .ref o), (2, .ref h), (1, .ref g), (0, .ref b)] 838 [] := by
  refine gk_aload_n G dL_law_838 3 rfl ?_
  refine gk_aload_n G dL_law_839 4 rfl ?_
  refine gk_iload G dL_law_840 0 rfl ?_
  refine gk_iconst (v := nI 1) G dL_law_842 (by decide) ?_
  refine gk_iadd (v := nI (i + 1)) G dL_law_843 (nI_add i 1) ?_
  refine gk_sld (v := (nI v)) G hX hbl hbA (i + 1) rfl (by omega) (by omega) hx1 dL_law_844 ?_
  refine gk_aload_n G dL_law_845 1 rfl ?_
  refine gk_callISW (wr := gd_X cI h q3 v0) G (cl_leftOf_ok l D cI cZ cJ o f g h1 h2 q q2 u0 M v wf hr hv) gL_law_L_leftOf rfl 3 (by decide +kernel) rfl rfl ⟨(Nat.le_of_ble_eq_true rfl), (Nat.le_of_ble_eq_true rfl)⟩ rfl gl_Fok hE [8, 9, 10, 11, 12, 13, 14, 15, 16, 17, 18, 19, 20, 21, 22, 23, 24, 25, 26, 27, 28, 29] rfl (by decide) [0, 1, 2, 3, 4, 5, 6, 7] rfl (by decide) (by decide) rfl (Nat.le_of_ble_eq_true rfl) dL_law_846 ⟨(show cells + 0 ≤ 601024 by omega), (show slots + 0 ≤ 7293034 by omega)⟩ (fun r846 uu846 hp846 => ?_)
  obtain ⟨f846, u846⟩ := uu846
  have hK846 : r846 = nI 0 := hp846.1
  have hv846 : f846 0 = (nI (M 5 v)).toInt64 := hp846.2.1
  have hr846 : gc_rep u846.1.1 u846.1.2 M := hp846.2.2
  show gk_C p l e room_1 s m args below meth c 9 D A Q (cells + 0) (slots + 0) (gd_X cI h q3 v0 ++ (gw_O cJ o f846 ++ (gw_X cI cZ g h1 h2 q q2 u846))) [(4, .int (nI i)), (3, .ref o), (2, .ref h), (1, .ref g), (0, .ref b)] 849 [.int r846]
  refine gk_istore (lv' := [(5, .int r846), (4, .int (nI i)), (3, .ref o), (2, .ref h), (1, .ref g), (0, .ref b)]) G dL_law_849 (by decide) rfl ?_
  refine gk_aload_n G dL_law_851 3 rfl ?_
  refine gk_aload_n G dL_law_852 5 rfl ?_
  refine gk_iload G dL_law_853 1 rfl ?_
  refine gk_iconst (v := nI 1) G dL_law_855 (by decide) ?_
  refine gk_iadd (v := nI (i + 1)) G dL_law_856 (nI_add i 1) ?_
  refine gk_sld (v := (nI v)) G hX hbl hbA (i + 1) rfl (by omega) (by omega) hx1 dL_law_857 ?_
  refine gk_callIV (wr := gw_O cJ o f846 ++ (gw_X cI cZ g h1 h2 q q2 u846)) G (c2_leftOf_ok l D cI cZ cJ h q3 v0.1 v0.2.1 v0.2.2.1 v0.2.2.2.1 v0.2.2.2.2 M v wf hs hn (by omega)) gL_law_X2_leftOf rfl 1 (by decide +kernel) rfl rfl ⟨(Nat.le_of_ble_eq_true rfl), (Nat.le_of_ble_eq_true rfl)⟩ rfl (q0 := 0) rfl (T := TX2) (N := 12) rfl gk_ok0 trivial [0, 1, 2, 3, 4, 5, 6, 7] rfl (by decide) [8, 9, 10, 11, 12, 13, 14, 15, 16, 17, 18, 19, 20, 21, 22, 23, 24, 25, 26, 27, 28, 29] rfl (by decide) (by decide) rfl (Nat.le_of_ble_eq_true rfl) dL_law_858 ⟨(show (cells + 0) + 0 ≤ 601024 by omega), (show (slots + 0) + 0 ≤ 7293034 by omega)⟩ (fun r858 v858 hp858 => ?_)
  have hR858 : r858 = nI (M 5 v) := hp858.1
  have hs858 : gr_st v858.1 v858.2.1 M := hp858.2.1
  have hn858 : gr_now v858.2.2.1 M := hp858.2.2.1
  have hF858 : v858.1 0 = nI 0 := hp858.2.2.2
  refine gk_wsub (w' := (gd_X cI h q3 v858 ++ (gw_O cJ o f846 ++ (gw_X cI cZ g h1 h2 q q2 u846)))) [22, 23, 24, 25, 26, 27, 28, 29, 0, 1, 2, 3, 4, 5, 6, 7, 8, 9, 10, 11, 12, 13, 14, 15, 16, 17, 18, 19, 20, 21] rfl (by decide) ?_
  show gk_C p l e room_1 s m args below meth c 9 D A Q ((cells + 0) + 0) ((slots + 0) + 0) (gd_X cI h q3 v858 ++ (gw_O cJ o f846 ++ (gw_X cI cZ g h1 h2 q q2 u846))) [(5, .int r846), (4, .int (nI i)), (3, .ref o), (2, .ref h), (1, .ref g), (0, .ref b)] 861 [.int r858]
  refine gk_istore (lv' := [(6, .int r858), (5, .int r846), (4, .int (nI i)), (3, .ref o), (2, .ref h), (1, .ref g), (0, .ref b)]) G dL_law_861 (by decide) rfl ?_
  refine gk_aload_n G dL_law_863 4 rfl ?_
  refine gk_callIV (wr := gw_O cJ o f846 ++ (gw_X cI cZ g h1 h2 q q2 u846)) G (c2_thrown l D cI cZ cJ h q3 v858.1 v858.2.1 v858.2.2.1 v858.2.2.2.1 v858.2.2.2.2 M) gL_law_X2_thrown rfl 0 (by decide +kernel) rfl rfl ⟨(Nat.le_of_ble_eq_true rfl), (Nat.le_of_ble_eq_true rfl)⟩ rfl (q0 := 0) rfl (T := TX2) (N := 12) rfl gk_ok0 trivial [0, 1, 2, 3, 4, 5, 6, 7] rfl (by decide) [8, 9, 10, 11, 12, 13, 14, 15, 16, 17, 18, 19, 20, 21, 22, 23, 24, 25, 26, 27, 28, 29] rfl (by decide) (by decide) rfl (Nat.le_of_ble_eq_true rfl) dL_law_864 ⟨(show ((cells + 0) + 0) + 0 ≤ 601024 by omega), (show ((slots + 0) + 0) + 0 ≤ 7293034 by omega)⟩ (fun r864 u864 hp864 => ?_)
  have hT864 : r864 = nI 0 := (show r864 = v858.1 0 from hp864).trans hF858
  refine gk_wsub (w' := (gd_X cI h q3 v858 ++ (gw_O cJ o f846 ++ (gw_X cI cZ g h1 h2 q q2 u846)))) [22, 23, 24, 25, 26, 27, 28, 29, 0, 1, 2, 3, 4, 5, 6, 7, 8, 9, 10, 11, 12, 13, 14, 15, 16, 17, 18, 19, 20, 21] rfl (by decide) ?_
  show gk_C p l e room_1 s m args below meth c 9 D A Q (((cells + 0) + 0) + 0) (((slots + 0) + 0) + 0) (gd_X cI h q3 v858 ++ (gw_O cJ o f846 ++ (gw_X cI cZ g h1 h2 q q2 u846))) [(6, .int r858), (5, .int r846), (4, .int (nI i)), (3, .ref o), (2, .ref h), (1, .ref g), (0, .ref b)] 867 [.int r864]
  refine gk_iload G dL_law_867 1 rfl ?_
  refine gk_icmp_eq (tgt := 874) G dL_law_869 (by decide) (fun c_869 => ?_) (fun c_869 => ?_)
  · refine gk_iload G dL_law_874 1 rfl ?_
    refine gk_if_ne (tgt := 891) G dL_law_876 (by decide) (fun c_876 => ?_) (fun c_876 => ?_)
    · exact absurd (hK846.trans nI_0) c_876
    · refine gk_aload_n G dL_law_879 3 rfl ?_
      refine gk_iconst (v := nI 0) G dL_law_880 (by decide) ?_
      refine gk_lald (v := f846 0) G (q0 := 8) (t0 := 2) rfl rfl 0 rfl (by decide) (by decide) rfl dL_law_881 ?_
      refine gk_iload G dL_law_882 0 rfl ?_
      refine gk_i2l (v := (r858).toInt64) G dL_law_884 rfl ?_
      refine gk_lcmp G dL_law_885 ?_
      refine gk_if_eq (tgt := 891) G dL_law_886 (by decide) (fun c_886 => ?_) (fun c_886 => ?_)
      · refine gk_goto (tgt := 1565) G dL_law_891 (by decide) ?_
        exact gk_lsub [2, 3, 4, 5, 6] rfl (K f846 u846 v858 _ _ (by omega) (by omega) hr846 hs858 hn858)
      · exact absurd (gl_cmp (hv846.trans (congrArg Int32.toInt64 hR858).symm)) c_886
  · exact absurd (hT864.trans hK846.symm) c_869
set_option maxRecDepth 100000 in
set_option maxHeartbeats 1000000 in
theorem lg_untilOf_no {p : Program} {l : Launch} {e : Env} {s : State} {m : MethodId} {args : Array Value} {below : List Frame} {meth : Method} {c : Code} {D : va_G} {A : Nat → Prop} {Q : State → Prop} {cI cZ cJ : ClassId} {b L : Nat} {xs : Nat → Int32} (G : gk_G p s m args meth c RL 9 cL_law (some .boolean) wsL_law D (g_T cI cZ cJ) A) (hE : gl_F A s s.heap) (hl9 : l.stackTraces = false) (hX : va_X b L xs s s.heap) (hbl : b < s.heap.size) (hbA : ¬ A b) (hL : L ≤ 2048) {g h1 h2 o h : Nat} {q q2 q3 : Nat → Nat} {f : Nat → Int64} {u0 : gw_U} {v0 : gd_U} {M : gm_M} (wf : gm_wf M) (hrest : gm_rest M) (hh : M 9 0 < 1999000) (hr : gc_rep u0.1.1 u0.1.2 M) (hs : gr_st v0.1 v0.2.1 M) (hn : gr_now v0.2.2.1 M) {i cells slots : Nat} (hi : i + 4 ≤ L) (hc : cells ≤ 500000) (hsl : slots ≤ 7000000) (p0 : Int32) (hb : ¬ gm_rg p0 0 (M 11 0)) (hx1 : xs (i + 1) = p0) (K : ∀ (f9 : Nat → Int64) (u9 : gw_U) (v9 : gd_U) (c9 s9 : Nat), c9 ≤ cells + 20 → s9 ≤ slots + 240 → gc_rep u9.1.1 u9.1.2 M → gr_st v9.1 v9.2.1 M → gr_now v9.2.2.1 M → gk_C p l e room_1 s m args below meth c 9 D A Q c9 s9 (gd_X cI h q3 v9 ++ (gw_O cJ o f9 ++ (gw_X cI cZ g h1 h2 q q2 u9))) [(4, .int (nI i)), (3, .ref o), (2, .ref h), (1, .ref g), (0, .ref b)] 1565 []) : gk_C p l e room_1 s m args below meth c 9 D A Q cells slots (gd_X cI h q3 v0 ++ (gw_O cJ o f ++ (gw_X cI cZ g h1 h2 q q2 u0))) [(4, .int (nI i)), (3, .ref o), (2, .ref h), (1, .ref g), (0, .ref b)] 894 [] := by
  refine gk_aload_n G dL_law_894 3 rfl ?_
  refine gk_aload_n G dL_law_895 4 rfl ?_
  refine gk_iload G dL_law_896 0 rfl ?_
  refine gk_iconst (v := nI 1) G dL_law_898 (by decide) ?_
  refine gk_iadd (v := nI (i + 1)) G dL_law_899 (nI_add i 1) ?_
  refine gk_sld (v := p0) G hX hbl hbA (i + 1) rfl (by omega) (by omega) hx1 dL_law_900 ?_
  refine gk_aload_n G dL_law_901 1 rfl ?_
  refine gk_callISW (wr := gd_X cI h q3 v0) G (cl_untilOf_no l D cI cZ cJ o f g h1 h2 q q2 u0 M hl9 p0 wf hr hb) gL_law_L_untilOf rfl 3 (by decide +kernel) rfl rfl ⟨(Nat.le_of_ble_eq_true rfl), (Nat.le_of_ble_eq_true rfl)⟩ rfl gl_Fok hE [8, 9, 10, 11, 12, 13, 14, 15, 16, 17, 18, 19, 20, 21, 22, 23, 24, 25, 26, 27, 28, 29] rfl (by decide) [0, 1, 2, 3, 4, 5, 6, 7] rfl (by decide) (by decide) rfl (Nat.le_of_ble_eq_true rfl) dL_law_902 ⟨(show cells + 1 ≤ 601024 by omega), (show slots + 6 ≤ 7293034 by omega)⟩ (fun r902 uu902 hp902 => ?_)
  obtain ⟨f902, u902⟩ := uu902
  have hK902 : r902 = nI 1 := hp902.1
  have hr902 : gc_rep u902.1.1 u902.1.2 M := hp902.2
  show gk_C p l e room_1 s m args below meth c 9 D A Q (cells + 1) (slots + 6) (gd_X cI h q3 v0 ++ (gw_O cJ o f902 ++ (gw_X cI cZ g h1 h2 q q2 u902))) [(4, .int (nI i)), (3, .ref o), (2, .ref h), (1, .ref g), (0, .ref b)] 905 [.int r902]
  refine gk_istore (lv' := [(5, .int r902), (4, .int (nI i)), (3, .ref o), (2, .ref h), (1, .ref g), (0, .ref b)]) G dL_law_905 (by decide) rfl ?_
  refine gk_aload_n G dL_law_907 3 rfl ?_
  refine gk_aload_n G dL_law_908 5 rfl ?_
  refine gk_iload G dL_law_909 1 rfl ?_
  refine gk_iconst (v := nI 1) G dL_law_911 (by decide) ?_
  refine gk_iadd (v := nI (i + 1)) G dL_law_912 (nI_add i 1) ?_
  refine gk_sld (v := p0) G hX hbl hbA (i + 1) rfl (by omega) (by omega) hx1 dL_law_913 ?_
  refine gk_callIV (wr := gw_O cJ o f902 ++ (gw_X cI cZ g h1 h2 q q2 u902)) G (c2_untilOf_no l D cI cZ cJ h q3 v0.1 v0.2.1 v0.2.2.1 v0.2.2.2.1 v0.2.2.2.2 M p0 wf hs hn hb) gL_law_X2_untilOf rfl 1 (by decide +kernel) rfl rfl ⟨(Nat.le_of_ble_eq_true rfl), (Nat.le_of_ble_eq_true rfl)⟩ rfl (q0 := 0) rfl (T := TX2) (N := 12) rfl gk_ok0 trivial [0, 1, 2, 3, 4, 5, 6, 7] rfl (by decide) [8, 9, 10, 11, 12, 13, 14, 15, 16, 17, 18, 19, 20, 21, 22, 23, 24, 25, 26, 27, 28, 29] rfl (by decide) (by decide) rfl (Nat.le_of_ble_eq_true rfl) dL_law_914 ⟨(show (cells + 1) + 0 ≤ 601024 by omega), (show (slots + 6) + 0 ≤ 7293034 by omega)⟩ (fun r914 v914 hp914 => ?_)
  have hR914 : r914 = nI 0 := hp914.1
  have hs914 : gr_st v914.1 v914.2.1 M := hp914.2.1
  have hn914 : gr_now v914.2.2.1 M := hp914.2.2.1
  have hF914 : v914.1 0 = nI 1 := hp914.2.2.2
  refine gk_wsub (w' := (gd_X cI h q3 v914 ++ (gw_O cJ o f902 ++ (gw_X cI cZ g h1 h2 q q2 u902)))) [22, 23, 24, 25, 26, 27, 28, 29, 0, 1, 2, 3, 4, 5, 6, 7, 8, 9, 10, 11, 12, 13, 14, 15, 16, 17, 18, 19, 20, 21] rfl (by decide) ?_
  show gk_C p l e room_1 s m args below meth c 9 D A Q ((cells + 1) + 0) ((slots + 6) + 0) (gd_X cI h q3 v914 ++ (gw_O cJ o f902 ++ (gw_X cI cZ g h1 h2 q q2 u902))) [(5, .int r902), (4, .int (nI i)), (3, .ref o), (2, .ref h), (1, .ref g), (0, .ref b)] 917 [.int r914]
  refine gk_istore (lv' := [(6, .int r914), (5, .int r902), (4, .int (nI i)), (3, .ref o), (2, .ref h), (1, .ref g), (0, .ref b)]) G dL_law_917 (by decide) rfl ?_
  refine gk_aload_n G dL_law_919 4 rfl ?_
  refine gk_callIV (wr := gw_O cJ o f902 ++ (gw_X cI cZ g h1 h2 q q2 u902)) G (c2_thrown l D cI cZ cJ h q3 v914.1 v914.2.1 v914.2.2.1 v914.2.2.2.1 v914.2.2.2.2 M) gL_law_X2_thrown rfl 0 (by decide +kernel) rfl rfl ⟨(Nat.le_of_ble_eq_true rfl), (Nat.le_of_ble_eq_true rfl)⟩ rfl (q0 := 0) rfl (T := TX2) (N := 12) rfl gk_ok0 trivial [0, 1, 2, 3, 4, 5, 6, 7] rfl (by decide) [8, 9, 10, 11, 12, 13, 14, 15, 16, 17, 18, 19, 20, 21, 22, 23, 24, 25, 26, 27, 28, 29] rfl (by decide) (by decide) rfl (Nat.le_of_ble_eq_true rfl) dL_law_920 ⟨(show ((cells + 1) + 0) + 0 ≤ 601024 by omega), (show ((slots + 6) + 0) + 0 ≤ 7293034 by omega)⟩ (fun r920 u920 hp920 => ?_)
  have hT920 : r920 = nI 1 := (show r920 = v914.1 0 from hp920).trans hF914
  refine gk_wsub (w' := (gd_X cI h q3 v914 ++ (gw_O cJ o f902 ++ (gw_X cI cZ g h1 h2 q q2 u902)))) [22, 23, 24, 25, 26, 27, 28, 29, 0, 1, 2, 3, 4, 5, 6, 7, 8, 9, 10, 11, 12, 13, 14, 15, 16, 17, 18, 19, 20, 21] rfl (by decide) ?_
  show gk_C p l e room_1 s m args below meth c 9 D A Q (((cells + 1) + 0) + 0) (((slots + 6) + 0) + 0) (gd_X cI h q3 v914 ++ (gw_O cJ o f902 ++ (gw_X cI cZ g h1 h2 q q2 u902))) [(6, .int r914), (5, .int r902), (4, .int (nI i)), (3, .ref o), (2, .ref h), (1, .ref g), (0, .ref b)] 923 [.int r920]
  refine gk_iload G dL_law_923 1 rfl ?_
  refine gk_icmp_eq (tgt := 930) G dL_law_925 (by decide) (fun c_925 => ?_) (fun c_925 => ?_)
  · refine gk_iload G dL_law_930 1 rfl ?_
    refine gk_if_ne (tgt := 947) G dL_law_932 (by decide) (fun c_932 => ?_) (fun c_932 => ?_)
    · refine gk_goto (tgt := 1565) G dL_law_947 (by decide) ?_
      exact gk_lsub [2, 3, 4, 5, 6] rfl (K f902 u902 v914 _ _ (by omega) (by omega) hr902 hs914 hn914)
    · exact absurd (hK902.symm.trans c_932) (by decide)
  · exact absurd (hT920.trans hK902.symm) c_925
set_option maxRecDepth 100000 in
set_option maxHeartbeats 1000000 in
theorem lg_untilOf_ok {p : Program} {l : Launch} {e : Env} {s : State} {m : MethodId} {args : Array Value} {below : List Frame} {meth : Method} {c : Code} {D : va_G} {A : Nat → Prop} {Q : State → Prop} {cI cZ cJ : ClassId} {b L : Nat} {xs : Nat → Int32} (G : gk_G p s m args meth c RL 9 cL_law (some .boolean) wsL_law D (g_T cI cZ cJ) A) (hE : gl_F A s s.heap) (hl9 : l.stackTraces = false) (hX : va_X b L xs s s.heap) (hbl : b < s.heap.size) (hbA : ¬ A b) (hL : L ≤ 2048) {g h1 h2 o h : Nat} {q q2 q3 : Nat → Nat} {f : Nat → Int64} {u0 : gw_U} {v0 : gd_U} {M : gm_M} (wf : gm_wf M) (hrest : gm_rest M) (hh : M 9 0 < 1999000) (hr : gc_rep u0.1.1 u0.1.2 M) (hs : gr_st v0.1 v0.2.1 M) (hn : gr_now v0.2.2.1 M) {i cells slots : Nat} (hi : i + 4 ≤ L) (hc : cells ≤ 500000) (hsl : slots ≤ 7000000) (v : Nat) (hv : v < M 11 0) (hx1 : xs (i + 1) = nI v) (K : ∀ (f9 : Nat → Int64) (u9 : gw_U) (v9 : gd_U) (c9 s9 : Nat), c9 ≤ cells + 20 → s9 ≤ slots + 240 → gc_rep u9.1.1 u9.1.2 M → gr_st v9.1 v9.2.1 M → gr_now v9.2.2.1 M → gk_C p l e room_1 s m args below meth c 9 D A Q c9 s9 (gd_X cI h q3 v9 ++ (gw_O cJ o f9 ++ (gw_X cI cZ g h1 h2 q q2 u9))) [(4, .int (nI i)), (3, .ref o), (2, .ref h), (1, .ref g), (0, .ref b)] 1565 []) : gk_C p l e room_1 s m args below meth c 9 D A Q cells slots (gd_X cI h q3 v0 ++ (gw_O cJ o f ++ (gw_X cI cZ g h1 h2 q q2 u0))) [(4, .int (nI i)), (3, .ref o), (2, .ref h), (1, .ref g), (0, .ref b)] 894 [] := by
  refine gk_aload_n G dL_law_894 3 rfl ?_
  refine gk_aload_n G dL_law_895 4 rfl ?_
  refine gk_iload G dL_law_896 0 rfl ?_
  refine gk_iconst (v := nI 1) G dL_law_898 (by decide) ?_
  refine gk_iadd (v := nI (i + 1)) G dL_law_899 (nI_add i 1) ?_
  refine gk_sld (v := (nI v)) G hX hbl hbA (i + 1) rfl (by omega) (by omega) hx1 dL_law_900 ?_
  refine gk_aload_n G dL_law_901 1 rfl ?_
  refine gk_callISW (wr := gd_X cI h q3 v0) G (cl_untilOf_ok l D cI cZ cJ o f g h1 h2 q q2 u0 M v wf hr hv) gL_law_L_untilOf rfl 3 (by decide +kernel) rfl rfl ⟨(Nat.le_of_ble_eq_true rfl), (Nat.le_of_ble_eq_true rfl)⟩ rfl gl_Fok hE [8, 9, 10, 11, 12, 13, 14, 15, 16, 17, 18, 19, 20, 21, 22, 23, 24, 25, 26, 27, 28, 29] rfl (by decide) [0, 1, 2, 3, 4, 5, 6, 7] rfl (by decide) (by decide) rfl (Nat.le_of_ble_eq_true rfl) dL_law_902 ⟨(show cells + 0 ≤ 601024 by omega), (show slots + 0 ≤ 7293034 by omega)⟩ (fun r902 uu902 hp902 => ?_)
  obtain ⟨f902, u902⟩ := uu902
  have hK902 : r902 = nI 0 := hp902.1
  have hv902 : f902 0 = (nI (M 6 v)).toInt64 := hp902.2.1
  have hr902 : gc_rep u902.1.1 u902.1.2 M := hp902.2.2
  show gk_C p l e room_1 s m args below meth c 9 D A Q (cells + 0) (slots + 0) (gd_X cI h q3 v0 ++ (gw_O cJ o f902 ++ (gw_X cI cZ g h1 h2 q q2 u902))) [(4, .int (nI i)), (3, .ref o), (2, .ref h), (1, .ref g), (0, .ref b)] 905 [.int r902]
  refine gk_istore (lv' := [(5, .int r902), (4, .int (nI i)), (3, .ref o), (2, .ref h), (1, .ref g), (0, .ref b)]) G dL_law_905 (by decide) rfl ?_
  refine gk_aload_n G dL_law_907 3 rfl ?_
  refine gk_aload_n G dL_law_908 5 rfl ?_
  refine gk_iload G dL_law_909 1 rfl ?_
  refine gk_iconst (v := nI 1) G dL_law_911 (by decide) ?_
  refine gk_iadd (v := nI (i + 1)) G dL_law_912 (nI_add i 1) ?_
  refine gk_sld (v := (nI v)) G hX hbl hbA (i + 1) rfl (by omega) (by omega) hx1 dL_law_913 ?_
  refine gk_callIV (wr := gw_O cJ o f902 ++ (gw_X cI cZ g h1 h2 q q2 u902)) G (c2_untilOf_ok l D cI cZ cJ h q3 v0.1 v0.2.1 v0.2.2.1 v0.2.2.2.1 v0.2.2.2.2 M v wf hs hn (by omega)) gL_law_X2_untilOf rfl 1 (by decide +kernel) rfl rfl ⟨(Nat.le_of_ble_eq_true rfl), (Nat.le_of_ble_eq_true rfl)⟩ rfl (q0 := 0) rfl (T := TX2) (N := 12) rfl gk_ok0 trivial [0, 1, 2, 3, 4, 5, 6, 7] rfl (by decide) [8, 9, 10, 11, 12, 13, 14, 15, 16, 17, 18, 19, 20, 21, 22, 23, 24, 25, 26, 27, 28, 29] rfl (by decide) (by decide) rfl (Nat.le_of_ble_eq_true rfl) dL_law_914 ⟨(show (cells + 0) + 0 ≤ 601024 by omega), (show (slots + 0) + 0 ≤ 7293034 by omega)⟩ (fun r914 v914 hp914 => ?_)
  have hR914 : r914 = nI (M 6 v) := hp914.1
  have hs914 : gr_st v914.1 v914.2.1 M := hp914.2.1
  have hn914 : gr_now v914.2.2.1 M := hp914.2.2.1
  have hF914 : v914.1 0 = nI 0 := hp914.2.2.2
  refine gk_wsub (w' := (gd_X cI h q3 v914 ++ (gw_O cJ o f902 ++ (gw_X cI cZ g h1 h2 q q2 u902)))) [22, 23, 24, 25, 26, 27, 28, 29, 0, 1, 2, 3, 4, 5, 6, 7, 8, 9, 10, 11, 12, 13, 14, 15, 16, 17, 18, 19, 20, 21] rfl (by decide) ?_
  show gk_C p l e room_1 s m args below meth c 9 D A Q ((cells + 0) + 0) ((slots + 0) + 0) (gd_X cI h q3 v914 ++ (gw_O cJ o f902 ++ (gw_X cI cZ g h1 h2 q q2 u902))) [(5, .int r902), (4, .int (nI i)), (3, .ref o), (2, .ref h), (1, .ref g), (0, .ref b)] 917 [.int r914]
  refine gk_istore (lv' := [(6, .int r914), (5, .int r902), (4, .int (nI i)), (3, .ref o), (2, .ref h), (1, .ref g), (0, .ref b)]) G dL_law_917 (by decide) rfl ?_
  refine gk_aload_n G dL_law_919 4 rfl ?_
  refine gk_callIV (wr := gw_O cJ o f902 ++ (gw_X cI cZ g h1 h2 q q2 u902)) G (c2_thrown l D cI cZ cJ h q3 v914.1 v914.2.1 v914.2.2.1 v914.2.2.2.1 v914.2.2.2.2 M) gL_law_X2_thrown rfl 0 (by decide +kernel) rfl rfl ⟨(Nat.le_of_ble_eq_true rfl), (Nat.le_of_ble_eq_true rfl)⟩ rfl (q0 := 0) rfl (T := TX2) (N := 12) rfl gk_ok0 trivial [0, 1, 2, 3, 4, 5, 6, 7] rfl (by decide) [8, 9, 10, 11, 12, 13, 14, 15, 16, 17, 18, 19, 20, 21, 22, 23, 24, 25, 26, 27, 28, 29] rfl (by decide) (by decide) rfl (Nat.le_of_ble_eq_true rfl) dL_law_920 ⟨(show ((cells + 0) + 0) + 0 ≤ 601024 by omega), (show ((slots + 0) + 0) + 0 ≤ 7293034 by omega)⟩ (fun r920 u920 hp920 => ?_)
  have hT920 : r920 = nI 0 := (show r920 = v914.1 0 from hp920).trans hF914
  refine gk_wsub (w' := (gd_X cI h q3 v914 ++ (gw_O cJ o f902 ++ (gw_X cI cZ g h1 h2 q q2 u902)))) [22, 23, 24, 25, 26, 27, 28, 29, 0, 1, 2, 3, 4, 5, 6, 7, 8, 9, 10, 11, 12, 13, 14, 15, 16, 17, 18, 19, 20, 21] rfl (by decide) ?_
  show gk_C p l e room_1 s m args below meth c 9 D A Q (((cells + 0) + 0) + 0) (((slots + 0) + 0) + 0) (gd_X cI h q3 v914 ++ (gw_O cJ o f902 ++ (gw_X cI cZ g h1 h2 q q2 u902))) [(6, .int r914), (5, .int r902), (4, .int (nI i)), (3, .ref o), (2, .ref h), (1, .ref g), (0, .ref b)] 923 [.int r920]
  refine gk_iload G dL_law_923 1 rfl ?_
  refine gk_icmp_eq (tgt := 930) G dL_law_925 (by decide) (fun c_925 => ?_) (fun c_925 => ?_)
  · refine gk_iload G dL_law_930 1 rfl ?_
    refine gk_if_ne (tgt := 947) G dL_law_932 (by decide) (fun c_932 => ?_) (fun c_932 => ?_)
    · exact absurd (hK902.trans nI_0) c_932
    · refine gk_aload_n G dL_law_935 3 rfl ?_
      refine gk_iconst (v := nI 0) G dL_law_936 (by decide) ?_
      refine gk_lald (v := f902 0) G (q0 := 8) (t0 := 2) rfl rfl 0 rfl (by decide) (by decide) rfl dL_law_937 ?_
      refine gk_iload G dL_law_938 0 rfl ?_
      refine gk_i2l (v := (r914).toInt64) G dL_law_940 rfl ?_
      refine gk_lcmp G dL_law_941 ?_
      refine gk_if_eq (tgt := 947) G dL_law_942 (by decide) (fun c_942 => ?_) (fun c_942 => ?_)
      · refine gk_goto (tgt := 1565) G dL_law_947 (by decide) ?_
        exact gk_lsub [2, 3, 4, 5, 6] rfl (K f902 u902 v914 _ _ (by omega) (by omega) hr902 hs914 hn914)
      · exact absurd (gl_cmp (hv902.trans (congrArg Int32.toInt64 hR914).symm)) c_942
  · exact absurd (hT920.trans hK902.symm) c_925
set_option maxRecDepth 100000 in
set_option maxHeartbeats 1000000 in
theorem lg_groundAt_no {p : Program} {l : Launch} {e : Env} {s : State} {m : MethodId} {args : Array Value} {below : List Frame} {meth : Method} {c : Code} {D : va_G} {A : Nat → Prop} {Q : State → Prop} {cI cZ cJ : ClassId} {b L : Nat} {xs : Nat → Int32} (G : gk_G p s m args meth c RL 9 cL_law (some .boolean) wsL_law D (g_T cI cZ cJ) A) (hE : gl_F A s s.heap) (hl9 : l.stackTraces = false) (hX : va_X b L xs s s.heap) (hbl : b < s.heap.size) (hbA : ¬ A b) (hL : L ≤ 2048) {g h1 h2 o h : Nat} {q q2 q3 : Nat → Nat} {f : Nat → Int64} {u0 : gw_U} {v0 : gd_U} {M : gm_M} (wf : gm_wf M) (hrest : gm_rest M) (hh : M 9 0 < 1999000) (hr : gc_rep u0.1.1 u0.1.2 M) (hs : gr_st v0.1 v0.2.1 M) (hn : gr_now v0.2.2.1 M) {i cells slots : Nat} (hi : i + 4 ≤ L) (hc : cells ≤ 500000) (hsl : slots ≤ 7000000) (p0 : Int32) (hb : ¬ gm_rg p0 0 (M 11 0)) (hx1 : xs (i + 1) = p0) (K : ∀ (f9 : Nat → Int64) (u9 : gw_U) (v9 : gd_U) (c9 s9 : Nat), c9 ≤ cells + 20 → s9 ≤ slots + 240 → gc_rep u9.1.1 u9.1.2 M → gr_st v9.1 v9.2.1 M → gr_now v9.2.2.1 M → gk_C p l e room_1 s m args below meth c 9 D A Q c9 s9 (gd_X cI h q3 v9 ++ (gw_O cJ o f9 ++ (gw_X cI cZ g h1 h2 q q2 u9))) [(4, .int (nI i)), (3, .ref o), (2, .ref h), (1, .ref g), (0, .ref b)] 1565 []) : gk_C p l e room_1 s m args below meth c 9 D A Q cells slots (gd_X cI h q3 v0 ++ (gw_O cJ o f ++ (gw_X cI cZ g h1 h2 q q2 u0))) [(4, .int (nI i)), (3, .ref o), (2, .ref h), (1, .ref g), (0, .ref b)] 950 [] := by
  refine gk_aload_n G dL_law_950 3 rfl ?_
  refine gk_aload_n G dL_law_951 4 rfl ?_
  refine gk_iload G dL_law_952 0 rfl ?_
  refine gk_iconst (v := nI 1) G dL_law_954 (by decide) ?_
  refine gk_iadd (v := nI (i + 1)) G dL_law_955 (nI_add i 1) ?_
  refine gk_sld (v := p0) G hX hbl hbA (i + 1) rfl (by omega) (by omega) hx1 dL_law_956 ?_
  refine gk_aload_n G dL_law_957 1 rfl ?_
  refine gk_callISW (wr := gd_X cI h q3 v0) G (cl_groundAt_no l D cI cZ cJ o f g h1 h2 q q2 u0 M hl9 p0 wf hr hb) gL_law_L_groundAt rfl 3 (by decide +kernel) rfl rfl ⟨(Nat.le_of_ble_eq_true rfl), (Nat.le_of_ble_eq_true rfl)⟩ rfl gl_Fok hE [8, 9, 10, 11, 12, 13, 14, 15, 16, 17, 18, 19, 20, 21, 22, 23, 24, 25, 26, 27, 28, 29] rfl (by decide) [0, 1, 2, 3, 4, 5, 6, 7] rfl (by decide) (by decide) rfl (Nat.le_of_ble_eq_true rfl) dL_law_958 ⟨(show cells + 1 ≤ 601024 by omega), (show slots + 6 ≤ 7293034 by omega)⟩ (fun r958 uu958 hp958 => ?_)
  obtain ⟨f958, u958⟩ := uu958
  have hK958 : r958 = nI 1 := hp958.1
  have hr958 : gc_rep u958.1.1 u958.1.2 M := hp958.2
  show gk_C p l e room_1 s m args below meth c 9 D A Q (cells + 1) (slots + 6) (gd_X cI h q3 v0 ++ (gw_O cJ o f958 ++ (gw_X cI cZ g h1 h2 q q2 u958))) [(4, .int (nI i)), (3, .ref o), (2, .ref h), (1, .ref g), (0, .ref b)] 961 [.int r958]
  refine gk_istore (lv' := [(5, .int r958), (4, .int (nI i)), (3, .ref o), (2, .ref h), (1, .ref g), (0, .ref b)]) G dL_law_961 (by decide) rfl ?_
  refine gk_aload_n G dL_law_963 3 rfl ?_
  refine gk_aload_n G dL_law_964 5 rfl ?_
  refine gk_iload G dL_law_965 1 rfl ?_
  refine gk_iconst (v := nI 1) G dL_law_967 (by decide) ?_
  refine gk_iadd (v := nI (i + 1)) G dL_law_968 (nI_add i 1) ?_
  refine gk_sld (v := p0) G hX hbl hbA (i + 1) rfl (by omega) (by omega) hx1 dL_law_969 ?_
  refine gk_callIV (wr := gw_O cJ o f958 ++ (gw_X cI cZ g h1 h2 q q2 u958)) G (c2_groundAt_no l D cI cZ cJ h q3 v0.1 v0.2.1 v0.2.2.1 v0.2.2.2.1 v0.2.2.2.2 M p0 wf hs hn hb) gL_law_X2_groundAt rfl 1 (by decide +kernel) rfl rfl ⟨(Nat.le_of_ble_eq_true rfl), (Nat.le_of_ble_eq_true rfl)⟩ rfl (q0 := 0) rfl (T := TX2) (N := 12) rfl gk_ok0 trivial [0, 1, 2, 3, 4, 5, 6, 7] rfl (by decide) [8, 9, 10, 11, 12, 13, 14, 15, 16, 17, 18, 19, 20, 21, 22, 23, 24, 25, 26, 27, 28, 29] rfl (by decide) (by decide) rfl (Nat.le_of_ble_eq_true rfl) dL_law_970 ⟨(show (cells + 1) + 0 ≤ 601024 by omega), (show (slots + 6) + 0 ≤ 7293034 by omega)⟩ (fun r970 v970 hp970 => ?_)
  have hR970 : r970 = nI 0 := hp970.1
  have hs970 : gr_st v970.1 v970.2.1 M := hp970.2.1
  have hn970 : gr_now v970.2.2.1 M := hp970.2.2.1
  have hF970 : v970.1 0 = nI 1 := hp970.2.2.2
  refine gk_wsub (w' := (gd_X cI h q3 v970 ++ (gw_O cJ o f958 ++ (gw_X cI cZ g h1 h2 q q2 u958)))) [22, 23, 24, 25, 26, 27, 28, 29, 0, 1, 2, 3, 4, 5, 6, 7, 8, 9, 10, 11, 12, 13, 14, 15, 16, 17, 18, 19, 20, 21] rfl (by decide) ?_
  show gk_C p l e room_1 s m args below meth c 9 D A Q ((cells + 1) + 0) ((slots + 6) + 0) (gd_X cI h q3 v970 ++ (gw_O cJ o f958 ++ (gw_X cI cZ g h1 h2 q q2 u958))) [(5, .int r958), (4, .int (nI i)), (3, .ref o), (2, .ref h), (1, .ref g), (0, .ref b)] 973 [.int r970]
  refine gk_istore (lv' := [(6, .int r970), (5, .int r958), (4, .int (nI i)), (3, .ref o), (2, .ref h), (1, .ref g), (0, .ref b)]) G dL_law_973 (by decide) rfl ?_
  refine gk_aload_n G dL_law_975 4 rfl ?_
  refine gk_callIV (wr := gw_O cJ o f958 ++ (gw_X cI cZ g h1 h2 q q2 u958)) G (c2_thrown l D cI cZ cJ h q3 v970.1 v970.2.1 v970.2.2.1 v970.2.2.2.1 v970.2.2.2.2 M) gL_law_X2_thrown rfl 0 (by decide +kernel) rfl rfl ⟨(Nat.le_of_ble_eq_true rfl), (Nat.le_of_ble_eq_true rfl)⟩ rfl (q0 := 0) rfl (T := TX2) (N := 12) rfl gk_ok0 trivial [0, 1, 2, 3, 4, 5, 6, 7] rfl (by decide) [8, 9, 10, 11, 12, 13, 14, 15, 16, 17, 18, 19, 20, 21, 22, 23, 24, 25, 26, 27, 28, 29] rfl (by decide) (by decide) rfl (Nat.le_of_ble_eq_true rfl) dL_law_976 ⟨(show ((cells + 1) + 0) + 0 ≤ 601024 by omega), (show ((slots + 6) + 0) + 0 ≤ 7293034 by omega)⟩ (fun r976 u976 hp976 => ?_)
  have hT976 : r976 = nI 1 := (show r976 = v970.1 0 from hp976).trans hF970
  refine gk_wsub (w' := (gd_X cI h q3 v970 ++ (gw_O cJ o f958 ++ (gw_X cI cZ g h1 h2 q q2 u958)))) [22, 23, 24, 25, 26, 27, 28, 29, 0, 1, 2, 3, 4, 5, 6, 7, 8, 9, 10, 11, 12, 13, 14, 15, 16, 17, 18, 19, 20, 21] rfl (by decide) ?_
  show gk_C p l e room_1 s m args below meth c 9 D A Q (((cells + 1) + 0) + 0) (((slots + 6) + 0) + 0) (gd_X cI h q3 v970 ++ (gw_O cJ o f958 ++ (gw_X cI cZ g h1 h2 q q2 u958))) [(6, .int r970), (5, .int r958), (4, .int (nI i)), (3, .ref o), (2, .ref h), (1, .ref g), (0, .ref b)] 979 [.int r976]
  refine gk_iload G dL_law_979 1 rfl ?_
  refine gk_icmp_eq (tgt := 986) G dL_law_981 (by decide) (fun c_981 => ?_) (fun c_981 => ?_)
  · refine gk_iload G dL_law_986 1 rfl ?_
    refine gk_if_ne (tgt := 1003) G dL_law_988 (by decide) (fun c_988 => ?_) (fun c_988 => ?_)
    · refine gk_goto (tgt := 1565) G dL_law_1003 (by decide) ?_
      exact gk_lsub [2, 3, 4, 5, 6] rfl (K f958 u958 v970 _ _ (by omega) (by omega) hr958 hs970 hn970)
    · exact absurd (hK958.symm.trans c_988) (by decide)
  · exact absurd (hT976.trans hK958.symm) c_981
set_option maxRecDepth 100000 in
set_option maxHeartbeats 1000000 in
theorem lg_groundAt_ok {p : Program} {l : Launch} {e : Env} {s : State} {m : MethodId} {args : Array Value} {below : List Frame} {meth : Method} {c : Code} {D : va_G} {A : Nat → Prop} {Q : State → Prop} {cI cZ cJ : ClassId} {b L : Nat} {xs : Nat → Int32} (G : gk_G p s m args meth c RL 9 cL_law (some .boolean) wsL_law D (g_T cI cZ cJ) A) (hE : gl_F A s s.heap) (hl9 : l.stackTraces = false) (hX : va_X b L xs s s.heap) (hbl : b < s.heap.size) (hbA : ¬ A b) (hL : L ≤ 2048) {g h1 h2 o h : Nat} {q q2 q3 : Nat → Nat} {f : Nat → Int64} {u0 : gw_U} {v0 : gd_U} {M : gm_M} (wf : gm_wf M) (hrest : gm_rest M) (hh : M 9 0 < 1999000) (hr : gc_rep u0.1.1 u0.1.2 M) (hs : gr_st v0.1 v0.2.1 M) (hn : gr_now v0.2.2.1 M) {i cells slots : Nat} (hi : i + 4 ≤ L) (hc : cells ≤ 500000) (hsl : slots ≤ 7000000) (v : Nat) (hv : v < M 11 0) (hx1 : xs (i + 1) = nI v) (K : ∀ (f9 : Nat → Int64) (u9 : gw_U) (v9 : gd_U) (c9 s9 : Nat), c9 ≤ cells + 20 → s9 ≤ slots + 240 → gc_rep u9.1.1 u9.1.2 M → gr_st v9.1 v9.2.1 M → gr_now v9.2.2.1 M → gk_C p l e room_1 s m args below meth c 9 D A Q c9 s9 (gd_X cI h q3 v9 ++ (gw_O cJ o f9 ++ (gw_X cI cZ g h1 h2 q q2 u9))) [(4, .int (nI i)), (3, .ref o), (2, .ref h), (1, .ref g), (0, .ref b)] 1565 []) : gk_C p l e room_1 s m args below meth c 9 D A Q cells slots (gd_X cI h q3 v0 ++ (gw_O cJ o f ++ (gw_X cI cZ g h1 h2 q q2 u0))) [(4, .int (nI i)), (3, .ref o), (2, .ref h), (1, .ref g), (0, .ref b)] 950 [] := by
  refine gk_aload_n G dL_law_950 3 rfl ?_
  refine gk_aload_n G dL_law_951 4 rfl ?_
  refine gk_iload G dL_law_952 0 rfl ?_
  refine gk_iconst (v := nI 1) G dL_law_954 (by decide) ?_
  refine gk_iadd (v := nI (i + 1)) G dL_law_955 (nI_add i 1) ?_
  refine gk_sld (v := (nI v)) G hX hbl hbA (i + 1) rfl (by omega) (by omega) hx1 dL_law_956 ?_
  refine gk_aload_n G dL_law_957 1 rfl ?_
  refine gk_callISW (wr := gd_X cI h q3 v0) G (cl_groundAt_ok l D cI cZ cJ o f g h1 h2 q q2 u0 M v wf hr hv) gL_law_L_groundAt rfl 3 (by decide +kernel) rfl rfl ⟨(Nat.le_of_ble_eq_true rfl), (Nat.le_of_ble_eq_true rfl)⟩ rfl gl_Fok hE [8, 9, 10, 11, 12, 13, 14, 15, 16, 17, 18, 19, 20, 21, 22, 23, 24, 25, 26, 27, 28, 29] rfl (by decide) [0, 1, 2, 3, 4, 5, 6, 7] rfl (by decide) (by decide) rfl (Nat.le_of_ble_eq_true rfl) dL_law_958 ⟨(show cells + 0 ≤ 601024 by omega), (show slots + 0 ≤ 7293034 by omega)⟩ (fun r958 uu958 hp958 => ?_)
  obtain ⟨f958, u958⟩ := uu958
  have hK958 : r958 = nI 0 := hp958.1
  have hv958 : f958 0 = (gm_e (M 8 v)).toInt64 := hp958.2.1
  have hr958 : gc_rep u958.1.1 u958.1.2 M := hp958.2.2
  show gk_C p l e room_1 s m args below meth c 9 D A Q (cells + 0) (slots + 0) (gd_X cI h q3 v0 ++ (gw_O cJ o f958 ++ (gw_X cI cZ g h1 h2 q q2 u958))) [(4, .int (nI i)), (3, .ref o), (2, .ref h), (1, .ref g), (0, .ref b)] 961 [.int r958]
  refine gk_istore (lv' := [(5, .int r958), (4, .int (nI i)), (3, .ref o), (2, .ref h), (1, .ref g), (0, .ref b)]) G dL_law_961 (by decide) rfl ?_
  refine gk_aload_n G dL_law_963 3 rfl ?_
  refine gk_aload_n G dL_law_964 5 rfl ?_
  refine gk_iload G dL_law_965 1 rfl ?_
  refine gk_iconst (v := nI 1) G dL_law_967 (by decide) ?_
  refine gk_iadd (v := nI (i + 1)) G dL_law_968 (nI_add i 1) ?_
  refine gk_sld (v := (nI v)) G hX hbl hbA (i + 1) rfl (by omega) (by omega) hx1 dL_law_969 ?_
  refine gk_callIV (wr := gw_O cJ o f958 ++ (gw_X cI cZ g h1 h2 q q2 u958)) G (c2_groundAt_ok l D cI cZ cJ h q3 v0.1 v0.2.1 v0.2.2.1 v0.2.2.2.1 v0.2.2.2.2 M v wf hs hn (by omega)) gL_law_X2_groundAt rfl 1 (by decide +kernel) rfl rfl ⟨(Nat.le_of_ble_eq_true rfl), (Nat.le_of_ble_eq_true rfl)⟩ rfl (q0 := 0) rfl (T := TX2) (N := 12) rfl gk_ok0 trivial [0, 1, 2, 3, 4, 5, 6, 7] rfl (by decide) [8, 9, 10, 11, 12, 13, 14, 15, 16, 17, 18, 19, 20, 21, 22, 23, 24, 25, 26, 27, 28, 29] rfl (by decide) (by decide) rfl (Nat.le_of_ble_eq_true rfl) dL_law_970 ⟨(show (cells + 0) + 0 ≤ 601024 by omega), (show (slots + 0) + 0 ≤ 7293034 by omega)⟩ (fun r970 v970 hp970 => ?_)
  have hR970 : r970 = gm_e (M 8 v) := hp970.1
  have hs970 : gr_st v970.1 v970.2.1 M := hp970.2.1
  have hn970 : gr_now v970.2.2.1 M := hp970.2.2.1
  have hF970 : v970.1 0 = nI 0 := hp970.2.2.2
  refine gk_wsub (w' := (gd_X cI h q3 v970 ++ (gw_O cJ o f958 ++ (gw_X cI cZ g h1 h2 q q2 u958)))) [22, 23, 24, 25, 26, 27, 28, 29, 0, 1, 2, 3, 4, 5, 6, 7, 8, 9, 10, 11, 12, 13, 14, 15, 16, 17, 18, 19, 20, 21] rfl (by decide) ?_
  show gk_C p l e room_1 s m args below meth c 9 D A Q ((cells + 0) + 0) ((slots + 0) + 0) (gd_X cI h q3 v970 ++ (gw_O cJ o f958 ++ (gw_X cI cZ g h1 h2 q q2 u958))) [(5, .int r958), (4, .int (nI i)), (3, .ref o), (2, .ref h), (1, .ref g), (0, .ref b)] 973 [.int r970]
  refine gk_istore (lv' := [(6, .int r970), (5, .int r958), (4, .int (nI i)), (3, .ref o), (2, .ref h), (1, .ref g), (0, .ref b)]) G dL_law_973 (by decide) rfl ?_
  refine gk_aload_n G dL_law_975 4 rfl ?_
  refine gk_callIV (wr := gw_O cJ o f958 ++ (gw_X cI cZ g h1 h2 q q2 u958)) G (c2_thrown l D cI cZ cJ h q3 v970.1 v970.2.1 v970.2.2.1 v970.2.2.2.1 v970.2.2.2.2 M) gL_law_X2_thrown rfl 0 (by decide +kernel) rfl rfl ⟨(Nat.le_of_ble_eq_true rfl), (Nat.le_of_ble_eq_true rfl)⟩ rfl (q0 := 0) rfl (T := TX2) (N := 12) rfl gk_ok0 trivial [0, 1, 2, 3, 4, 5, 6, 7] rfl (by decide) [8, 9, 10, 11, 12, 13, 14, 15, 16, 17, 18, 19, 20, 21, 22, 23, 24, 25, 26, 27, 28, 29] rfl (by decide) (by decide) rfl (Nat.le_of_ble_eq_true rfl) dL_law_976 ⟨(show ((cells + 0) + 0) + 0 ≤ 601024 by omega), (show ((slots + 0) + 0) + 0 ≤ 7293034 by omega)⟩ (fun r976 u976 hp976 => ?_)
  have hT976 : r976 = nI 0 := (show r976 = v970.1 0 from hp976).trans hF970
  refine gk_wsub (w' := (gd_X cI h q3 v970 ++ (gw_O cJ o f958 ++ (gw_X cI cZ g h1 h2 q q2 u958)))) [22, 23, 24, 25, 26, 27, 28, 29, 0, 1, 2, 3, 4, 5, 6, 7, 8, 9, 10, 11, 12, 13, 14, 15, 16, 17, 18, 19, 20, 21] rfl (by decide) ?_
  show gk_C p l e room_1 s m args below meth c 9 D A Q (((cells + 0) + 0) + 0) (((slots + 0) + 0) + 0) (gd_X cI h q3 v970 ++ (gw_O cJ o f958 ++ (gw_X cI cZ g h1 h2 q q2 u958))) [(6, .int r970), (5, .int r958), (4, .int (nI i)), (3, .ref o), (2, .ref h), (1, .ref g), (0, .ref b)] 979 [.int r976]
  refine gk_iload G dL_law_979 1 rfl ?_
  refine gk_icmp_eq (tgt := 986) G dL_law_981 (by decide) (fun c_981 => ?_) (fun c_981 => ?_)
  · refine gk_iload G dL_law_986 1 rfl ?_
    refine gk_if_ne (tgt := 1003) G dL_law_988 (by decide) (fun c_988 => ?_) (fun c_988 => ?_)
    · exact absurd (hK958.trans nI_0) c_988
    · refine gk_aload_n G dL_law_991 3 rfl ?_
      refine gk_iconst (v := nI 0) G dL_law_992 (by decide) ?_
      refine gk_lald (v := f958 0) G (q0 := 8) (t0 := 2) rfl rfl 0 rfl (by decide) (by decide) rfl dL_law_993 ?_
      refine gk_iload G dL_law_994 0 rfl ?_
      refine gk_i2l (v := (r970).toInt64) G dL_law_996 rfl ?_
      refine gk_lcmp G dL_law_997 ?_
      refine gk_if_eq (tgt := 1003) G dL_law_998 (by decide) (fun c_998 => ?_) (fun c_998 => ?_)
      · refine gk_goto (tgt := 1565) G dL_law_1003 (by decide) ?_
        exact gk_lsub [2, 3, 4, 5, 6] rfl (K f958 u958 v970 _ _ (by omega) (by omega) hr958 hs970 hn970)
      · exact absurd (gl_cmp (hv958.trans (congrArg Int32.toInt64 hR970).symm)) c_998
  · exact absurd (hT976.trans hK958.symm) c_981
set_option maxRecDepth 100000 in
set_option maxHeartbeats 1000000 in
theorem lg_ground {p : Program} {l : Launch} {e : Env} {s : State} {m : MethodId} {args : Array Value} {below : List Frame} {meth : Method} {c : Code} {D : va_G} {A : Nat → Prop} {Q : State → Prop} {cI cZ cJ : ClassId} {b L : Nat} {xs : Nat → Int32} (G : gk_G p s m args meth c RL 9 cL_law (some .boolean) wsL_law D (g_T cI cZ cJ) A) (hE : gl_F A s s.heap) (hl9 : l.stackTraces = false) (hX : va_X b L xs s s.heap) (hbl : b < s.heap.size) (hbA : ¬ A b) (hL : L ≤ 2048) {g h1 h2 o h : Nat} {q q2 q3 : Nat → Nat} {f : Nat → Int64} {u0 : gw_U} {v0 : gd_U} {M : gm_M} (wf : gm_wf M) (hrest : gm_rest M) (hh : M 9 0 < 1999000) (hr : gc_rep u0.1.1 u0.1.2 M) (hs : gr_st v0.1 v0.2.1 M) (hn : gr_now v0.2.2.1 M) {i cells slots : Nat} (hi : i + 4 ≤ L) (hc : cells ≤ 500000) (hsl : slots ≤ 7000000)    (K : ∀ (f9 : Nat → Int64) (u9 : gw_U) (v9 : gd_U) (c9 s9 : Nat), c9 ≤ cells + 20 → s9 ≤ slots + 240 → gc_rep u9.1.1 u9.1.2 M → gr_st v9.1 v9.2.1 M → gr_now v9.2.2.1 M → gk_C p l e room_1 s m args below meth c 9 D A Q c9 s9 (gd_X cI h q3 v9 ++ (gw_O cJ o f9 ++ (gw_X cI cZ g h1 h2 q q2 u9))) [(4, .int (nI i)), (3, .ref o), (2, .ref h), (1, .ref g), (0, .ref b)] 1565 []) : gk_C p l e room_1 s m args below meth c 9 D A Q cells slots (gd_X cI h q3 v0 ++ (gw_O cJ o f ++ (gw_X cI cZ g h1 h2 q q2 u0))) [(4, .int (nI i)), (3, .ref o), (2, .ref h), (1, .ref g), (0, .ref b)] 1006 [] := by
  refine gk_aload_n G dL_law_1006 3 rfl ?_
  refine gk_callIV (wr := gd_X cI h q3 v0 ++ gw_O cJ o f) G (c1_ground l D cI cZ cJ g h1 h2 q u0.1.1 u0.1.2 q2 u0.2.1 u0.2.2 M wf hr) gL_law_X1_ground rfl 0 (by decide +kernel) rfl rfl ⟨(Nat.le_of_ble_eq_true rfl), (Nat.le_of_ble_eq_true rfl)⟩ rfl (q0 := 0) rfl (T := TX1) (N := 2) rfl gn_ok hE.1 [9, 10, 11, 12, 13, 14, 15, 16, 17, 18, 19, 20, 21, 22, 23, 24, 25, 26, 27, 28, 29] rfl (by decide) [0, 1, 2, 3, 4, 5, 6, 7, 8] rfl (by decide) (by decide) rfl (Nat.le_of_ble_eq_true rfl) dL_law_1007 ⟨(show cells + 0 ≤ 601024 by omega), (show slots + 0 ≤ 7293034 by omega)⟩ (fun r1007 u1007 hp1007 => ?_)
  have hK1007 : r1007 = nI (gm_gct M (M 11 0)) := hp1007.1
  have hr1007 : gc_rep u1007.1.1 u1007.1.2 M := hp1007.2
  refine gk_wsub (w' := (gd_X cI h q3 v0 ++ (gw_O cJ o f ++ (gw_X cI cZ g h1 h2 q q2 u1007)))) [0, 1, 2, 3, 4, 5, 6, 7, 8, 9, 10, 11, 12, 13, 14, 15, 16, 17, 18, 19, 20, 21, 22, 23, 24, 25, 26, 27, 28, 29] rfl (by decide) ?_
  show gk_C p l e room_1 s m args below meth c 9 D A Q (cells + 0) (slots + 0) (gd_X cI h q3 v0 ++ (gw_O cJ o f ++ (gw_X cI cZ g h1 h2 q q2 u1007))) [(4, .int (nI i)), (3, .ref o), (2, .ref h), (1, .ref g), (0, .ref b)] 1010 [.int r1007]
  refine gk_aload_n G dL_law_1010 2 rfl ?_
  refine gk_callIV (wr := gw_O cJ o f ++ (gw_X cI cZ g h1 h2 q q2 u1007)) G (c2_ground l D cI cZ cJ h q3 v0.1 v0.2.1 v0.2.2.1 v0.2.2.2.1 v0.2.2.2.2 M wf hs hn (by omega)) gL_law_X2_ground rfl 0 (by decide +kernel) rfl rfl ⟨(Nat.le_of_ble_eq_true rfl), (Nat.le_of_ble_eq_true rfl)⟩ rfl (q0 := 0) rfl (T := TX2) (N := 12) rfl gk_ok0 trivial [0, 1, 2, 3, 4, 5, 6, 7] rfl (by decide) [8, 9, 10, 11, 12, 13, 14, 15, 16, 17, 18, 19, 20, 21, 22, 23, 24, 25, 26, 27, 28, 29] rfl (by decide) (by decide) rfl (Nat.le_of_ble_eq_true rfl) dL_law_1011 ⟨(show (cells + 0) + 0 ≤ 601024 by omega), (show (slots + 0) + 0 ≤ 7293034 by omega)⟩ (fun r1011 v1011 hp1011 => ?_)
  have hR1011 : r1011 = nI (gm_gct M (M 11 0)) := hp1011.1
  have hs1011 : gr_st v1011.1 v1011.2.1 M := hp1011.2.1
  have hn1011 : gr_now v1011.2.2.1 M := hp1011.2.2.1
  have hF1011 : v1011.1 0 = nI 0 := hp1011.2.2.2
  refine gk_wsub (w' := (gd_X cI h q3 v1011 ++ (gw_O cJ o f ++ (gw_X cI cZ g h1 h2 q q2 u1007)))) [22, 23, 24, 25, 26, 27, 28, 29, 0, 1, 2, 3, 4, 5, 6, 7, 8, 9, 10, 11, 12, 13, 14, 15, 16, 17, 18, 19, 20, 21] rfl (by decide) ?_
  show gk_C p l e room_1 s m args below meth c 9 D A Q ((cells + 0) + 0) ((slots + 0) + 0) (gd_X cI h q3 v1011 ++ (gw_O cJ o f ++ (gw_X cI cZ g h1 h2 q q2 u1007))) [(4, .int (nI i)), (3, .ref o), (2, .ref h), (1, .ref g), (0, .ref b)] 1014 [.int r1011, .int r1007]
  refine gk_icmp_eq (tgt := 1565) G dL_law_1014 (by decide) (fun c_1014 => ?_) (fun c_1014 => ?_)
  · exact gk_lsub [0, 1, 2, 3, 4] rfl (K f u1007 v1011 _ _ (by omega) (by omega) hr1007 hs1011 hn1011)
  · exact absurd (hK1007.trans hR1011.symm) c_1014
set_option maxRecDepth 100000 in
set_option maxHeartbeats 1000000 in
theorem lg_changes {p : Program} {l : Launch} {e : Env} {s : State} {m : MethodId} {args : Array Value} {below : List Frame} {meth : Method} {c : Code} {D : va_G} {A : Nat → Prop} {Q : State → Prop} {cI cZ cJ : ClassId} {b L : Nat} {xs : Nat → Int32} (G : gk_G p s m args meth c RL 9 cL_law (some .boolean) wsL_law D (g_T cI cZ cJ) A) (hE : gl_F A s s.heap) (hl9 : l.stackTraces = false) (hX : va_X b L xs s s.heap) (hbl : b < s.heap.size) (hbA : ¬ A b) (hL : L ≤ 2048) {g h1 h2 o h : Nat} {q q2 q3 : Nat → Nat} {f : Nat → Int64} {u0 : gw_U} {v0 : gd_U} {M : gm_M} (wf : gm_wf M) (hrest : gm_rest M) (hh : M 9 0 < 1999000) (hr : gc_rep u0.1.1 u0.1.2 M) (hs : gr_st v0.1 v0.2.1 M) (hn : gr_now v0.2.2.1 M) {i cells slots : Nat} (hi : i + 4 ≤ L) (hc : cells ≤ 500000) (hsl : slots ≤ 7000000)    (K : ∀ (f9 : Nat → Int64) (u9 : gw_U) (v9 : gd_U) (c9 s9 : Nat), c9 ≤ cells + 20 → s9 ≤ slots + 240 → gc_rep u9.1.1 u9.1.2 M → gr_st v9.1 v9.2.1 M → gr_now v9.2.2.1 M → gk_C p l e room_1 s m args below meth c 9 D A Q c9 s9 (gd_X cI h q3 v9 ++ (gw_O cJ o f9 ++ (gw_X cI cZ g h1 h2 q q2 u9))) [(4, .int (nI i)), (3, .ref o), (2, .ref h), (1, .ref g), (0, .ref b)] 1565 []) : gk_C p l e room_1 s m args below meth c 9 D A Q cells slots (gd_X cI h q3 v0 ++ (gw_O cJ o f ++ (gw_X cI cZ g h1 h2 q q2 u0))) [(4, .int (nI i)), (3, .ref o), (2, .ref h), (1, .ref g), (0, .ref b)] 1019 [] := by
  refine gk_aload_n G dL_law_1019 3 rfl ?_
  refine gk_callIV (wr := gd_X cI h q3 v0 ++ gw_O cJ o f) G (c1_changes l D cI cZ cJ g h1 h2 q u0.1.1 u0.1.2 q2 u0.2.1 u0.2.2 M wf hr) gL_law_X1_changes rfl 0 (by decide +kernel) rfl rfl ⟨(Nat.le_of_ble_eq_true rfl), (Nat.le_of_ble_eq_true rfl)⟩ rfl (q0 := 0) rfl (T := TX1) (N := 2) rfl gn_ok hE.1 [9, 10, 11, 12, 13, 14, 15, 16, 17, 18, 19, 20, 21, 22, 23, 24, 25, 26, 27, 28, 29] rfl (by decide) [0, 1, 2, 3, 4, 5, 6, 7, 8] rfl (by decide) (by decide) rfl (Nat.le_of_ble_eq_true rfl) dL_law_1020 ⟨(show cells + 0 ≤ 601024 by omega), (show slots + 0 ≤ 7293034 by omega)⟩ (fun r1020 u1020 hp1020 => ?_)
  have hK1020 : r1020 = nI (M 13 0) := hp1020.1
  have hr1020 : gc_rep u1020.1.1 u1020.1.2 M := hp1020.2
  refine gk_wsub (w' := (gd_X cI h q3 v0 ++ (gw_O cJ o f ++ (gw_X cI cZ g h1 h2 q q2 u1020)))) [0, 1, 2, 3, 4, 5, 6, 7, 8, 9, 10, 11, 12, 13, 14, 15, 16, 17, 18, 19, 20, 21, 22, 23, 24, 25, 26, 27, 28, 29] rfl (by decide) ?_
  show gk_C p l e room_1 s m args below meth c 9 D A Q (cells + 0) (slots + 0) (gd_X cI h q3 v0 ++ (gw_O cJ o f ++ (gw_X cI cZ g h1 h2 q q2 u1020))) [(4, .int (nI i)), (3, .ref o), (2, .ref h), (1, .ref g), (0, .ref b)] 1023 [.int r1020]
  refine gk_aload_n G dL_law_1023 2 rfl ?_
  refine gk_callIV (wr := gw_O cJ o f ++ (gw_X cI cZ g h1 h2 q q2 u1020)) G (c2_changes l D cI cZ cJ h q3 v0.1 v0.2.1 v0.2.2.1 v0.2.2.2.1 v0.2.2.2.2 M wf hs hn) gL_law_X2_changes rfl 0 (by decide +kernel) rfl rfl ⟨(Nat.le_of_ble_eq_true rfl), (Nat.le_of_ble_eq_true rfl)⟩ rfl (q0 := 0) rfl (T := TX2) (N := 12) rfl gk_ok0 trivial [0, 1, 2, 3, 4, 5, 6, 7] rfl (by decide) [8, 9, 10, 11, 12, 13, 14, 15, 16, 17, 18, 19, 20, 21, 22, 23, 24, 25, 26, 27, 28, 29] rfl (by decide) (by decide) rfl (Nat.le_of_ble_eq_true rfl) dL_law_1024 ⟨(show (cells + 0) + 0 ≤ 601024 by omega), (show (slots + 0) + 0 ≤ 7293034 by omega)⟩ (fun r1024 v1024 hp1024 => ?_)
  have hR1024 : r1024 = nI (M 13 0) := hp1024.1
  have hs1024 : gr_st v1024.1 v1024.2.1 M := hp1024.2.1
  have hn1024 : gr_now v1024.2.2.1 M := hp1024.2.2.1
  have hF1024 : v1024.1 0 = nI 0 := hp1024.2.2.2
  refine gk_wsub (w' := (gd_X cI h q3 v1024 ++ (gw_O cJ o f ++ (gw_X cI cZ g h1 h2 q q2 u1020)))) [22, 23, 24, 25, 26, 27, 28, 29, 0, 1, 2, 3, 4, 5, 6, 7, 8, 9, 10, 11, 12, 13, 14, 15, 16, 17, 18, 19, 20, 21] rfl (by decide) ?_
  show gk_C p l e room_1 s m args below meth c 9 D A Q ((cells + 0) + 0) ((slots + 0) + 0) (gd_X cI h q3 v1024 ++ (gw_O cJ o f ++ (gw_X cI cZ g h1 h2 q q2 u1020))) [(4, .int (nI i)), (3, .ref o), (2, .ref h), (1, .ref g), (0, .ref b)] 1027 [.int r1024, .int r1020]
  refine gk_icmp_eq (tgt := 1565) G dL_law_1027 (by decide) (fun c_1027 => ?_) (fun c_1027 => ?_)
  · exact gk_lsub [0, 1, 2, 3, 4] rfl (K f u1020 v1024 _ _ (by omega) (by omega) hr1020 hs1024 hn1024)
  · exact absurd (hK1020.trans hR1024.symm) c_1027
set_option maxRecDepth 100000 in
set_option maxHeartbeats 1000000 in
theorem lg_first {p : Program} {l : Launch} {e : Env} {s : State} {m : MethodId} {args : Array Value} {below : List Frame} {meth : Method} {c : Code} {D : va_G} {A : Nat → Prop} {Q : State → Prop} {cI cZ cJ : ClassId} {b L : Nat} {xs : Nat → Int32} (G : gk_G p s m args meth c RL 9 cL_law (some .boolean) wsL_law D (g_T cI cZ cJ) A) (hE : gl_F A s s.heap) (hl9 : l.stackTraces = false) (hX : va_X b L xs s s.heap) (hbl : b < s.heap.size) (hbA : ¬ A b) (hL : L ≤ 2048) {g h1 h2 o h : Nat} {q q2 q3 : Nat → Nat} {f : Nat → Int64} {u0 : gw_U} {v0 : gd_U} {M : gm_M} (wf : gm_wf M) (hrest : gm_rest M) (hh : M 9 0 < 1999000) (hr : gc_rep u0.1.1 u0.1.2 M) (hs : gr_st v0.1 v0.2.1 M) (hn : gr_now v0.2.2.1 M) {i cells slots : Nat} (hi : i + 4 ≤ L) (hc : cells ≤ 500000) (hsl : slots ≤ 7000000)    (K : ∀ (f9 : Nat → Int64) (u9 : gw_U) (v9 : gd_U) (c9 s9 : Nat), c9 ≤ cells + 20 → s9 ≤ slots + 240 → gc_rep u9.1.1 u9.1.2 M → gr_st v9.1 v9.2.1 M → gr_now v9.2.2.1 M → gk_C p l e room_1 s m args below meth c 9 D A Q c9 s9 (gd_X cI h q3 v9 ++ (gw_O cJ o f9 ++ (gw_X cI cZ g h1 h2 q q2 u9))) [(4, .int (nI i)), (3, .ref o), (2, .ref h), (1, .ref g), (0, .ref b)] 1565 []) : gk_C p l e room_1 s m args below meth c 9 D A Q cells slots (gd_X cI h q3 v0 ++ (gw_O cJ o f ++ (gw_X cI cZ g h1 h2 q q2 u0))) [(4, .int (nI i)), (3, .ref o), (2, .ref h), (1, .ref g), (0, .ref b)] 1032 [] := by
  refine gk_aload_n G dL_law_1032 3 rfl ?_
  refine gk_callIV (wr := gd_X cI h q3 v0 ++ gw_O cJ o f) G (c1_first l D cI cZ cJ g h1 h2 q u0.1.1 u0.1.2 q2 u0.2.1 u0.2.2 M wf hr hrest) gL_law_X1_first rfl 0 (by decide +kernel) rfl rfl ⟨(Nat.le_of_ble_eq_true rfl), (Nat.le_of_ble_eq_true rfl)⟩ rfl (q0 := 0) rfl (T := TX1) (N := 2) rfl gn_ok hE.1 [9, 10, 11, 12, 13, 14, 15, 16, 17, 18, 19, 20, 21, 22, 23, 24, 25, 26, 27, 28, 29] rfl (by decide) [0, 1, 2, 3, 4, 5, 6, 7, 8] rfl (by decide) (by decide) rfl (Nat.le_of_ble_eq_true rfl) dL_law_1033 ⟨(show cells + 0 ≤ 601024 by omega), (show slots + 0 ≤ 7293034 by omega)⟩ (fun r1033 u1033 hp1033 => ?_)
  have hK1033 : r1033 = gm_e (gm_nxt M 0 (M 11 0)) := hp1033.1
  have hr1033 : gc_rep u1033.1.1 u1033.1.2 M := hp1033.2
  refine gk_wsub (w' := (gd_X cI h q3 v0 ++ (gw_O cJ o f ++ (gw_X cI cZ g h1 h2 q q2 u1033)))) [0, 1, 2, 3, 4, 5, 6, 7, 8, 9, 10, 11, 12, 13, 14, 15, 16, 17, 18, 19, 20, 21, 22, 23, 24, 25, 26, 27, 28, 29] rfl (by decide) ?_
  show gk_C p l e room_1 s m args below meth c 9 D A Q (cells + 0) (slots + 0) (gd_X cI h q3 v0 ++ (gw_O cJ o f ++ (gw_X cI cZ g h1 h2 q q2 u1033))) [(4, .int (nI i)), (3, .ref o), (2, .ref h), (1, .ref g), (0, .ref b)] 1036 [.int r1033]
  refine gk_aload_n G dL_law_1036 2 rfl ?_
  refine gk_callIV (wr := gw_O cJ o f ++ (gw_X cI cZ g h1 h2 q q2 u1033)) G (c2_first l D cI cZ cJ h q3 v0.1 v0.2.1 v0.2.2.1 v0.2.2.2.1 v0.2.2.2.2 M wf hs hn (by omega)) gL_law_X2_first rfl 0 (by decide +kernel) rfl rfl ⟨(Nat.le_of_ble_eq_true rfl), (Nat.le_of_ble_eq_true rfl)⟩ rfl (q0 := 0) rfl (T := TX2) (N := 12) rfl gk_ok0 trivial [0, 1, 2, 3, 4, 5, 6, 7] rfl (by decide) [8, 9, 10, 11, 12, 13, 14, 15, 16, 17, 18, 19, 20, 21, 22, 23, 24, 25, 26, 27, 28, 29] rfl (by decide) (by decide) rfl (Nat.le_of_ble_eq_true rfl) dL_law_1037 ⟨(show (cells + 0) + 0 ≤ 601024 by omega), (show (slots + 0) + 0 ≤ 7293034 by omega)⟩ (fun r1037 v1037 hp1037 => ?_)
  have hR1037 : r1037 = gm_e (gm_nxt M 0 (M 11 0)) := hp1037.1
  have hs1037 : gr_st v1037.1 v1037.2.1 M := hp1037.2.1
  have hn1037 : gr_now v1037.2.2.1 M := hp1037.2.2.1
  have hF1037 : v1037.1 0 = nI 0 := hp1037.2.2.2
  refine gk_wsub (w' := (gd_X cI h q3 v1037 ++ (gw_O cJ o f ++ (gw_X cI cZ g h1 h2 q q2 u1033)))) [22, 23, 24, 25, 26, 27, 28, 29, 0, 1, 2, 3, 4, 5, 6, 7, 8, 9, 10, 11, 12, 13, 14, 15, 16, 17, 18, 19, 20, 21] rfl (by decide) ?_
  show gk_C p l e room_1 s m args below meth c 9 D A Q ((cells + 0) + 0) ((slots + 0) + 0) (gd_X cI h q3 v1037 ++ (gw_O cJ o f ++ (gw_X cI cZ g h1 h2 q q2 u1033))) [(4, .int (nI i)), (3, .ref o), (2, .ref h), (1, .ref g), (0, .ref b)] 1040 [.int r1037, .int r1033]
  refine gk_icmp_eq (tgt := 1565) G dL_law_1040 (by decide) (fun c_1040 => ?_) (fun c_1040 => ?_)
  · exact gk_lsub [0, 1, 2, 3, 4] rfl (K f u1033 v1037 _ _ (by omega) (by omega) hr1033 hs1037 hn1037)
  · exact absurd (hK1033.trans hR1037.symm) c_1040
set_option maxRecDepth 100000 in
set_option maxHeartbeats 1000000 in
theorem lg_placeOf_no {p : Program} {l : Launch} {e : Env} {s : State} {m : MethodId} {args : Array Value} {below : List Frame} {meth : Method} {c : Code} {D : va_G} {A : Nat → Prop} {Q : State → Prop} {cI cZ cJ : ClassId} {b L : Nat} {xs : Nat → Int32} (G : gk_G p s m args meth c RL 9 cL_law (some .boolean) wsL_law D (g_T cI cZ cJ) A) (hE : gl_F A s s.heap) (hl9 : l.stackTraces = false) (hX : va_X b L xs s s.heap) (hbl : b < s.heap.size) (hbA : ¬ A b) (hL : L ≤ 2048) {g h1 h2 o h : Nat} {q q2 q3 : Nat → Nat} {f : Nat → Int64} {u0 : gw_U} {v0 : gd_U} {M : gm_M} (wf : gm_wf M) (hrest : gm_rest M) (hh : M 9 0 < 1999000) (hr : gc_rep u0.1.1 u0.1.2 M) (hs : gr_st v0.1 v0.2.1 M) (hn : gr_now v0.2.2.1 M) {i cells slots : Nat} (hi : i + 4 ≤ L) (hc : cells ≤ 500000) (hsl : slots ≤ 7000000) (p0 : Int32) (hb : ¬ gm_rg p0 0 (M 11 0)) (hx1 : xs (i + 1) = p0) (K : ∀ (f9 : Nat → Int64) (u9 : gw_U) (v9 : gd_U) (c9 s9 : Nat), c9 ≤ cells + 20 → s9 ≤ slots + 240 → gc_rep u9.1.1 u9.1.2 M → gr_st v9.1 v9.2.1 M → gr_now v9.2.2.1 M → gk_C p l e room_1 s m args below meth c 9 D A Q c9 s9 (gd_X cI h q3 v9 ++ (gw_O cJ o f9 ++ (gw_X cI cZ g h1 h2 q q2 u9))) [(4, .int (nI i)), (3, .ref o), (2, .ref h), (1, .ref g), (0, .ref b)] 1565 []) : gk_C p l e room_1 s m args below meth c 9 D A Q cells slots (gd_X cI h q3 v0 ++ (gw_O cJ o f ++ (gw_X cI cZ g h1 h2 q q2 u0))) [(4, .int (nI i)), (3, .ref o), (2, .ref h), (1, .ref g), (0, .ref b)] 1045 [] := by
  refine gk_aload_n G dL_law_1045 3 rfl ?_
  refine gk_aload_n G dL_law_1046 4 rfl ?_
  refine gk_iload G dL_law_1047 0 rfl ?_
  refine gk_iconst (v := nI 1) G dL_law_1049 (by decide) ?_
  refine gk_iadd (v := nI (i + 1)) G dL_law_1050 (nI_add i 1) ?_
  refine gk_sld (v := p0) G hX hbl hbA (i + 1) rfl (by omega) (by omega) hx1 dL_law_1051 ?_
  refine gk_aload_n G dL_law_1052 1 rfl ?_
  refine gk_callISW (wr := gd_X cI h q3 v0) G (cl_placeOf_no l D cI cZ cJ o f g h1 h2 q q2 u0 M hl9 p0 wf hr hb) gL_law_L_placeOf rfl 3 (by decide +kernel) rfl rfl ⟨(Nat.le_of_ble_eq_true rfl), (Nat.le_of_ble_eq_true rfl)⟩ rfl gl_Fok hE [8, 9, 10, 11, 12, 13, 14, 15, 16, 17, 18, 19, 20, 21, 22, 23, 24, 25, 26, 27, 28, 29] rfl (by decide) [0, 1, 2, 3, 4, 5, 6, 7] rfl (by decide) (by decide) rfl (Nat.le_of_ble_eq_true rfl) dL_law_1053 ⟨(show cells + 1 ≤ 601024 by omega), (show slots + 6 ≤ 7293034 by omega)⟩ (fun r1053 uu1053 hp1053 => ?_)
  obtain ⟨f1053, u1053⟩ := uu1053
  have hK1053 : r1053 = nI 1 := hp1053.1
  have hr1053 : gc_rep u1053.1.1 u1053.1.2 M := hp1053.2
  show gk_C p l e room_1 s m args below meth c 9 D A Q (cells + 1) (slots + 6) (gd_X cI h q3 v0 ++ (gw_O cJ o f1053 ++ (gw_X cI cZ g h1 h2 q q2 u1053))) [(4, .int (nI i)), (3, .ref o), (2, .ref h), (1, .ref g), (0, .ref b)] 1056 [.int r1053]
  refine gk_istore (lv' := [(5, .int r1053), (4, .int (nI i)), (3, .ref o), (2, .ref h), (1, .ref g), (0, .ref b)]) G dL_law_1056 (by decide) rfl ?_
  refine gk_aload_n G dL_law_1058 3 rfl ?_
  refine gk_aload_n G dL_law_1059 5 rfl ?_
  refine gk_iload G dL_law_1060 1 rfl ?_
  refine gk_iconst (v := nI 1) G dL_law_1062 (by decide) ?_
  refine gk_iadd (v := nI (i + 1)) G dL_law_1063 (nI_add i 1) ?_
  refine gk_sld (v := p0) G hX hbl hbA (i + 1) rfl (by omega) (by omega) hx1 dL_law_1064 ?_
  refine gk_callIV (wr := gw_O cJ o f1053 ++ (gw_X cI cZ g h1 h2 q q2 u1053)) G (c2_placeOf_no l D cI cZ cJ h q3 v0.1 v0.2.1 v0.2.2.1 v0.2.2.2.1 v0.2.2.2.2 M p0 wf hs hn hb) gL_law_X2_placeOf rfl 1 (by decide +kernel) rfl rfl ⟨(Nat.le_of_ble_eq_true rfl), (Nat.le_of_ble_eq_true rfl)⟩ rfl (q0 := 0) rfl (T := TX2) (N := 12) rfl gk_ok0 trivial [0, 1, 2, 3, 4, 5, 6, 7] rfl (by decide) [8, 9, 10, 11, 12, 13, 14, 15, 16, 17, 18, 19, 20, 21, 22, 23, 24, 25, 26, 27, 28, 29] rfl (by decide) (by decide) rfl (Nat.le_of_ble_eq_true rfl) dL_law_1065 ⟨(show (cells + 1) + 0 ≤ 601024 by omega), (show (slots + 6) + 0 ≤ 7293034 by omega)⟩ (fun r1065 v1065 hp1065 => ?_)
  have hR1065 : r1065 = nI 0 := hp1065.1
  have hs1065 : gr_st v1065.1 v1065.2.1 M := hp1065.2.1
  have hn1065 : gr_now v1065.2.2.1 M := hp1065.2.2.1
  have hF1065 : v1065.1 0 = nI 1 := hp1065.2.2.2
  refine gk_wsub (w' := (gd_X cI h q3 v1065 ++ (gw_O cJ o f1053 ++ (gw_X cI cZ g h1 h2 q q2 u1053)))) [22, 23, 24, 25, 26, 27, 28, 29, 0, 1, 2, 3, 4, 5, 6, 7, 8, 9, 10, 11, 12, 13, 14, 15, 16, 17, 18, 19, 20, 21] rfl (by decide) ?_
  show gk_C p l e room_1 s m args below meth c 9 D A Q ((cells + 1) + 0) ((slots + 6) + 0) (gd_X cI h q3 v1065 ++ (gw_O cJ o f1053 ++ (gw_X cI cZ g h1 h2 q q2 u1053))) [(5, .int r1053), (4, .int (nI i)), (3, .ref o), (2, .ref h), (1, .ref g), (0, .ref b)] 1068 [.int r1065]
  refine gk_istore (lv' := [(6, .int r1065), (5, .int r1053), (4, .int (nI i)), (3, .ref o), (2, .ref h), (1, .ref g), (0, .ref b)]) G dL_law_1068 (by decide) rfl ?_
  refine gk_aload_n G dL_law_1070 4 rfl ?_
  refine gk_callIV (wr := gw_O cJ o f1053 ++ (gw_X cI cZ g h1 h2 q q2 u1053)) G (c2_thrown l D cI cZ cJ h q3 v1065.1 v1065.2.1 v1065.2.2.1 v1065.2.2.2.1 v1065.2.2.2.2 M) gL_law_X2_thrown rfl 0 (by decide +kernel) rfl rfl ⟨(Nat.le_of_ble_eq_true rfl), (Nat.le_of_ble_eq_true rfl)⟩ rfl (q0 := 0) rfl (T := TX2) (N := 12) rfl gk_ok0 trivial [0, 1, 2, 3, 4, 5, 6, 7] rfl (by decide) [8, 9, 10, 11, 12, 13, 14, 15, 16, 17, 18, 19, 20, 21, 22, 23, 24, 25, 26, 27, 28, 29] rfl (by decide) (by decide) rfl (Nat.le_of_ble_eq_true rfl) dL_law_1071 ⟨(show ((cells + 1) + 0) + 0 ≤ 601024 by omega), (show ((slots + 6) + 0) + 0 ≤ 7293034 by omega)⟩ (fun r1071 u1071 hp1071 => ?_)
  have hT1071 : r1071 = nI 1 := (show r1071 = v1065.1 0 from hp1071).trans hF1065
  refine gk_wsub (w' := (gd_X cI h q3 v1065 ++ (gw_O cJ o f1053 ++ (gw_X cI cZ g h1 h2 q q2 u1053)))) [22, 23, 24, 25, 26, 27, 28, 29, 0, 1, 2, 3, 4, 5, 6, 7, 8, 9, 10, 11, 12, 13, 14, 15, 16, 17, 18, 19, 20, 21] rfl (by decide) ?_
  show gk_C p l e room_1 s m args below meth c 9 D A Q (((cells + 1) + 0) + 0) (((slots + 6) + 0) + 0) (gd_X cI h q3 v1065 ++ (gw_O cJ o f1053 ++ (gw_X cI cZ g h1 h2 q q2 u1053))) [(6, .int r1065), (5, .int r1053), (4, .int (nI i)), (3, .ref o), (2, .ref h), (1, .ref g), (0, .ref b)] 1074 [.int r1071]
  refine gk_iload G dL_law_1074 1 rfl ?_
  refine gk_icmp_eq (tgt := 1081) G dL_law_1076 (by decide) (fun c_1076 => ?_) (fun c_1076 => ?_)
  · refine gk_iload G dL_law_1081 1 rfl ?_
    refine gk_if_ne (tgt := 1098) G dL_law_1083 (by decide) (fun c_1083 => ?_) (fun c_1083 => ?_)
    · refine gk_goto (tgt := 1565) G dL_law_1098 (by decide) ?_
      exact gk_lsub [2, 3, 4, 5, 6] rfl (K f1053 u1053 v1065 _ _ (by omega) (by omega) hr1053 hs1065 hn1065)
    · exact absurd (hK1053.symm.trans c_1083) (by decide)
  · exact absurd (hT1071.trans hK1053.symm) c_1076
set_option maxRecDepth 100000 in
set_option maxHeartbeats 1000000 in
theorem lg_placeOf_ok {p : Program} {l : Launch} {e : Env} {s : State} {m : MethodId} {args : Array Value} {below : List Frame} {meth : Method} {c : Code} {D : va_G} {A : Nat → Prop} {Q : State → Prop} {cI cZ cJ : ClassId} {b L : Nat} {xs : Nat → Int32} (G : gk_G p s m args meth c RL 9 cL_law (some .boolean) wsL_law D (g_T cI cZ cJ) A) (hE : gl_F A s s.heap) (hl9 : l.stackTraces = false) (hX : va_X b L xs s s.heap) (hbl : b < s.heap.size) (hbA : ¬ A b) (hL : L ≤ 2048) {g h1 h2 o h : Nat} {q q2 q3 : Nat → Nat} {f : Nat → Int64} {u0 : gw_U} {v0 : gd_U} {M : gm_M} (wf : gm_wf M) (hrest : gm_rest M) (hh : M 9 0 < 1999000) (hr : gc_rep u0.1.1 u0.1.2 M) (hs : gr_st v0.1 v0.2.1 M) (hn : gr_now v0.2.2.1 M) {i cells slots : Nat} (hi : i + 4 ≤ L) (hc : cells ≤ 500000) (hsl : slots ≤ 7000000) (v : Nat) (hv : v < M 11 0) (hx1 : xs (i + 1) = nI v) (K : ∀ (f9 : Nat → Int64) (u9 : gw_U) (v9 : gd_U) (c9 s9 : Nat), c9 ≤ cells + 20 → s9 ≤ slots + 240 → gc_rep u9.1.1 u9.1.2 M → gr_st v9.1 v9.2.1 M → gr_now v9.2.2.1 M → gk_C p l e room_1 s m args below meth c 9 D A Q c9 s9 (gd_X cI h q3 v9 ++ (gw_O cJ o f9 ++ (gw_X cI cZ g h1 h2 q q2 u9))) [(4, .int (nI i)), (3, .ref o), (2, .ref h), (1, .ref g), (0, .ref b)] 1565 []) : gk_C p l e room_1 s m args below meth c 9 D A Q cells slots (gd_X cI h q3 v0 ++ (gw_O cJ o f ++ (gw_X cI cZ g h1 h2 q q2 u0))) [(4, .int (nI i)), (3, .ref o), (2, .ref h), (1, .ref g), (0, .ref b)] 1045 [] := by
  refine gk_aload_n G dL_law_1045 3 rfl ?_
  refine gk_aload_n G dL_law_1046 4 rfl ?_
  refine gk_iload G dL_law_1047 0 rfl ?_
  refine gk_iconst (v := nI 1) G dL_law_1049 (by decide) ?_
  refine gk_iadd (v := nI (i + 1)) G dL_law_1050 (nI_add i 1) ?_
  refine gk_sld (v := (nI v)) G hX hbl hbA (i + 1) rfl (by omega) (by omega) hx1 dL_law_1051 ?_
  refine gk_aload_n G dL_law_1052 1 rfl ?_
  refine gk_callISW (wr := gd_X cI h q3 v0) G (cl_placeOf_ok l D cI cZ cJ o f g h1 h2 q q2 u0 M v wf hr hrest hv) gL_law_L_placeOf rfl 3 (by decide +kernel) rfl rfl ⟨(Nat.le_of_ble_eq_true rfl), (Nat.le_of_ble_eq_true rfl)⟩ rfl gl_Fok hE [8, 9, 10, 11, 12, 13, 14, 15, 16, 17, 18, 19, 20, 21, 22, 23, 24, 25, 26, 27, 28, 29] rfl (by decide) [0, 1, 2, 3, 4, 5, 6, 7] rfl (by decide) (by decide) rfl (Nat.le_of_ble_eq_true rfl) dL_law_1053 ⟨(show cells + 0 ≤ 601024 by omega), (show slots + 0 ≤ 7293034 by omega)⟩ (fun r1053 uu1053 hp1053 => ?_)
  obtain ⟨f1053, u1053⟩ := uu1053
  have hK1053 : r1053 = nI 0 := hp1053.1
  have hv1053 : f1053 0 = (gm_plc M v).toInt64 := hp1053.2.1
  have hr1053 : gc_rep u1053.1.1 u1053.1.2 M := hp1053.2.2
  show gk_C p l e room_1 s m args below meth c 9 D A Q (cells + 0) (slots + 0) (gd_X cI h q3 v0 ++ (gw_O cJ o f1053 ++ (gw_X cI cZ g h1 h2 q q2 u1053))) [(4, .int (nI i)), (3, .ref o), (2, .ref h), (1, .ref g), (0, .ref b)] 1056 [.int r1053]
  refine gk_istore (lv' := [(5, .int r1053), (4, .int (nI i)), (3, .ref o), (2, .ref h), (1, .ref g), (0, .ref b)]) G dL_law_1056 (by decide) rfl ?_
  refine gk_aload_n G dL_law_1058 3 rfl ?_
  refine gk_aload_n G dL_law_1059 5 rfl ?_
  refine gk_iload G dL_law_1060 1 rfl ?_
  refine gk_iconst (v := nI 1) G dL_law_1062 (by decide) ?_
  refine gk_iadd (v := nI (i + 1)) G dL_law_1063 (nI_add i 1) ?_
  refine gk_sld (v := (nI v)) G hX hbl hbA (i + 1) rfl (by omega) (by omega) hx1 dL_law_1064 ?_
  refine gk_callIV (wr := gw_O cJ o f1053 ++ (gw_X cI cZ g h1 h2 q q2 u1053)) G (c2_placeOf_ok l D cI cZ cJ h q3 v0.1 v0.2.1 v0.2.2.1 v0.2.2.2.1 v0.2.2.2.2 M v wf hs hn (by omega) (by omega)) gL_law_X2_placeOf rfl 1 (by decide +kernel) rfl rfl ⟨(Nat.le_of_ble_eq_true rfl), (Nat.le_of_ble_eq_true rfl)⟩ rfl (q0 := 0) rfl (T := TX2) (N := 12) rfl gk_ok0 trivial [0, 1, 2, 3, 4, 5, 6, 7] rfl (by decide) [8, 9, 10, 11, 12, 13, 14, 15, 16, 17, 18, 19, 20, 21, 22, 23, 24, 25, 26, 27, 28, 29] rfl (by decide) (by decide) rfl (Nat.le_of_ble_eq_true rfl) dL_law_1065 ⟨(show (cells + 0) + 0 ≤ 601024 by omega), (show (slots + 0) + 0 ≤ 7293034 by omega)⟩ (fun r1065 v1065 hp1065 => ?_)
  have hR1065 : r1065 = gm_plc M v := hp1065.1
  have hs1065 : gr_st v1065.1 v1065.2.1 M := hp1065.2.1
  have hn1065 : gr_now v1065.2.2.1 M := hp1065.2.2.1
  have hF1065 : v1065.1 0 = nI 0 := hp1065.2.2.2
  refine gk_wsub (w' := (gd_X cI h q3 v1065 ++ (gw_O cJ o f1053 ++ (gw_X cI cZ g h1 h2 q q2 u1053)))) [22, 23, 24, 25, 26, 27, 28, 29, 0, 1, 2, 3, 4, 5, 6, 7, 8, 9, 10, 11, 12, 13, 14, 15, 16, 17, 18, 19, 20, 21] rfl (by decide) ?_
  show gk_C p l e room_1 s m args below meth c 9 D A Q ((cells + 0) + 0) ((slots + 0) + 0) (gd_X cI h q3 v1065 ++ (gw_O cJ o f1053 ++ (gw_X cI cZ g h1 h2 q q2 u1053))) [(5, .int r1053), (4, .int (nI i)), (3, .ref o), (2, .ref h), (1, .ref g), (0, .ref b)] 1068 [.int r1065]
  refine gk_istore (lv' := [(6, .int r1065), (5, .int r1053), (4, .int (nI i)), (3, .ref o), (2, .ref h), (1, .ref g), (0, .ref b)]) G dL_law_1068 (by decide) rfl ?_
  refine gk_aload_n G dL_law_1070 4 rfl ?_
  refine gk_callIV (wr := gw_O cJ o f1053 ++ (gw_X cI cZ g h1 h2 q q2 u1053)) G (c2_thrown l D cI cZ cJ h q3 v1065.1 v1065.2.1 v1065.2.2.1 v1065.2.2.2.1 v1065.2.2.2.2 M) gL_law_X2_thrown rfl 0 (by decide +kernel) rfl rfl ⟨(Nat.le_of_ble_eq_true rfl), (Nat.le_of_ble_eq_true rfl)⟩ rfl (q0 := 0) rfl (T := TX2) (N := 12) rfl gk_ok0 trivial [0, 1, 2, 3, 4, 5, 6, 7] rfl (by decide) [8, 9, 10, 11, 12, 13, 14, 15, 16, 17, 18, 19, 20, 21, 22, 23, 24, 25, 26, 27, 28, 29] rfl (by decide) (by decide) rfl (Nat.le_of_ble_eq_true rfl) dL_law_1071 ⟨(show ((cells + 0) + 0) + 0 ≤ 601024 by omega), (show ((slots + 0) + 0) + 0 ≤ 7293034 by omega)⟩ (fun r1071 u1071 hp1071 => ?_)
  have hT1071 : r1071 = nI 0 := (show r1071 = v1065.1 0 from hp1071).trans hF1065
  refine gk_wsub (w' := (gd_X cI h q3 v1065 ++ (gw_O cJ o f1053 ++ (gw_X cI cZ g h1 h2 q q2 u1053)))) [22, 23, 24, 25, 26, 27, 28, 29, 0, 1, 2, 3, 4, 5, 6, 7, 8, 9, 10, 11, 12, 13, 14, 15, 16, 17, 18, 19, 20, 21] rfl (by decide) ?_
  show gk_C p l e room_1 s m args below meth c 9 D A Q (((cells + 0) + 0) + 0) (((slots + 0) + 0) + 0) (gd_X cI h q3 v1065 ++ (gw_O cJ o f1053 ++ (gw_X cI cZ g h1 h2 q q2 u1053))) [(6, .int r1065), (5, .int r1053), (4, .int (nI i)), (3, .ref o), (2, .ref h), (1, .ref g), (0, .ref b)] 1074 [.int r1071]
  refine gk_iload G dL_law_1074 1 rfl ?_
  refine gk_icmp_eq (tgt := 1081) G dL_law_1076 (by decide) (fun c_1076 => ?_) (fun c_1076 => ?_)
  · refine gk_iload G dL_law_1081 1 rfl ?_
    refine gk_if_ne (tgt := 1098) G dL_law_1083 (by decide) (fun c_1083 => ?_) (fun c_1083 => ?_)
    · exact absurd (hK1053.trans nI_0) c_1083
    · refine gk_aload_n G dL_law_1086 3 rfl ?_
      refine gk_iconst (v := nI 0) G dL_law_1087 (by decide) ?_
      refine gk_lald (v := f1053 0) G (q0 := 8) (t0 := 2) rfl rfl 0 rfl (by decide) (by decide) rfl dL_law_1088 ?_
      refine gk_iload G dL_law_1089 0 rfl ?_
      refine gk_i2l (v := (r1065).toInt64) G dL_law_1091 rfl ?_
      refine gk_lcmp G dL_law_1092 ?_
      refine gk_if_eq (tgt := 1098) G dL_law_1093 (by decide) (fun c_1093 => ?_) (fun c_1093 => ?_)
      · refine gk_goto (tgt := 1565) G dL_law_1098 (by decide) ?_
        exact gk_lsub [2, 3, 4, 5, 6] rfl (K f1053 u1053 v1065 _ _ (by omega) (by omega) hr1053 hs1065 hn1065)
      · exact absurd (gl_cmp (hv1053.trans (congrArg Int32.toInt64 hR1065).symm)) c_1093
  · exact absurd (hT1071.trans hK1053.symm) c_1076
set_option maxRecDepth 100000 in
set_option maxHeartbeats 1000000 in
theorem lg_leftFor_no {p : Program} {l : Launch} {e : Env} {s : State} {m : MethodId} {args : Array Value} {below : List Frame} {meth : Method} {c : Code} {D : va_G} {A : Nat → Prop} {Q : State → Prop} {cI cZ cJ : ClassId} {b L : Nat} {xs : Nat → Int32} (G : gk_G p s m args meth c RL 9 cL_law (some .boolean) wsL_law D (g_T cI cZ cJ) A) (hE : gl_F A s s.heap) (hl9 : l.stackTraces = false) (hX : va_X b L xs s s.heap) (hbl : b < s.heap.size) (hbA : ¬ A b) (hL : L ≤ 2048) {g h1 h2 o h : Nat} {q q2 q3 : Nat → Nat} {f : Nat → Int64} {u0 : gw_U} {v0 : gd_U} {M : gm_M} (wf : gm_wf M) (hrest : gm_rest M) (hh : M 9 0 < 1999000) (hr : gc_rep u0.1.1 u0.1.2 M) (hs : gr_st v0.1 v0.2.1 M) (hn : gr_now v0.2.2.1 M) {i cells slots : Nat} (hi : i + 4 ≤ L) (hc : cells ≤ 500000) (hsl : slots ≤ 7000000) (p0 : Int32) (hb : ¬ gm_rg p0 0 8) (hx1 : xs (i + 1) = p0) (K : ∀ (f9 : Nat → Int64) (u9 : gw_U) (v9 : gd_U) (c9 s9 : Nat), c9 ≤ cells + 20 → s9 ≤ slots + 240 → gc_rep u9.1.1 u9.1.2 M → gr_st v9.1 v9.2.1 M → gr_now v9.2.2.1 M → gk_C p l e room_1 s m args below meth c 9 D A Q c9 s9 (gd_X cI h q3 v9 ++ (gw_O cJ o f9 ++ (gw_X cI cZ g h1 h2 q q2 u9))) [(4, .int (nI i)), (3, .ref o), (2, .ref h), (1, .ref g), (0, .ref b)] 1565 []) : gk_C p l e room_1 s m args below meth c 9 D A Q cells slots (gd_X cI h q3 v0 ++ (gw_O cJ o f ++ (gw_X cI cZ g h1 h2 q q2 u0))) [(4, .int (nI i)), (3, .ref o), (2, .ref h), (1, .ref g), (0, .ref b)] 1101 [] := by
  refine gk_aload_n G dL_law_1101 3 rfl ?_
  refine gk_aload_n G dL_law_1102 4 rfl ?_
  refine gk_iload G dL_law_1103 0 rfl ?_
  refine gk_iconst (v := nI 1) G dL_law_1105 (by decide) ?_
  refine gk_iadd (v := nI (i + 1)) G dL_law_1106 (nI_add i 1) ?_
  refine gk_sld (v := p0) G hX hbl hbA (i + 1) rfl (by omega) (by omega) hx1 dL_law_1107 ?_
  refine gk_aload_n G dL_law_1108 1 rfl ?_
  refine gk_callISW (wr := gd_X cI h q3 v0) G (cl_leftFor_no l D cI cZ cJ o f g h1 h2 q q2 u0 M hl9 p0 wf hr hb) gL_law_L_leftFor rfl 3 (by decide +kernel) rfl rfl ⟨(Nat.le_of_ble_eq_true rfl), (Nat.le_of_ble_eq_true rfl)⟩ rfl gl_Fok hE [8, 9, 10, 11, 12, 13, 14, 15, 16, 17, 18, 19, 20, 21, 22, 23, 24, 25, 26, 27, 28, 29] rfl (by decide) [0, 1, 2, 3, 4, 5, 6, 7] rfl (by decide) (by decide) rfl (Nat.le_of_ble_eq_true rfl) dL_law_1109 ⟨(show cells + 1 ≤ 601024 by omega), (show slots + 6 ≤ 7293034 by omega)⟩ (fun r1109 uu1109 hp1109 => ?_)
  obtain ⟨f1109, u1109⟩ := uu1109
  have hK1109 : r1109 = nI 1 := hp1109.1
  have hr1109 : gc_rep u1109.1.1 u1109.1.2 M := hp1109.2
  show gk_C p l e room_1 s m args below meth c 9 D A Q (cells + 1) (slots + 6) (gd_X cI h q3 v0 ++ (gw_O cJ o f1109 ++ (gw_X cI cZ g h1 h2 q q2 u1109))) [(4, .int (nI i)), (3, .ref o), (2, .ref h), (1, .ref g), (0, .ref b)] 1112 [.int r1109]
  refine gk_istore (lv' := [(5, .int r1109), (4, .int (nI i)), (3, .ref o), (2, .ref h), (1, .ref g), (0, .ref b)]) G dL_law_1112 (by decide) rfl ?_
  refine gk_aload_n G dL_law_1114 3 rfl ?_
  refine gk_aload_n G dL_law_1115 5 rfl ?_
  refine gk_iload G dL_law_1116 1 rfl ?_
  refine gk_iconst (v := nI 1) G dL_law_1118 (by decide) ?_
  refine gk_iadd (v := nI (i + 1)) G dL_law_1119 (nI_add i 1) ?_
  refine gk_sld (v := p0) G hX hbl hbA (i + 1) rfl (by omega) (by omega) hx1 dL_law_1120 ?_
  refine gk_callIV (wr := gw_O cJ o f1109 ++ (gw_X cI cZ g h1 h2 q q2 u1109)) G (c2_leftFor_no l D cI cZ cJ h q3 v0.1 v0.2.1 v0.2.2.1 v0.2.2.2.1 v0.2.2.2.2 M p0 wf hs hn hb) gL_law_X2_leftFor rfl 1 (by decide +kernel) rfl rfl ⟨(Nat.le_of_ble_eq_true rfl), (Nat.le_of_ble_eq_true rfl)⟩ rfl (q0 := 0) rfl (T := TX2) (N := 12) rfl gk_ok0 trivial [0, 1, 2, 3, 4, 5, 6, 7] rfl (by decide) [8, 9, 10, 11, 12, 13, 14, 15, 16, 17, 18, 19, 20, 21, 22, 23, 24, 25, 26, 27, 28, 29] rfl (by decide) (by decide) rfl (Nat.le_of_ble_eq_true rfl) dL_law_1121 ⟨(show (cells + 1) + 0 ≤ 601024 by omega), (show (slots + 6) + 0 ≤ 7293034 by omega)⟩ (fun r1121 v1121 hp1121 => ?_)
  have hR1121 : r1121 = nI 0 := hp1121.1
  have hs1121 : gr_st v1121.1 v1121.2.1 M := hp1121.2.1
  have hn1121 : gr_now v1121.2.2.1 M := hp1121.2.2.1
  have hF1121 : v1121.1 0 = nI 1 := hp1121.2.2.2
  refine gk_wsub (w' := (gd_X cI h q3 v1121 ++ (gw_O cJ o f1109 ++ (gw_X cI cZ g h1 h2 q q2 u1109)))) [22, 23, 24, 25, 26, 27, 28, 29, 0, 1, 2, 3, 4, 5, 6, 7, 8, 9, 10, 11, 12, 13, 14, 15, 16, 17, 18, 19, 20, 21] rfl (by decide) ?_
  show gk_C p l e room_1 s m args below meth c 9 D A Q ((cells + 1) + 0) ((slots + 6) + 0) (gd_X cI h q3 v1121 ++ (gw_O cJ o f1109 ++ (gw_X cI cZ g h1 h2 q q2 u1109))) [(5, .int r1109), (4, .int (nI i)), (3, .ref o), (2, .ref h), (1, .ref g), (0, .ref b)] 1124 [.int r1121]
  refine gk_istore (lv' := [(6, .int r1121), (5, .int r1109), (4, .int (nI i)), (3, .ref o), (2, .ref h), (1, .ref g), (0, .ref b)]) G dL_law_1124 (by decide) rfl ?_
  refine gk_aload_n G dL_law_1126 4 rfl ?_
  refine gk_callIV (wr := gw_O cJ o f1109 ++ (gw_X cI cZ g h1 h2 q q2 u1109)) G (c2_thrown l D cI cZ cJ h q3 v1121.1 v1121.2.1 v1121.2.2.1 v1121.2.2.2.1 v1121.2.2.2.2 M) gL_law_X2_thrown rfl 0 (by decide +kernel) rfl rfl ⟨(Nat.le_of_ble_eq_true rfl), (Nat.le_of_ble_eq_true rfl)⟩ rfl (q0 := 0) rfl (T := TX2) (N := 12) rfl gk_ok0 trivial [0, 1, 2, 3, 4, 5, 6, 7] rfl (by decide) [8, 9, 10, 11, 12, 13, 14, 15, 16, 17, 18, 19, 20, 21, 22, 23, 24, 25, 26, 27, 28, 29] rfl (by decide) (by decide) rfl (Nat.le_of_ble_eq_true rfl) dL_law_1127 ⟨(show ((cells + 1) + 0) + 0 ≤ 601024 by omega), (show ((slots + 6) + 0) + 0 ≤ 7293034 by omega)⟩ (fun r1127 u1127 hp1127 => ?_)
  have hT1127 : r1127 = nI 1 := (show r1127 = v1121.1 0 from hp1127).trans hF1121
  refine gk_wsub (w' := (gd_X cI h q3 v1121 ++ (gw_O cJ o f1109 ++ (gw_X cI cZ g h1 h2 q q2 u1109)))) [22, 23, 24, 25, 26, 27, 28, 29, 0, 1, 2, 3, 4, 5, 6, 7, 8, 9, 10, 11, 12, 13, 14, 15, 16, 17, 18, 19, 20, 21] rfl (by decide) ?_
  show gk_C p l e room_1 s m args below meth c 9 D A Q (((cells + 1) + 0) + 0) (((slots + 6) + 0) + 0) (gd_X cI h q3 v1121 ++ (gw_O cJ o f1109 ++ (gw_X cI cZ g h1 h2 q q2 u1109))) [(6, .int r1121), (5, .int r1109), (4, .int (nI i)), (3, .ref o), (2, .ref h), (1, .ref g), (0, .ref b)] 1130 [.int r1127]
  refine gk_iload G dL_law_1130 1 rfl ?_
  refine gk_icmp_eq (tgt := 1137) G dL_law_1132 (by decide) (fun c_1132 => ?_) (fun c_1132 => ?_)
  · refine gk_iload G dL_law_1137 1 rfl ?_
    refine gk_if_ne (tgt := 1154) G dL_law_1139 (by decide) (fun c_1139 => ?_) (fun c_1139 => ?_)
    · refine gk_goto (tgt := 1565) G dL_law_1154 (by decide) ?_
      exact gk_lsub [2, 3, 4, 5, 6] rfl (K f1109 u1109 v1121 _ _ (by omega) (by omega) hr1109 hs1121 hn1121)
    · exact absurd (hK1109.symm.trans c_1139) (by decide)
  · exact absurd (hT1127.trans hK1109.symm) c_1132
set_option maxRecDepth 100000 in
set_option maxHeartbeats 1000000 in
theorem lg_leftFor_ok {p : Program} {l : Launch} {e : Env} {s : State} {m : MethodId} {args : Array Value} {below : List Frame} {meth : Method} {c : Code} {D : va_G} {A : Nat → Prop} {Q : State → Prop} {cI cZ cJ : ClassId} {b L : Nat} {xs : Nat → Int32} (G : gk_G p s m args meth c RL 9 cL_law (some .boolean) wsL_law D (g_T cI cZ cJ) A) (hE : gl_F A s s.heap) (hl9 : l.stackTraces = false) (hX : va_X b L xs s s.heap) (hbl : b < s.heap.size) (hbA : ¬ A b) (hL : L ≤ 2048) {g h1 h2 o h : Nat} {q q2 q3 : Nat → Nat} {f : Nat → Int64} {u0 : gw_U} {v0 : gd_U} {M : gm_M} (wf : gm_wf M) (hrest : gm_rest M) (hh : M 9 0 < 1999000) (hr : gc_rep u0.1.1 u0.1.2 M) (hs : gr_st v0.1 v0.2.1 M) (hn : gr_now v0.2.2.1 M) {i cells slots : Nat} (hi : i + 4 ≤ L) (hc : cells ≤ 500000) (hsl : slots ≤ 7000000) (v : Nat) (hv : v < 8) (hx1 : xs (i + 1) = nI v) (K : ∀ (f9 : Nat → Int64) (u9 : gw_U) (v9 : gd_U) (c9 s9 : Nat), c9 ≤ cells + 20 → s9 ≤ slots + 240 → gc_rep u9.1.1 u9.1.2 M → gr_st v9.1 v9.2.1 M → gr_now v9.2.2.1 M → gk_C p l e room_1 s m args below meth c 9 D A Q c9 s9 (gd_X cI h q3 v9 ++ (gw_O cJ o f9 ++ (gw_X cI cZ g h1 h2 q q2 u9))) [(4, .int (nI i)), (3, .ref o), (2, .ref h), (1, .ref g), (0, .ref b)] 1565 []) : gk_C p l e room_1 s m args below meth c 9 D A Q cells slots (gd_X cI h q3 v0 ++ (gw_O cJ o f ++ (gw_X cI cZ g h1 h2 q q2 u0))) [(4, .int (nI i)), (3, .ref o), (2, .ref h), (1, .ref g), (0, .ref b)] 1101 [] := by
  refine gk_aload_n G dL_law_1101 3 rfl ?_
  refine gk_aload_n G dL_law_1102 4 rfl ?_
  refine gk_iload G dL_law_1103 0 rfl ?_
  refine gk_iconst (v := nI 1) G dL_law_1105 (by decide) ?_
  refine gk_iadd (v := nI (i + 1)) G dL_law_1106 (nI_add i 1) ?_
  refine gk_sld (v := (nI v)) G hX hbl hbA (i + 1) rfl (by omega) (by omega) hx1 dL_law_1107 ?_
  refine gk_aload_n G dL_law_1108 1 rfl ?_
  refine gk_callISW (wr := gd_X cI h q3 v0) G (cl_leftFor_ok l D cI cZ cJ o f g h1 h2 q q2 u0 M v wf hr hv) gL_law_L_leftFor rfl 3 (by decide +kernel) rfl rfl ⟨(Nat.le_of_ble_eq_true rfl), (Nat.le_of_ble_eq_true rfl)⟩ rfl gl_Fok hE [8, 9, 10, 11, 12, 13, 14, 15, 16, 17, 18, 19, 20, 21, 22, 23, 24, 25, 26, 27, 28, 29] rfl (by decide) [0, 1, 2, 3, 4, 5, 6, 7] rfl (by decide) (by decide) rfl (Nat.le_of_ble_eq_true rfl) dL_law_1109 ⟨(show cells + 0 ≤ 601024 by omega), (show slots + 0 ≤ 7293034 by omega)⟩ (fun r1109 uu1109 hp1109 => ?_)
  obtain ⟨f1109, u1109⟩ := uu1109
  have hK1109 : r1109 = nI 0 := hp1109.1
  have hv1109 : f1109 0 = (nI (gm_rst M v (M 11 0))).toInt64 := hp1109.2.1
  have hr1109 : gc_rep u1109.1.1 u1109.1.2 M := hp1109.2.2
  show gk_C p l e room_1 s m args below meth c 9 D A Q (cells + 0) (slots + 0) (gd_X cI h q3 v0 ++ (gw_O cJ o f1109 ++ (gw_X cI cZ g h1 h2 q q2 u1109))) [(4, .int (nI i)), (3, .ref o), (2, .ref h), (1, .ref g), (0, .ref b)] 1112 [.int r1109]
  refine gk_istore (lv' := [(5, .int r1109), (4, .int (nI i)), (3, .ref o), (2, .ref h), (1, .ref g), (0, .ref b)]) G dL_law_1112 (by decide) rfl ?_
  refine gk_aload_n G dL_law_1114 3 rfl ?_
  refine gk_aload_n G dL_law_1115 5 rfl ?_
  refine gk_iload G dL_law_1116 1 rfl ?_
  refine gk_iconst (v := nI 1) G dL_law_1118 (by decide) ?_
  refine gk_iadd (v := nI (i + 1)) G dL_law_1119 (nI_add i 1) ?_
  refine gk_sld (v := (nI v)) G hX hbl hbA (i + 1) rfl (by omega) (by omega) hx1 dL_law_1120 ?_
  refine gk_callIV (wr := gw_O cJ o f1109 ++ (gw_X cI cZ g h1 h2 q q2 u1109)) G (c2_leftFor_ok l D cI cZ cJ h q3 v0.1 v0.2.1 v0.2.2.1 v0.2.2.2.1 v0.2.2.2.2 M v wf hs hn (by omega)) gL_law_X2_leftFor rfl 1 (by decide +kernel) rfl rfl ⟨(Nat.le_of_ble_eq_true rfl), (Nat.le_of_ble_eq_true rfl)⟩ rfl (q0 := 0) rfl (T := TX2) (N := 12) rfl gk_ok0 trivial [0, 1, 2, 3, 4, 5, 6, 7] rfl (by decide) [8, 9, 10, 11, 12, 13, 14, 15, 16, 17, 18, 19, 20, 21, 22, 23, 24, 25, 26, 27, 28, 29] rfl (by decide) (by decide) rfl (Nat.le_of_ble_eq_true rfl) dL_law_1121 ⟨(show (cells + 0) + 0 ≤ 601024 by omega), (show (slots + 0) + 0 ≤ 7293034 by omega)⟩ (fun r1121 v1121 hp1121 => ?_)
  have hR1121 : r1121 = nI (gm_rst M v (M 11 0)) := hp1121.1
  have hs1121 : gr_st v1121.1 v1121.2.1 M := hp1121.2.1
  have hn1121 : gr_now v1121.2.2.1 M := hp1121.2.2.1
  have hF1121 : v1121.1 0 = nI 0 := hp1121.2.2.2
  refine gk_wsub (w' := (gd_X cI h q3 v1121 ++ (gw_O cJ o f1109 ++ (gw_X cI cZ g h1 h2 q q2 u1109)))) [22, 23, 24, 25, 26, 27, 28, 29, 0, 1, 2, 3, 4, 5, 6, 7, 8, 9, 10, 11, 12, 13, 14, 15, 16, 17, 18, 19, 20, 21] rfl (by decide) ?_
  show gk_C p l e room_1 s m args below meth c 9 D A Q ((cells + 0) + 0) ((slots + 0) + 0) (gd_X cI h q3 v1121 ++ (gw_O cJ o f1109 ++ (gw_X cI cZ g h1 h2 q q2 u1109))) [(5, .int r1109), (4, .int (nI i)), (3, .ref o), (2, .ref h), (1, .ref g), (0, .ref b)] 1124 [.int r1121]
  refine gk_istore (lv' := [(6, .int r1121), (5, .int r1109), (4, .int (nI i)), (3, .ref o), (2, .ref h), (1, .ref g), (0, .ref b)]) G dL_law_1124 (by decide) rfl ?_
  refine gk_aload_n G dL_law_1126 4 rfl ?_
  refine gk_callIV (wr := gw_O cJ o f1109 ++ (gw_X cI cZ g h1 h2 q q2 u1109)) G (c2_thrown l D cI cZ cJ h q3 v1121.1 v1121.2.1 v1121.2.2.1 v1121.2.2.2.1 v1121.2.2.2.2 M) gL_law_X2_thrown rfl 0 (by decide +kernel) rfl rfl ⟨(Nat.le_of_ble_eq_true rfl), (Nat.le_of_ble_eq_true rfl)⟩ rfl (q0 := 0) rfl (T := TX2) (N := 12) rfl gk_ok0 trivial [0, 1, 2, 3, 4, 5, 6, 7] rfl (by decide) [8, 9, 10, 11, 12, 13, 14, 15, 16, 17, 18, 19, 20, 21, 22, 23, 24, 25, 26, 27, 28, 29] rfl (by decide) (by decide) rfl (Nat.le_of_ble_eq_true rfl) dL_law_1127 ⟨(show ((cells + 0) + 0) + 0 ≤ 601024 by omega), (show ((slots + 0) + 0) + 0 ≤ 7293034 by omega)⟩ (fun r1127 u1127 hp1127 => ?_)
  have hT1127 : r1127 = nI 0 := (show r1127 = v1121.1 0 from hp1127).trans hF1121
  refine gk_wsub (w' := (gd_X cI h q3 v1121 ++ (gw_O cJ o f1109 ++ (gw_X cI cZ g h1 h2 q q2 u1109)))) [22, 23, 24, 25, 26, 27, 28, 29, 0, 1, 2, 3, 4, 5, 6, 7, 8, 9, 10, 11, 12, 13, 14, 15, 16, 17, 18, 19, 20, 21] rfl (by decide) ?_
  show gk_C p l e room_1 s m args below meth c 9 D A Q (((cells + 0) + 0) + 0) (((slots + 0) + 0) + 0) (gd_X cI h q3 v1121 ++ (gw_O cJ o f1109 ++ (gw_X cI cZ g h1 h2 q q2 u1109))) [(6, .int r1121), (5, .int r1109), (4, .int (nI i)), (3, .ref o), (2, .ref h), (1, .ref g), (0, .ref b)] 1130 [.int r1127]
  refine gk_iload G dL_law_1130 1 rfl ?_
  refine gk_icmp_eq (tgt := 1137) G dL_law_1132 (by decide) (fun c_1132 => ?_) (fun c_1132 => ?_)
  · refine gk_iload G dL_law_1137 1 rfl ?_
    refine gk_if_ne (tgt := 1154) G dL_law_1139 (by decide) (fun c_1139 => ?_) (fun c_1139 => ?_)
    · exact absurd (hK1109.trans nI_0) c_1139
    · refine gk_aload_n G dL_law_1142 3 rfl ?_
      refine gk_iconst (v := nI 0) G dL_law_1143 (by decide) ?_
      refine gk_lald (v := f1109 0) G (q0 := 8) (t0 := 2) rfl rfl 0 rfl (by decide) (by decide) rfl dL_law_1144 ?_
      refine gk_iload G dL_law_1145 0 rfl ?_
      refine gk_i2l (v := (r1121).toInt64) G dL_law_1147 rfl ?_
      refine gk_lcmp G dL_law_1148 ?_
      refine gk_if_eq (tgt := 1154) G dL_law_1149 (by decide) (fun c_1149 => ?_) (fun c_1149 => ?_)
      · refine gk_goto (tgt := 1565) G dL_law_1154 (by decide) ?_
        exact gk_lsub [2, 3, 4, 5, 6] rfl (K f1109 u1109 v1121 _ _ (by omega) (by omega) hr1109 hs1121 hn1121)
      · exact absurd (gl_cmp (hv1109.trans (congrArg Int32.toInt64 hR1121).symm)) c_1149
  · exact absurd (hT1127.trans hK1109.symm) c_1132
set_option maxRecDepth 100000 in
set_option maxHeartbeats 1000000 in
theorem lg_late {p : Program} {l : Launch} {e : Env} {s : State} {m : MethodId} {args : Array Value} {below : List Frame} {meth : Method} {c : Code} {D : va_G} {A : Nat → Prop} {Q : State → Prop} {cI cZ cJ : ClassId} {b L : Nat} {xs : Nat → Int32} (G : gk_G p s m args meth c RL 9 cL_law (some .boolean) wsL_law D (g_T cI cZ cJ) A) (hE : gl_F A s s.heap) (hl9 : l.stackTraces = false) (hX : va_X b L xs s s.heap) (hbl : b < s.heap.size) (hbA : ¬ A b) (hL : L ≤ 2048) {g h1 h2 o h : Nat} {q q2 q3 : Nat → Nat} {f : Nat → Int64} {u0 : gw_U} {v0 : gd_U} {M : gm_M} (wf : gm_wf M) (hrest : gm_rest M) (hh : M 9 0 < 1999000) (hr : gc_rep u0.1.1 u0.1.2 M) (hs : gr_st v0.1 v0.2.1 M) (hn : gr_now v0.2.2.1 M) {i cells slots : Nat} (hi : i + 4 ≤ L) (hc : cells ≤ 500000) (hsl : slots ≤ 7000000)    (K : ∀ (f9 : Nat → Int64) (u9 : gw_U) (v9 : gd_U) (c9 s9 : Nat), c9 ≤ cells + 20 → s9 ≤ slots + 240 → gc_rep u9.1.1 u9.1.2 M → gr_st v9.1 v9.2.1 M → gr_now v9.2.2.1 M → gk_C p l e room_1 s m args below meth c 9 D A Q c9 s9 (gd_X cI h q3 v9 ++ (gw_O cJ o f9 ++ (gw_X cI cZ g h1 h2 q q2 u9))) [(4, .int (nI i)), (3, .ref o), (2, .ref h), (1, .ref g), (0, .ref b)] 1565 []) : gk_C p l e room_1 s m args below meth c 9 D A Q cells slots (gd_X cI h q3 v0 ++ (gw_O cJ o f ++ (gw_X cI cZ g h1 h2 q q2 u0))) [(4, .int (nI i)), (3, .ref o), (2, .ref h), (1, .ref g), (0, .ref b)] 1157 [] := by
  refine gk_aload_n G dL_law_1157 3 rfl ?_
  refine gk_callIV (wr := gd_X cI h q3 v0 ++ gw_O cJ o f) G (c1_late l D cI cZ cJ g h1 h2 q u0.1.1 u0.1.2 q2 u0.2.1 u0.2.2 M wf hr hrest (by omega)) gL_law_X1_late rfl 0 (by decide +kernel) rfl rfl ⟨(Nat.le_of_ble_eq_true rfl), (Nat.le_of_ble_eq_true rfl)⟩ rfl (q0 := 0) rfl (T := TX1) (N := 2) rfl gn_ok hE.1 [9, 10, 11, 12, 13, 14, 15, 16, 17, 18, 19, 20, 21, 22, 23, 24, 25, 26, 27, 28, 29] rfl (by decide) [0, 1, 2, 3, 4, 5, 6, 7, 8] rfl (by decide) (by decide) rfl (Nat.le_of_ble_eq_true rfl) dL_law_1158 ⟨(show cells + 0 ≤ 601024 by omega), (show slots + 0 ≤ 7293034 by omega)⟩ (fun r1158 u1158 hp1158 => ?_)
  have hK1158 : r1158 = nI (gm_late M 0 (M 11 0)) := hp1158.1
  have hr1158 : gc_rep u1158.1.1 u1158.1.2 M := hp1158.2
  refine gk_wsub (w' := (gd_X cI h q3 v0 ++ (gw_O cJ o f ++ (gw_X cI cZ g h1 h2 q q2 u1158)))) [0, 1, 2, 3, 4, 5, 6, 7, 8, 9, 10, 11, 12, 13, 14, 15, 16, 17, 18, 19, 20, 21, 22, 23, 24, 25, 26, 27, 28, 29] rfl (by decide) ?_
  show gk_C p l e room_1 s m args below meth c 9 D A Q (cells + 0) (slots + 0) (gd_X cI h q3 v0 ++ (gw_O cJ o f ++ (gw_X cI cZ g h1 h2 q q2 u1158))) [(4, .int (nI i)), (3, .ref o), (2, .ref h), (1, .ref g), (0, .ref b)] 1161 [.int r1158]
  refine gk_aload_n G dL_law_1161 2 rfl ?_
  refine gk_callIV (wr := gw_O cJ o f ++ (gw_X cI cZ g h1 h2 q q2 u1158)) G (c2_late l D cI cZ cJ h q3 v0.1 v0.2.1 v0.2.2.1 v0.2.2.2.1 v0.2.2.2.2 M wf hs hn (by omega)) gL_law_X2_late rfl 0 (by decide +kernel) rfl rfl ⟨(Nat.le_of_ble_eq_true rfl), (Nat.le_of_ble_eq_true rfl)⟩ rfl (q0 := 0) rfl (T := TX2) (N := 12) rfl gk_ok0 trivial [0, 1, 2, 3, 4, 5, 6, 7] rfl (by decide) [8, 9, 10, 11, 12, 13, 14, 15, 16, 17, 18, 19, 20, 21, 22, 23, 24, 25, 26, 27, 28, 29] rfl (by decide) (by decide) rfl (Nat.le_of_ble_eq_true rfl) dL_law_1162 ⟨(show (cells + 0) + 0 ≤ 601024 by omega), (show (slots + 0) + 0 ≤ 7293034 by omega)⟩ (fun r1162 v1162 hp1162 => ?_)
  have hR1162 : r1162 = nI (gm_late M 0 (M 11 0)) := hp1162.1
  have hs1162 : gr_st v1162.1 v1162.2.1 M := hp1162.2.1
  have hn1162 : gr_now v1162.2.2.1 M := hp1162.2.2.1
  have hF1162 : v1162.1 0 = nI 0 := hp1162.2.2.2
  refine gk_wsub (w' := (gd_X cI h q3 v1162 ++ (gw_O cJ o f ++ (gw_X cI cZ g h1 h2 q q2 u1158)))) [22, 23, 24, 25, 26, 27, 28, 29, 0, 1, 2, 3, 4, 5, 6, 7, 8, 9, 10, 11, 12, 13, 14, 15, 16, 17, 18, 19, 20, 21] rfl (by decide) ?_
  show gk_C p l e room_1 s m args below meth c 9 D A Q ((cells + 0) + 0) ((slots + 0) + 0) (gd_X cI h q3 v1162 ++ (gw_O cJ o f ++ (gw_X cI cZ g h1 h2 q q2 u1158))) [(4, .int (nI i)), (3, .ref o), (2, .ref h), (1, .ref g), (0, .ref b)] 1165 [.int r1162, .int r1158]
  refine gk_icmp_eq (tgt := 1565) G dL_law_1165 (by decide) (fun c_1165 => ?_) (fun c_1165 => ?_)
  · exact gk_lsub [0, 1, 2, 3, 4] rfl (K f u1158 v1162 _ _ (by omega) (by omega) hr1158 hs1162 hn1162)
  · exact absurd (hK1158.trans hR1162.symm) c_1165
set_option maxRecDepth 100000 in
set_option maxHeartbeats 1000000 in
theorem lg_willBeGroundAt_no {p : Program} {l : Launch} {e : Env} {s : State} {m : MethodId} {args : Array Value} {below : List Frame} {meth : Method} {c : Code} {D : va_G} {A : Nat → Prop} {Q : State → Prop} {cI cZ cJ : ClassId} {b L : Nat} {xs : Nat → Int32} (G : gk_G p s m args meth c RL 9 cL_law (some .boolean) wsL_law D (g_T cI cZ cJ) A) (hE : gl_F A s s.heap) (hl9 : l.stackTraces = false) (hX : va_X b L xs s s.heap) (hbl : b < s.heap.size) (hbA : ¬ A b) (hL : L ≤ 2048) {g h1 h2 o h : Nat} {q q2 q3 : Nat → Nat} {f : Nat → Int64} {u0 : gw_U} {v0 : gd_U} {M : gm_M} (wf : gm_wf M) (hrest : gm_rest M) (hh : M 9 0 < 1999000) (hr : gc_rep u0.1.1 u0.1.2 M) (hs : gr_st v0.1 v0.2.1 M) (hn : gr_now v0.2.2.1 M) {i cells slots : Nat} (hi : i + 4 ≤ L) (hc : cells ≤ 500000) (hsl : slots ≤ 7000000) (p0 : Int32) (hb : ¬ gm_rg p0 0 (M 11 0)) (hx1 : xs (i + 1) = p0) (K : ∀ (f9 : Nat → Int64) (u9 : gw_U) (v9 : gd_U) (c9 s9 : Nat), c9 ≤ cells + 20 → s9 ≤ slots + 240 → gc_rep u9.1.1 u9.1.2 M → gr_st v9.1 v9.2.1 M → gr_now v9.2.2.1 M → gk_C p l e room_1 s m args below meth c 9 D A Q c9 s9 (gd_X cI h q3 v9 ++ (gw_O cJ o f9 ++ (gw_X cI cZ g h1 h2 q q2 u9))) [(4, .int (nI i)), (3, .ref o), (2, .ref h), (1, .ref g), (0, .ref b)] 1565 []) : gk_C p l e room_1 s m args below meth c 9 D A Q cells slots (gd_X cI h q3 v0 ++ (gw_O cJ o f ++ (gw_X cI cZ g h1 h2 q q2 u0))) [(4, .int (nI i)), (3, .ref o), (2, .ref h), (1, .ref g), (0, .ref b)] 1170 [] := by
  refine gk_aload_n G dL_law_1170 3 rfl ?_
  refine gk_aload_n G dL_law_1171 4 rfl ?_
  refine gk_iload G dL_law_1172 0 rfl ?_
  refine gk_iconst (v := nI 1) G dL_law_1174 (by decide) ?_
  refine gk_iadd (v := nI (i + 1)) G dL_law_1175 (nI_add i 1) ?_
  refine gk_sld (v := p0) G hX hbl hbA (i + 1) rfl (by omega) (by omega) hx1 dL_law_1176 ?_
  refine gk_aload_n G dL_law_1177 1 rfl ?_
  refine gk_callISW (wr := gd_X cI h q3 v0) G (cl_willBeGroundAt_no l D cI cZ cJ o f g h1 h2 q q2 u0 M hl9 p0 wf hr hb) gL_law_L_willBeGroundAt rfl 3 (by decide +kernel) rfl rfl ⟨(Nat.le_of_ble_eq_true rfl), (Nat.le_of_ble_eq_true rfl)⟩ rfl gl_Fok hE [8, 9, 10, 11, 12, 13, 14, 15, 16, 17, 18, 19, 20, 21, 22, 23, 24, 25, 26, 27, 28, 29] rfl (by decide) [0, 1, 2, 3, 4, 5, 6, 7] rfl (by decide) (by decide) rfl (Nat.le_of_ble_eq_true rfl) dL_law_1178 ⟨(show cells + 1 ≤ 601024 by omega), (show slots + 6 ≤ 7293034 by omega)⟩ (fun r1178 uu1178 hp1178 => ?_)
  obtain ⟨f1178, u1178⟩ := uu1178
  have hK1178 : r1178 = nI 1 := hp1178.1
  have hr1178 : gc_rep u1178.1.1 u1178.1.2 M := hp1178.2
  show gk_C p l e room_1 s m args below meth c 9 D A Q (cells + 1) (slots + 6) (gd_X cI h q3 v0 ++ (gw_O cJ o f1178 ++ (gw_X cI cZ g h1 h2 q q2 u1178))) [(4, .int (nI i)), (3, .ref o), (2, .ref h), (1, .ref g), (0, .ref b)] 1181 [.int r1178]
  refine gk_istore (lv' := [(5, .int r1178), (4, .int (nI i)), (3, .ref o), (2, .ref h), (1, .ref g), (0, .ref b)]) G dL_law_1181 (by decide) rfl ?_
  refine gk_aload_n G dL_law_1183 3 rfl ?_
  refine gk_aload_n G dL_law_1184 5 rfl ?_
  refine gk_iload G dL_law_1185 1 rfl ?_
  refine gk_iconst (v := nI 1) G dL_law_1187 (by decide) ?_
  refine gk_iadd (v := nI (i + 1)) G dL_law_1188 (nI_add i 1) ?_
  refine gk_sld (v := p0) G hX hbl hbA (i + 1) rfl (by omega) (by omega) hx1 dL_law_1189 ?_
  refine gk_callIV (wr := gw_O cJ o f1178 ++ (gw_X cI cZ g h1 h2 q q2 u1178)) G (c2_willBeGroundAt_no l D cI cZ cJ h q3 v0.1 v0.2.1 v0.2.2.1 v0.2.2.2.1 v0.2.2.2.2 M p0 wf hs hn hb) gL_law_X2_willBeGroundAt rfl 1 (by decide +kernel) rfl rfl ⟨(Nat.le_of_ble_eq_true rfl), (Nat.le_of_ble_eq_true rfl)⟩ rfl (q0 := 0) rfl (T := TX2) (N := 12) rfl gk_ok0 trivial [0, 1, 2, 3, 4, 5, 6, 7] rfl (by decide) [8, 9, 10, 11, 12, 13, 14, 15, 16, 17, 18, 19, 20, 21, 22, 23, 24, 25, 26, 27, 28, 29] rfl (by decide) (by decide) rfl (Nat.le_of_ble_eq_true rfl) dL_law_1190 ⟨(show (cells + 1) + 0 ≤ 601024 by omega), (show (slots + 6) + 0 ≤ 7293034 by omega)⟩ (fun r1190 v1190 hp1190 => ?_)
  have hR1190 : r1190 = nI 0 := hp1190.1
  have hs1190 : gr_st v1190.1 v1190.2.1 M := hp1190.2.1
  have hn1190 : gr_now v1190.2.2.1 M := hp1190.2.2.1
  have hF1190 : v1190.1 0 = nI 1 := hp1190.2.2.2
  refine gk_wsub (w' := (gd_X cI h q3 v1190 ++ (gw_O cJ o f1178 ++ (gw_X cI cZ g h1 h2 q q2 u1178)))) [22, 23, 24, 25, 26, 27, 28, 29, 0, 1, 2, 3, 4, 5, 6, 7, 8, 9, 10, 11, 12, 13, 14, 15, 16, 17, 18, 19, 20, 21] rfl (by decide) ?_
  show gk_C p l e room_1 s m args below meth c 9 D A Q ((cells + 1) + 0) ((slots + 6) + 0) (gd_X cI h q3 v1190 ++ (gw_O cJ o f1178 ++ (gw_X cI cZ g h1 h2 q q2 u1178))) [(5, .int r1178), (4, .int (nI i)), (3, .ref o), (2, .ref h), (1, .ref g), (0, .ref b)] 1193 [.int r1190]
  refine gk_istore (lv' := [(6, .int r1190), (5, .int r1178), (4, .int (nI i)), (3, .ref o), (2, .ref h), (1, .ref g), (0, .ref b)]) G dL_law_1193 (by decide) rfl ?_
  refine gk_aload_n G dL_law_1195 4 rfl ?_
  refine gk_callIV (wr := gw_O cJ o f1178 ++ (gw_X cI cZ g h1 h2 q q2 u1178)) G (c2_thrown l D cI cZ cJ h q3 v1190.1 v1190.2.1 v1190.2.2.1 v1190.2.2.2.1 v1190.2.2.2.2 M) gL_law_X2_thrown rfl 0 (by decide +kernel) rfl rfl ⟨(Nat.le_of_ble_eq_true rfl), (Nat.le_of_ble_eq_true rfl)⟩ rfl (q0 := 0) rfl (T := TX2) (N := 12) rfl gk_ok0 trivial [0, 1, 2, 3, 4, 5, 6, 7] rfl (by decide) [8, 9, 10, 11, 12, 13, 14, 15, 16, 17, 18, 19, 20, 21, 22, 23, 24, 25, 26, 27, 28, 29] rfl (by decide) (by decide) rfl (Nat.le_of_ble_eq_true rfl) dL_law_1196 ⟨(show ((cells + 1) + 0) + 0 ≤ 601024 by omega), (show ((slots + 6) + 0) + 0 ≤ 7293034 by omega)⟩ (fun r1196 u1196 hp1196 => ?_)
  have hT1196 : r1196 = nI 1 := (show r1196 = v1190.1 0 from hp1196).trans hF1190
  refine gk_wsub (w' := (gd_X cI h q3 v1190 ++ (gw_O cJ o f1178 ++ (gw_X cI cZ g h1 h2 q q2 u1178)))) [22, 23, 24, 25, 26, 27, 28, 29, 0, 1, 2, 3, 4, 5, 6, 7, 8, 9, 10, 11, 12, 13, 14, 15, 16, 17, 18, 19, 20, 21] rfl (by decide) ?_
  show gk_C p l e room_1 s m args below meth c 9 D A Q (((cells + 1) + 0) + 0) (((slots + 6) + 0) + 0) (gd_X cI h q3 v1190 ++ (gw_O cJ o f1178 ++ (gw_X cI cZ g h1 h2 q q2 u1178))) [(6, .int r1190), (5, .int r1178), (4, .int (nI i)), (3, .ref o), (2, .ref h), (1, .ref g), (0, .ref b)] 1199 [.int r1196]
  refine gk_iload G dL_law_1199 1 rfl ?_
  refine gk_icmp_eq (tgt := 1206) G dL_law_1201 (by decide) (fun c_1201 => ?_) (fun c_1201 => ?_)
  · refine gk_iload G dL_law_1206 1 rfl ?_
    refine gk_if_ne (tgt := 1223) G dL_law_1208 (by decide) (fun c_1208 => ?_) (fun c_1208 => ?_)
    · refine gk_goto (tgt := 1565) G dL_law_1223 (by decide) ?_
      exact gk_lsub [2, 3, 4, 5, 6] rfl (K f1178 u1178 v1190 _ _ (by omega) (by omega) hr1178 hs1190 hn1190)
    · exact absurd (hK1178.symm.trans c_1208) (by decide)
  · exact absurd (hT1196.trans hK1178.symm) c_1201
set_option maxRecDepth 100000 in
set_option maxHeartbeats 1000000 in
theorem lg_willBeGroundAt_ok {p : Program} {l : Launch} {e : Env} {s : State} {m : MethodId} {args : Array Value} {below : List Frame} {meth : Method} {c : Code} {D : va_G} {A : Nat → Prop} {Q : State → Prop} {cI cZ cJ : ClassId} {b L : Nat} {xs : Nat → Int32} (G : gk_G p s m args meth c RL 9 cL_law (some .boolean) wsL_law D (g_T cI cZ cJ) A) (hE : gl_F A s s.heap) (hl9 : l.stackTraces = false) (hX : va_X b L xs s s.heap) (hbl : b < s.heap.size) (hbA : ¬ A b) (hL : L ≤ 2048) {g h1 h2 o h : Nat} {q q2 q3 : Nat → Nat} {f : Nat → Int64} {u0 : gw_U} {v0 : gd_U} {M : gm_M} (wf : gm_wf M) (hrest : gm_rest M) (hh : M 9 0 < 1999000) (hr : gc_rep u0.1.1 u0.1.2 M) (hs : gr_st v0.1 v0.2.1 M) (hn : gr_now v0.2.2.1 M) {i cells slots : Nat} (hi : i + 4 ≤ L) (hc : cells ≤ 500000) (hsl : slots ≤ 7000000) (v : Nat) (hv : v < M 11 0) (hx1 : xs (i + 1) = nI v) (K : ∀ (f9 : Nat → Int64) (u9 : gw_U) (v9 : gd_U) (c9 s9 : Nat), c9 ≤ cells + 20 → s9 ≤ slots + 240 → gc_rep u9.1.1 u9.1.2 M → gr_st v9.1 v9.2.1 M → gr_now v9.2.2.1 M → gk_C p l e room_1 s m args below meth c 9 D A Q c9 s9 (gd_X cI h q3 v9 ++ (gw_O cJ o f9 ++ (gw_X cI cZ g h1 h2 q q2 u9))) [(4, .int (nI i)), (3, .ref o), (2, .ref h), (1, .ref g), (0, .ref b)] 1565 []) : gk_C p l e room_1 s m args below meth c 9 D A Q cells slots (gd_X cI h q3 v0 ++ (gw_O cJ o f ++ (gw_X cI cZ g h1 h2 q q2 u0))) [(4, .int (nI i)), (3, .ref o), (2, .ref h), (1, .ref g), (0, .ref b)] 1170 [] := by
  refine gk_aload_n G dL_law_1170 3 rfl ?_
  refine gk_aload_n G dL_law_1171 4 rfl ?_
  refine gk_iload G dL_law_1172 0 rfl ?_
  refine gk_iconst (v := nI 1) G dL_law_1174 (by decide) ?_
  refine gk_iadd (v := nI (i + 1)) G dL_law_1175 (nI_add i 1) ?_
  refine gk_sld (v := (nI v)) G hX hbl hbA (i + 1) rfl (by omega) (by omega) hx1 dL_law_1176 ?_
  refine gk_aload_n G dL_law_1177 1 rfl ?_
  refine gk_callISW (wr := gd_X cI h q3 v0) G (cl_willBeGroundAt_ok l D cI cZ cJ o f g h1 h2 q q2 u0 M v wf hr hrest (by omega) hv) gL_law_L_willBeGroundAt rfl 3 (by decide +kernel) rfl rfl ⟨(Nat.le_of_ble_eq_true rfl), (Nat.le_of_ble_eq_true rfl)⟩ rfl gl_Fok hE [8, 9, 10, 11, 12, 13, 14, 15, 16, 17, 18, 19, 20, 21, 22, 23, 24, 25, 26, 27, 28, 29] rfl (by decide) [0, 1, 2, 3, 4, 5, 6, 7] rfl (by decide) (by decide) rfl (Nat.le_of_ble_eq_true rfl) dL_law_1178 ⟨(show cells + 0 ≤ 601024 by omega), (show slots + 0 ≤ 7293034 by omega)⟩ (fun r1178 uu1178 hp1178 => ?_)
  obtain ⟨f1178, u1178⟩ := uu1178
  have hK1178 : r1178 = nI 0 := hp1178.1
  have hv1178 : f1178 0 = (gm_e (gm_hrs M 200 8 v)).toInt64 := hp1178.2.1
  have hr1178 : gc_rep u1178.1.1 u1178.1.2 M := hp1178.2.2
  show gk_C p l e room_1 s m args below meth c 9 D A Q (cells + 0) (slots + 0) (gd_X cI h q3 v0 ++ (gw_O cJ o f1178 ++ (gw_X cI cZ g h1 h2 q q2 u1178))) [(4, .int (nI i)), (3, .ref o), (2, .ref h), (1, .ref g), (0, .ref b)] 1181 [.int r1178]
  refine gk_istore (lv' := [(5, .int r1178), (4, .int (nI i)), (3, .ref o), (2, .ref h), (1, .ref g), (0, .ref b)]) G dL_law_1181 (by decide) rfl ?_
  refine gk_aload_n G dL_law_1183 3 rfl ?_
  refine gk_aload_n G dL_law_1184 5 rfl ?_
  refine gk_iload G dL_law_1185 1 rfl ?_
  refine gk_iconst (v := nI 1) G dL_law_1187 (by decide) ?_
  refine gk_iadd (v := nI (i + 1)) G dL_law_1188 (nI_add i 1) ?_
  refine gk_sld (v := (nI v)) G hX hbl hbA (i + 1) rfl (by omega) (by omega) hx1 dL_law_1189 ?_
  refine gk_callIV (wr := gw_O cJ o f1178 ++ (gw_X cI cZ g h1 h2 q q2 u1178)) G (c2_willBeGroundAt_ok l D cI cZ cJ h q3 v0.1 v0.2.1 v0.2.2.1 v0.2.2.2.1 v0.2.2.2.2 M v wf hs hn hrest (by omega) (by omega)) gL_law_X2_willBeGroundAt rfl 1 (by decide +kernel) rfl rfl ⟨(Nat.le_of_ble_eq_true rfl), (Nat.le_of_ble_eq_true rfl)⟩ rfl (q0 := 0) rfl (T := TX2) (N := 12) rfl gk_ok0 trivial [0, 1, 2, 3, 4, 5, 6, 7] rfl (by decide) [8, 9, 10, 11, 12, 13, 14, 15, 16, 17, 18, 19, 20, 21, 22, 23, 24, 25, 26, 27, 28, 29] rfl (by decide) (by decide) rfl (Nat.le_of_ble_eq_true rfl) dL_law_1190 ⟨(show (cells + 0) + 0 ≤ 601024 by omega), (show (slots + 0) + 0 ≤ 7293034 by omega)⟩ (fun r1190 v1190 hp1190 => ?_)
  have hR1190 : r1190 = gm_e (gm_hrs M 200 8 v) := hp1190.1
  have hs1190 : gr_st v1190.1 v1190.2.1 M := hp1190.2.1
  have hn1190 : gr_now v1190.2.2.1 M := hp1190.2.2.1
  have hF1190 : v1190.1 0 = nI 0 := hp1190.2.2.2
  refine gk_wsub (w' := (gd_X cI h q3 v1190 ++ (gw_O cJ o f1178 ++ (gw_X cI cZ g h1 h2 q q2 u1178)))) [22, 23, 24, 25, 26, 27, 28, 29, 0, 1, 2, 3, 4, 5, 6, 7, 8, 9, 10, 11, 12, 13, 14, 15, 16, 17, 18, 19, 20, 21] rfl (by decide) ?_
  show gk_C p l e room_1 s m args below meth c 9 D A Q ((cells + 0) + 0) ((slots + 0) + 0) (gd_X cI h q3 v1190 ++ (gw_O cJ o f1178 ++ (gw_X cI cZ g h1 h2 q q2 u1178))) [(5, .int r1178), (4, .int (nI i)), (3, .ref o), (2, .ref h), (1, .ref g), (0, .ref b)] 1193 [.int r1190]
  refine gk_istore (lv' := [(6, .int r1190), (5, .int r1178), (4, .int (nI i)), (3, .ref o), (2, .ref h), (1, .ref g), (0, .ref b)]) G dL_law_1193 (by decide) rfl ?_
  refine gk_aload_n G dL_law_1195 4 rfl ?_
  refine gk_callIV (wr := gw_O cJ o f1178 ++ (gw_X cI cZ g h1 h2 q q2 u1178)) G (c2_thrown l D cI cZ cJ h q3 v1190.1 v1190.2.1 v1190.2.2.1 v1190.2.2.2.1 v1190.2.2.2.2 M) gL_law_X2_thrown rfl 0 (by decide +kernel) rfl rfl ⟨(Nat.le_of_ble_eq_true rfl), (Nat.le_of_ble_eq_true rfl)⟩ rfl (q0 := 0) rfl (T := TX2) (N := 12) rfl gk_ok0 trivial [0, 1, 2, 3, 4, 5, 6, 7] rfl (by decide) [8, 9, 10, 11, 12, 13, 14, 15, 16, 17, 18, 19, 20, 21, 22, 23, 24, 25, 26, 27, 28, 29] rfl (by decide) (by decide) rfl (Nat.le_of_ble_eq_true rfl) dL_law_1196 ⟨(show ((cells + 0) + 0) + 0 ≤ 601024 by omega), (show ((slots + 0) + 0) + 0 ≤ 7293034 by omega)⟩ (fun r1196 u1196 hp1196 => ?_)
  have hT1196 : r1196 = nI 0 := (show r1196 = v1190.1 0 from hp1196).trans hF1190
  refine gk_wsub (w' := (gd_X cI h q3 v1190 ++ (gw_O cJ o f1178 ++ (gw_X cI cZ g h1 h2 q q2 u1178)))) [22, 23, 24, 25, 26, 27, 28, 29, 0, 1, 2, 3, 4, 5, 6, 7, 8, 9, 10, 11, 12, 13, 14, 15, 16, 17, 18, 19, 20, 21] rfl (by decide) ?_
  show gk_C p l e room_1 s m args below meth c 9 D A Q (((cells + 0) + 0) + 0) (((slots + 0) + 0) + 0) (gd_X cI h q3 v1190 ++ (gw_O cJ o f1178 ++ (gw_X cI cZ g h1 h2 q q2 u1178))) [(6, .int r1190), (5, .int r1178), (4, .int (nI i)), (3, .ref o), (2, .ref h), (1, .ref g), (0, .ref b)] 1199 [.int r1196]
  refine gk_iload G dL_law_1199 1 rfl ?_
  refine gk_icmp_eq (tgt := 1206) G dL_law_1201 (by decide) (fun c_1201 => ?_) (fun c_1201 => ?_)
  · refine gk_iload G dL_law_1206 1 rfl ?_
    refine gk_if_ne (tgt := 1223) G dL_law_1208 (by decide) (fun c_1208 => ?_) (fun c_1208 => ?_)
    · exact absurd (hK1178.trans nI_0) c_1208
    · refine gk_aload_n G dL_law_1211 3 rfl ?_
      refine gk_iconst (v := nI 0) G dL_law_1212 (by decide) ?_
      refine gk_lald (v := f1178 0) G (q0 := 8) (t0 := 2) rfl rfl 0 rfl (by decide) (by decide) rfl dL_law_1213 ?_
      refine gk_iload G dL_law_1214 0 rfl ?_
      refine gk_i2l (v := (r1190).toInt64) G dL_law_1216 rfl ?_
      refine gk_lcmp G dL_law_1217 ?_
      refine gk_if_eq (tgt := 1223) G dL_law_1218 (by decide) (fun c_1218 => ?_) (fun c_1218 => ?_)
      · refine gk_goto (tgt := 1565) G dL_law_1223 (by decide) ?_
        exact gk_lsub [2, 3, 4, 5, 6] rfl (K f1178 u1178 v1190 _ _ (by omega) (by omega) hr1178 hs1190 hn1190)
      · exact absurd (gl_cmp (hv1178.trans (congrArg Int32.toInt64 hR1190).symm)) c_1218
  · exact absurd (hT1196.trans hK1178.symm) c_1201
set_option maxRecDepth 100000 in
set_option maxHeartbeats 1000000 in
theorem lg_spareOf_no {p : Program} {l : Launch} {e : Env} {s : State} {m : MethodId} {args : Array Value} {below : List Frame} {meth : Method} {c : Code} {D : va_G} {A : Nat → Prop} {Q : State → Prop} {cI cZ cJ : ClassId} {b L : Nat} {xs : Nat → Int32} (G : gk_G p s m args meth c RL 9 cL_law (some .boolean) wsL_law D (g_T cI cZ cJ) A) (hE : gl_F A s s.heap) (hl9 : l.stackTraces = false) (hX : va_X b L xs s s.heap) (hbl : b < s.heap.size) (hbA : ¬ A b) (hL : L ≤ 2048) {g h1 h2 o h : Nat} {q q2 q3 : Nat → Nat} {f : Nat → Int64} {u0 : gw_U} {v0 : gd_U} {M : gm_M} (wf : gm_wf M) (hrest : gm_rest M) (hh : M 9 0 < 1999000) (hr : gc_rep u0.1.1 u0.1.2 M) (hs : gr_st v0.1 v0.2.1 M) (hn : gr_now v0.2.2.1 M) {i cells slots : Nat} (hi : i + 4 ≤ L) (hc : cells ≤ 500000) (hsl : slots ≤ 7000000) (p0 : Int32) (hb : ¬ gm_rg p0 0 (M 11 0)) (hx1 : xs (i + 1) = p0) (K : ∀ (f9 : Nat → Int64) (u9 : gw_U) (v9 : gd_U) (c9 s9 : Nat), c9 ≤ cells + 20 → s9 ≤ slots + 240 → gc_rep u9.1.1 u9.1.2 M → gr_st v9.1 v9.2.1 M → gr_now v9.2.2.1 M → gk_C p l e room_1 s m args below meth c 9 D A Q c9 s9 (gd_X cI h q3 v9 ++ (gw_O cJ o f9 ++ (gw_X cI cZ g h1 h2 q q2 u9))) [(4, .int (nI i)), (3, .ref o), (2, .ref h), (1, .ref g), (0, .ref b)] 1565 []) : gk_C p l e room_1 s m args below meth c 9 D A Q cells slots (gd_X cI h q3 v0 ++ (gw_O cJ o f ++ (gw_X cI cZ g h1 h2 q q2 u0))) [(4, .int (nI i)), (3, .ref o), (2, .ref h), (1, .ref g), (0, .ref b)] 1226 [] := by
  refine gk_aload_n G dL_law_1226 3 rfl ?_
  refine gk_aload_n G dL_law_1227 4 rfl ?_
  refine gk_iload G dL_law_1228 0 rfl ?_
  refine gk_iconst (v := nI 1) G dL_law_1230 (by decide) ?_
  refine gk_iadd (v := nI (i + 1)) G dL_law_1231 (nI_add i 1) ?_
  refine gk_sld (v := p0) G hX hbl hbA (i + 1) rfl (by omega) (by omega) hx1 dL_law_1232 ?_
  refine gk_aload_n G dL_law_1233 1 rfl ?_
  refine gk_callISW (wr := gd_X cI h q3 v0) G (cl_spareOf_no l D cI cZ cJ o f g h1 h2 q q2 u0 M hl9 p0 wf hr hb) gL_law_L_spareOf rfl 3 (by decide +kernel) rfl rfl ⟨(Nat.le_of_ble_eq_true rfl), (Nat.le_of_ble_eq_true rfl)⟩ rfl gl_Fok hE [8, 9, 10, 11, 12, 13, 14, 15, 16, 17, 18, 19, 20, 21, 22, 23, 24, 25, 26, 27, 28, 29] rfl (by decide) [0, 1, 2, 3, 4, 5, 6, 7] rfl (by decide) (by decide) rfl (Nat.le_of_ble_eq_true rfl) dL_law_1234 ⟨(show cells + 1 ≤ 601024 by omega), (show slots + 6 ≤ 7293034 by omega)⟩ (fun r1234 uu1234 hp1234 => ?_)
  obtain ⟨f1234, u1234⟩ := uu1234
  have hK1234 : r1234 = nI 1 := hp1234.1
  have hr1234 : gc_rep u1234.1.1 u1234.1.2 M := hp1234.2
  show gk_C p l e room_1 s m args below meth c 9 D A Q (cells + 1) (slots + 6) (gd_X cI h q3 v0 ++ (gw_O cJ o f1234 ++ (gw_X cI cZ g h1 h2 q q2 u1234))) [(4, .int (nI i)), (3, .ref o), (2, .ref h), (1, .ref g), (0, .ref b)] 1237 [.int r1234]
  refine gk_istore (lv' := [(5, .int r1234), (4, .int (nI i)), (3, .ref o), (2, .ref h), (1, .ref g), (0, .ref b)]) G dL_law_1237 (by decide) rfl ?_
  refine gk_aload_n G dL_law_1239 3 rfl ?_
  refine gk_aload_n G dL_law_1240 5 rfl ?_
  refine gk_iload G dL_law_1241 1 rfl ?_
  refine gk_iconst (v := nI 1) G dL_law_1243 (by decide) ?_
  refine gk_iadd (v := nI (i + 1)) G dL_law_1244 (nI_add i 1) ?_
  refine gk_sld (v := p0) G hX hbl hbA (i + 1) rfl (by omega) (by omega) hx1 dL_law_1245 ?_
  refine gk_callIV (wr := gw_O cJ o f1234 ++ (gw_X cI cZ g h1 h2 q q2 u1234)) G (c2_spareOf_no l D cI cZ cJ h q3 v0.1 v0.2.1 v0.2.2.1 v0.2.2.2.1 v0.2.2.2.2 M p0 wf hs hn hb) gL_law_X2_spareOf rfl 1 (by decide +kernel) rfl rfl ⟨(Nat.le_of_ble_eq_true rfl), (Nat.le_of_ble_eq_true rfl)⟩ rfl (q0 := 0) rfl (T := TX2) (N := 12) rfl gk_ok0 trivial [0, 1, 2, 3, 4, 5, 6, 7] rfl (by decide) [8, 9, 10, 11, 12, 13, 14, 15, 16, 17, 18, 19, 20, 21, 22, 23, 24, 25, 26, 27, 28, 29] rfl (by decide) (by decide) rfl (Nat.le_of_ble_eq_true rfl) dL_law_1246 ⟨(show (cells + 1) + 0 ≤ 601024 by omega), (show (slots + 6) + 0 ≤ 7293034 by omega)⟩ (fun r1246 v1246 hp1246 => ?_)
  have hR1246 : r1246 = nI 0 := hp1246.1
  have hs1246 : gr_st v1246.1 v1246.2.1 M := hp1246.2.1
  have hn1246 : gr_now v1246.2.2.1 M := hp1246.2.2.1
  have hF1246 : v1246.1 0 = nI 1 := hp1246.2.2.2
  refine gk_wsub (w' := (gd_X cI h q3 v1246 ++ (gw_O cJ o f1234 ++ (gw_X cI cZ g h1 h2 q q2 u1234)))) [22, 23, 24, 25, 26, 27, 28, 29, 0, 1, 2, 3, 4, 5, 6, 7, 8, 9, 10, 11, 12, 13, 14, 15, 16, 17, 18, 19, 20, 21] rfl (by decide) ?_
  show gk_C p l e room_1 s m args below meth c 9 D A Q ((cells + 1) + 0) ((slots + 6) + 0) (gd_X cI h q3 v1246 ++ (gw_O cJ o f1234 ++ (gw_X cI cZ g h1 h2 q q2 u1234))) [(5, .int r1234), (4, .int (nI i)), (3, .ref o), (2, .ref h), (1, .ref g), (0, .ref b)] 1249 [.int r1246]
  refine gk_istore (lv' := [(6, .int r1246), (5, .int r1234), (4, .int (nI i)), (3, .ref o), (2, .ref h), (1, .ref g), (0, .ref b)]) G dL_law_1249 (by decide) rfl ?_
  refine gk_aload_n G dL_law_1251 4 rfl ?_
  refine gk_callIV (wr := gw_O cJ o f1234 ++ (gw_X cI cZ g h1 h2 q q2 u1234)) G (c2_thrown l D cI cZ cJ h q3 v1246.1 v1246.2.1 v1246.2.2.1 v1246.2.2.2.1 v1246.2.2.2.2 M) gL_law_X2_thrown rfl 0 (by decide +kernel) rfl rfl ⟨(Nat.le_of_ble_eq_true rfl), (Nat.le_of_ble_eq_true rfl)⟩ rfl (q0 := 0) rfl (T := TX2) (N := 12) rfl gk_ok0 trivial [0, 1, 2, 3, 4, 5, 6, 7] rfl (by decide) [8, 9, 10, 11, 12, 13, 14, 15, 16, 17, 18, 19, 20, 21, 22, 23, 24, 25, 26, 27, 28, 29] rfl (by decide) (by decide) rfl (Nat.le_of_ble_eq_true rfl) dL_law_1252 ⟨(show ((cells + 1) + 0) + 0 ≤ 601024 by omega), (show ((slots + 6) + 0) + 0 ≤ 7293034 by omega)⟩ (fun r1252 u1252 hp1252 => ?_)
  have hT1252 : r1252 = nI 1 := (show r1252 = v1246.1 0 from hp1252).trans hF1246
  refine gk_wsub (w' := (gd_X cI h q3 v1246 ++ (gw_O cJ o f1234 ++ (gw_X cI cZ g h1 h2 q q2 u1234)))) [22, 23, 24, 25, 26, 27, 28, 29, 0, 1, 2, 3, 4, 5, 6, 7, 8, 9, 10, 11, 12, 13, 14, 15, 16, 17, 18, 19, 20, 21] rfl (by decide) ?_
  show gk_C p l e room_1 s m args below meth c 9 D A Q (((cells + 1) + 0) + 0) (((slots + 6) + 0) + 0) (gd_X cI h q3 v1246 ++ (gw_O cJ o f1234 ++ (gw_X cI cZ g h1 h2 q q2 u1234))) [(6, .int r1246), (5, .int r1234), (4, .int (nI i)), (3, .ref o), (2, .ref h), (1, .ref g), (0, .ref b)] 1255 [.int r1252]
  refine gk_iload G dL_law_1255 1 rfl ?_
  refine gk_icmp_eq (tgt := 1262) G dL_law_1257 (by decide) (fun c_1257 => ?_) (fun c_1257 => ?_)
  · refine gk_iload G dL_law_1262 1 rfl ?_
    refine gk_if_ne (tgt := 1279) G dL_law_1264 (by decide) (fun c_1264 => ?_) (fun c_1264 => ?_)
    · refine gk_goto (tgt := 1565) G dL_law_1279 (by decide) ?_
      exact gk_lsub [2, 3, 4, 5, 6] rfl (K f1234 u1234 v1246 _ _ (by omega) (by omega) hr1234 hs1246 hn1246)
    · exact absurd (hK1234.symm.trans c_1264) (by decide)
  · exact absurd (hT1252.trans hK1234.symm) c_1257
set_option maxRecDepth 100000 in
set_option maxHeartbeats 1000000 in
theorem lg_spareOf_ok {p : Program} {l : Launch} {e : Env} {s : State} {m : MethodId} {args : Array Value} {below : List Frame} {meth : Method} {c : Code} {D : va_G} {A : Nat → Prop} {Q : State → Prop} {cI cZ cJ : ClassId} {b L : Nat} {xs : Nat → Int32} (G : gk_G p s m args meth c RL 9 cL_law (some .boolean) wsL_law D (g_T cI cZ cJ) A) (hE : gl_F A s s.heap) (hl9 : l.stackTraces = false) (hX : va_X b L xs s s.heap) (hbl : b < s.heap.size) (hbA : ¬ A b) (hL : L ≤ 2048) {g h1 h2 o h : Nat} {q q2 q3 : Nat → Nat} {f : Nat → Int64} {u0 : gw_U} {v0 : gd_U} {M : gm_M} (wf : gm_wf M) (hrest : gm_rest M) (hh : M 9 0 < 1999000) (hr : gc_rep u0.1.1 u0.1.2 M) (hs : gr_st v0.1 v0.2.1 M) (hn : gr_now v0.2.2.1 M) {i cells slots : Nat} (hi : i + 4 ≤ L) (hc : cells ≤ 500000) (hsl : slots ≤ 7000000) (v : Nat) (hv : v < M 11 0) (hx1 : xs (i + 1) = nI v) (K : ∀ (f9 : Nat → Int64) (u9 : gw_U) (v9 : gd_U) (c9 s9 : Nat), c9 ≤ cells + 20 → s9 ≤ slots + 240 → gc_rep u9.1.1 u9.1.2 M → gr_st v9.1 v9.2.1 M → gr_now v9.2.2.1 M → gk_C p l e room_1 s m args below meth c 9 D A Q c9 s9 (gd_X cI h q3 v9 ++ (gw_O cJ o f9 ++ (gw_X cI cZ g h1 h2 q q2 u9))) [(4, .int (nI i)), (3, .ref o), (2, .ref h), (1, .ref g), (0, .ref b)] 1565 []) : gk_C p l e room_1 s m args below meth c 9 D A Q cells slots (gd_X cI h q3 v0 ++ (gw_O cJ o f ++ (gw_X cI cZ g h1 h2 q q2 u0))) [(4, .int (nI i)), (3, .ref o), (2, .ref h), (1, .ref g), (0, .ref b)] 1226 [] := by
  refine gk_aload_n G dL_law_1226 3 rfl ?_
  refine gk_aload_n G dL_law_1227 4 rfl ?_
  refine gk_iload G dL_law_1228 0 rfl ?_
  refine gk_iconst (v := nI 1) G dL_law_1230 (by decide) ?_
  refine gk_iadd (v := nI (i + 1)) G dL_law_1231 (nI_add i 1) ?_
  refine gk_sld (v := (nI v)) G hX hbl hbA (i + 1) rfl (by omega) (by omega) hx1 dL_law_1232 ?_
  refine gk_aload_n G dL_law_1233 1 rfl ?_
  refine gk_callISW (wr := gd_X cI h q3 v0) G (cl_spareOf_ok l D cI cZ cJ o f g h1 h2 q q2 u0 M v wf hr hrest (by omega) hv) gL_law_L_spareOf rfl 3 (by decide +kernel) rfl rfl ⟨(Nat.le_of_ble_eq_true rfl), (Nat.le_of_ble_eq_true rfl)⟩ rfl gl_Fok hE [8, 9, 10, 11, 12, 13, 14, 15, 16, 17, 18, 19, 20, 21, 22, 23, 24, 25, 26, 27, 28, 29] rfl (by decide) [0, 1, 2, 3, 4, 5, 6, 7] rfl (by decide) (by decide) rfl (Nat.le_of_ble_eq_true rfl) dL_law_1234 ⟨(show cells + 0 ≤ 601024 by omega), (show slots + 0 ≤ 7293034 by omega)⟩ (fun r1234 uu1234 hp1234 => ?_)
  obtain ⟨f1234, u1234⟩ := uu1234
  have hK1234 : r1234 = nI 0 := hp1234.1
  have hv1234 : f1234 0 = (gm_spr M v).toInt64 := hp1234.2.1
  have hr1234 : gc_rep u1234.1.1 u1234.1.2 M := hp1234.2.2
  show gk_C p l e room_1 s m args below meth c 9 D A Q (cells + 0) (slots + 0) (gd_X cI h q3 v0 ++ (gw_O cJ o f1234 ++ (gw_X cI cZ g h1 h2 q q2 u1234))) [(4, .int (nI i)), (3, .ref o), (2, .ref h), (1, .ref g), (0, .ref b)] 1237 [.int r1234]
  refine gk_istore (lv' := [(5, .int r1234), (4, .int (nI i)), (3, .ref o), (2, .ref h), (1, .ref g), (0, .ref b)]) G dL_law_1237 (by decide) rfl ?_
  refine gk_aload_n G dL_law_1239 3 rfl ?_
  refine gk_aload_n G dL_law_1240 5 rfl ?_
  refine gk_iload G dL_law_1241 1 rfl ?_
  refine gk_iconst (v := nI 1) G dL_law_1243 (by decide) ?_
  refine gk_iadd (v := nI (i + 1)) G dL_law_1244 (nI_add i 1) ?_
  refine gk_sld (v := (nI v)) G hX hbl hbA (i + 1) rfl (by omega) (by omega) hx1 dL_law_1245 ?_
  refine gk_callIV (wr := gw_O cJ o f1234 ++ (gw_X cI cZ g h1 h2 q q2 u1234)) G (c2_spareOf_ok l D cI cZ cJ h q3 v0.1 v0.2.1 v0.2.2.1 v0.2.2.2.1 v0.2.2.2.2 M v wf hs hn hrest (by omega) (by omega) (gl_hgl wf hh hv)) gL_law_X2_spareOf rfl 1 (by decide +kernel) rfl rfl ⟨(Nat.le_of_ble_eq_true rfl), (Nat.le_of_ble_eq_true rfl)⟩ rfl (q0 := 0) rfl (T := TX2) (N := 12) rfl gk_ok0 trivial [0, 1, 2, 3, 4, 5, 6, 7] rfl (by decide) [8, 9, 10, 11, 12, 13, 14, 15, 16, 17, 18, 19, 20, 21, 22, 23, 24, 25, 26, 27, 28, 29] rfl (by decide) (by decide) rfl (Nat.le_of_ble_eq_true rfl) dL_law_1246 ⟨(show (cells + 0) + 0 ≤ 601024 by omega), (show (slots + 0) + 0 ≤ 7293034 by omega)⟩ (fun r1246 v1246 hp1246 => ?_)
  have hR1246 : r1246 = gm_spr M v := hp1246.1
  have hs1246 : gr_st v1246.1 v1246.2.1 M := hp1246.2.1
  have hn1246 : gr_now v1246.2.2.1 M := hp1246.2.2.1
  have hF1246 : v1246.1 0 = nI 0 := hp1246.2.2.2
  refine gk_wsub (w' := (gd_X cI h q3 v1246 ++ (gw_O cJ o f1234 ++ (gw_X cI cZ g h1 h2 q q2 u1234)))) [22, 23, 24, 25, 26, 27, 28, 29, 0, 1, 2, 3, 4, 5, 6, 7, 8, 9, 10, 11, 12, 13, 14, 15, 16, 17, 18, 19, 20, 21] rfl (by decide) ?_
  show gk_C p l e room_1 s m args below meth c 9 D A Q ((cells + 0) + 0) ((slots + 0) + 0) (gd_X cI h q3 v1246 ++ (gw_O cJ o f1234 ++ (gw_X cI cZ g h1 h2 q q2 u1234))) [(5, .int r1234), (4, .int (nI i)), (3, .ref o), (2, .ref h), (1, .ref g), (0, .ref b)] 1249 [.int r1246]
  refine gk_istore (lv' := [(6, .int r1246), (5, .int r1234), (4, .int (nI i)), (3, .ref o), (2, .ref h), (1, .ref g), (0, .ref b)]) G dL_law_1249 (by decide) rfl ?_
  refine gk_aload_n G dL_law_1251 4 rfl ?_
  refine gk_callIV (wr := gw_O cJ o f1234 ++ (gw_X cI cZ g h1 h2 q q2 u1234)) G (c2_thrown l D cI cZ cJ h q3 v1246.1 v1246.2.1 v1246.2.2.1 v1246.2.2.2.1 v1246.2.2.2.2 M) gL_law_X2_thrown rfl 0 (by decide +kernel) rfl rfl ⟨(Nat.le_of_ble_eq_true rfl), (Nat.le_of_ble_eq_true rfl)⟩ rfl (q0 := 0) rfl (T := TX2) (N := 12) rfl gk_ok0 trivial [0, 1, 2, 3, 4, 5, 6, 7] rfl (by decide) [8, 9, 10, 11, 12, 13, 14, 15, 16, 17, 18, 19, 20, 21, 22, 23, 24, 25, 26, 27, 28, 29] rfl (by decide) (by decide) rfl (Nat.le_of_ble_eq_true rfl) dL_law_1252 ⟨(show ((cells + 0) + 0) + 0 ≤ 601024 by omega), (show ((slots + 0) + 0) + 0 ≤ 7293034 by omega)⟩ (fun r1252 u1252 hp1252 => ?_)
  have hT1252 : r1252 = nI 0 := (show r1252 = v1246.1 0 from hp1252).trans hF1246
  refine gk_wsub (w' := (gd_X cI h q3 v1246 ++ (gw_O cJ o f1234 ++ (gw_X cI cZ g h1 h2 q q2 u1234)))) [22, 23, 24, 25, 26, 27, 28, 29, 0, 1, 2, 3, 4, 5, 6, 7, 8, 9, 10, 11, 12, 13, 14, 15, 16, 17, 18, 19, 20, 21] rfl (by decide) ?_
  show gk_C p l e room_1 s m args below meth c 9 D A Q (((cells + 0) + 0) + 0) (((slots + 0) + 0) + 0) (gd_X cI h q3 v1246 ++ (gw_O cJ o f1234 ++ (gw_X cI cZ g h1 h2 q q2 u1234))) [(6, .int r1246), (5, .int r1234), (4, .int (nI i)), (3, .ref o), (2, .ref h), (1, .ref g), (0, .ref b)] 1255 [.int r1252]
  refine gk_iload G dL_law_1255 1 rfl ?_
  refine gk_icmp_eq (tgt := 1262) G dL_law_1257 (by decide) (fun c_1257 => ?_) (fun c_1257 => ?_)
  · refine gk_iload G dL_law_1262 1 rfl ?_
    refine gk_if_ne (tgt := 1279) G dL_law_1264 (by decide) (fun c_1264 => ?_) (fun c_1264 => ?_)
    · exact absurd (hK1234.trans nI_0) c_1264
    · refine gk_aload_n G dL_law_1267 3 rfl ?_
      refine gk_iconst (v := nI 0) G dL_law_1268 (by decide) ?_
      refine gk_lald (v := f1234 0) G (q0 := 8) (t0 := 2) rfl rfl 0 rfl (by decide) (by decide) rfl dL_law_1269 ?_
      refine gk_iload G dL_law_1270 0 rfl ?_
      refine gk_i2l (v := (r1246).toInt64) G dL_law_1272 rfl ?_
      refine gk_lcmp G dL_law_1273 ?_
      refine gk_if_eq (tgt := 1279) G dL_law_1274 (by decide) (fun c_1274 => ?_) (fun c_1274 => ?_)
      · refine gk_goto (tgt := 1565) G dL_law_1279 (by decide) ?_
        exact gk_lsub [2, 3, 4, 5, 6] rfl (K f1234 u1234 v1246 _ _ (by omega) (by omega) hr1234 hs1246 hn1246)
      · exact absurd (gl_cmp (hv1234.trans (congrArg Int32.toInt64 hR1246).symm)) c_1274
  · exact absurd (hT1252.trans hK1234.symm) c_1257
set_option maxRecDepth 100000 in
set_option maxHeartbeats 1000000 in
theorem lg_lateWith_no_0 {p : Program} {l : Launch} {e : Env} {s : State} {m : MethodId} {args : Array Value} {below : List Frame} {meth : Method} {c : Code} {D : va_G} {A : Nat → Prop} {Q : State → Prop} {cI cZ cJ : ClassId} {b L : Nat} {xs : Nat → Int32} (G : gk_G p s m args meth c RL 9 cL_law (some .boolean) wsL_law D (g_T cI cZ cJ) A) (hE : gl_F A s s.heap) (hl9 : l.stackTraces = false) (hX : va_X b L xs s s.heap) (hbl : b < s.heap.size) (hbA : ¬ A b) (hL : L ≤ 2048) {g h1 h2 o h : Nat} {q q2 q3 : Nat → Nat} {f : Nat → Int64} {u0 : gw_U} {v0 : gd_U} {M : gm_M} (wf : gm_wf M) (hrest : gm_rest M) (hh : M 9 0 < 1999000) (hr : gc_rep u0.1.1 u0.1.2 M) (hs : gr_st v0.1 v0.2.1 M) (hn : gr_now v0.2.2.1 M) {i cells slots : Nat} (hi : i + 4 ≤ L) (hc : cells ≤ 500000) (hsl : slots ≤ 7000000) (p0 : Int32) (hb : ¬ gm_rg p0 0 3) (hx1 : xs (i + 1) = p0) (x2 : Int32) (hx2 : xs (i + 2) = x2) (hz2 : x2 = 0) (K : ∀ (f9 : Nat → Int64) (u9 : gw_U) (v9 : gd_U) (c9 s9 : Nat), c9 ≤ cells + 20 → s9 ≤ slots + 240 → gc_rep u9.1.1 u9.1.2 M → gr_st v9.1 v9.2.1 M → gr_now v9.2.2.1 M → gk_C p l e room_1 s m args below meth c 9 D A Q c9 s9 (gd_X cI h q3 v9 ++ (gw_O cJ o f9 ++ (gw_X cI cZ g h1 h2 q q2 u9))) [(4, .int (nI i)), (3, .ref o), (2, .ref h), (1, .ref g), (0, .ref b)] 1565 []) : gk_C p l e room_1 s m args below meth c 9 D A Q cells slots (gd_X cI h q3 v0 ++ (gw_O cJ o f ++ (gw_X cI cZ g h1 h2 q q2 u0))) [(4, .int (nI i)), (3, .ref o), (2, .ref h), (1, .ref g), (0, .ref b)] 1282 [] := by
  refine gk_aload_n G dL_law_1282 3 rfl ?_
  refine gk_aload_n G dL_law_1283 4 rfl ?_
  refine gk_iload G dL_law_1284 0 rfl ?_
  refine gk_iconst (v := nI 1) G dL_law_1286 (by decide) ?_
  refine gk_iadd (v := nI (i + 1)) G dL_law_1287 (nI_add i 1) ?_
  refine gk_sld (v := p0) G hX hbl hbA (i + 1) rfl (by omega) (by omega) hx1 dL_law_1288 ?_
  refine gk_aload_n G dL_law_1289 4 rfl ?_
  refine gk_iload G dL_law_1290 0 rfl ?_
  refine gk_iconst (v := nI 2) G dL_law_1292 (by decide) ?_
  refine gk_iadd (v := nI (i + 2)) G dL_law_1293 (nI_add i 2) ?_
  refine gk_sld (v := x2) G hX hbl hbA (i + 2) rfl (by omega) (by omega) hx2 dL_law_1294 ?_
  refine gk_if_eq (tgt := 1302) G dL_law_1295 (by decide) (fun c_1295 => ?_) (fun c_1295 => ?_)
  · refine gk_iconst (v := nI 0) G dL_law_1302 (by decide) ?_
    refine gk_aload_n G dL_law_1303 1 rfl ?_
    refine gk_callISW (wr := gd_X cI h q3 v0) G (cl_lateWith_no l D cI cZ cJ o f g h1 h2 q q2 u0 M hl9 p0 (nI 0) wf hr hb) gL_law_L_lateWith rfl 4 (by decide +kernel) rfl rfl ⟨(Nat.le_of_ble_eq_true rfl), (Nat.le_of_ble_eq_true rfl)⟩ rfl gl_Fok hE [8, 9, 10, 11, 12, 13, 14, 15, 16, 17, 18, 19, 20, 21, 22, 23, 24, 25, 26, 27, 28, 29] rfl (by decide) [0, 1, 2, 3, 4, 5, 6, 7] rfl (by decide) (by decide) rfl (Nat.le_of_ble_eq_true rfl) dL_law_1304 ⟨(show cells + 1 ≤ 601024 by omega), (show slots + 6 ≤ 7293034 by omega)⟩ (fun r1304 uu1304 hp1304 => ?_)
    obtain ⟨f1304, u1304⟩ := uu1304
    have hK1304 : r1304 = nI 1 := hp1304.1
    have hr1304 : gc_rep u1304.1.1 u1304.1.2 M := hp1304.2
    show gk_C p l e room_1 s m args below meth c 9 D A Q (cells + 1) (slots + 6) (gd_X cI h q3 v0 ++ (gw_O cJ o f1304 ++ (gw_X cI cZ g h1 h2 q q2 u1304))) [(4, .int (nI i)), (3, .ref o), (2, .ref h), (1, .ref g), (0, .ref b)] 1307 [.int r1304]
    refine gk_istore (lv' := [(5, .int r1304), (4, .int (nI i)), (3, .ref o), (2, .ref h), (1, .ref g), (0, .ref b)]) G dL_law_1307 (by decide) rfl ?_
    refine gk_aload_n G dL_law_1309 3 rfl ?_
    refine gk_aload_n G dL_law_1310 5 rfl ?_
    refine gk_iload G dL_law_1311 1 rfl ?_
    refine gk_iconst (v := nI 1) G dL_law_1313 (by decide) ?_
    refine gk_iadd (v := nI (i + 1)) G dL_law_1314 (nI_add i 1) ?_
    refine gk_sld (v := p0) G hX hbl hbA (i + 1) rfl (by omega) (by omega) hx1 dL_law_1315 ?_
    refine gk_aload_n G dL_law_1316 5 rfl ?_
    refine gk_iload G dL_law_1317 1 rfl ?_
    refine gk_iconst (v := nI 2) G dL_law_1319 (by decide) ?_
    refine gk_iadd (v := nI (i + 2)) G dL_law_1320 (nI_add i 2) ?_
    refine gk_sld (v := x2) G hX hbl hbA (i + 2) rfl (by omega) (by omega) hx2 dL_law_1321 ?_
    refine gk_if_eq (tgt := 1329) G dL_law_1322 (by decide) (fun c_1322 => ?_) (fun c_1322 => ?_)
    · refine gk_iconst (v := nI 0) G dL_law_1329 (by decide) ?_
      refine gk_callIV (wr := gw_O cJ o f1304 ++ (gw_X cI cZ g h1 h2 q q2 u1304)) G (c2_lateWith_no l D cI cZ cJ h q3 v0.1 v0.2.1 v0.2.2.1 v0.2.2.2.1 v0.2.2.2.2 M p0 (nI 0) wf hs hn hb) gL_law_X2_lateWith rfl 2 (by decide +kernel) rfl rfl ⟨(Nat.le_of_ble_eq_true rfl), (Nat.le_of_ble_eq_true rfl)⟩ rfl (q0 := 0) rfl (T := TX2) (N := 12) rfl gk_ok0 trivial [0, 1, 2, 3, 4, 5, 6, 7] rfl (by decide) [8, 9, 10, 11, 12, 13, 14, 15, 16, 17, 18, 19, 20, 21, 22, 23, 24, 25, 26, 27, 28, 29] rfl (by decide) (by decide) rfl (Nat.le_of_ble_eq_true rfl) dL_law_1330 ⟨(show (cells + 1) + 0 ≤ 601024 by omega), (show (slots + 6) + 0 ≤ 7293034 by omega)⟩ (fun r1330 v1330 hp1330 => ?_)
      have hR1330 : r1330 = nI 0 := hp1330.1
      have hs1330 : gr_st v1330.1 v1330.2.1 M := hp1330.2.1
      have hn1330 : gr_now v1330.2.2.1 M := hp1330.2.2.1
      have hF1330 : v1330.1 0 = nI 1 := hp1330.2.2.2
      refine gk_wsub (w' := (gd_X cI h q3 v1330 ++ (gw_O cJ o f1304 ++ (gw_X cI cZ g h1 h2 q q2 u1304)))) [22, 23, 24, 25, 26, 27, 28, 29, 0, 1, 2, 3, 4, 5, 6, 7, 8, 9, 10, 11, 12, 13, 14, 15, 16, 17, 18, 19, 20, 21] rfl (by decide) ?_
      show gk_C p l e room_1 s m args below meth c 9 D A Q ((cells + 1) + 0) ((slots + 6) + 0) (gd_X cI h q3 v1330 ++ (gw_O cJ o f1304 ++ (gw_X cI cZ g h1 h2 q q2 u1304))) [(5, .int r1304), (4, .int (nI i)), (3, .ref o), (2, .ref h), (1, .ref g), (0, .ref b)] 1333 [.int r1330]
      refine gk_istore (lv' := [(6, .int r1330), (5, .int r1304), (4, .int (nI i)), (3, .ref o), (2, .ref h), (1, .ref g), (0, .ref b)]) G dL_law_1333 (by decide) rfl ?_
      refine gk_aload_n G dL_law_1335 4 rfl ?_
      refine gk_callIV (wr := gw_O cJ o f1304 ++ (gw_X cI cZ g h1 h2 q q2 u1304)) G (c2_thrown l D cI cZ cJ h q3 v1330.1 v1330.2.1 v1330.2.2.1 v1330.2.2.2.1 v1330.2.2.2.2 M) gL_law_X2_thrown rfl 0 (by decide +kernel) rfl rfl ⟨(Nat.le_of_ble_eq_true rfl), (Nat.le_of_ble_eq_true rfl)⟩ rfl (q0 := 0) rfl (T := TX2) (N := 12) rfl gk_ok0 trivial [0, 1, 2, 3, 4, 5, 6, 7] rfl (by decide) [8, 9, 10, 11, 12, 13, 14, 15, 16, 17, 18, 19, 20, 21, 22, 23, 24, 25, 26, 27, 28, 29] rfl (by decide) (by decide) rfl (Nat.le_of_ble_eq_true rfl) dL_law_1336 ⟨(show ((cells + 1) + 0) + 0 ≤ 601024 by omega), (show ((slots + 6) + 0) + 0 ≤ 7293034 by omega)⟩ (fun r1336 u1336 hp1336 => ?_)
      have hT1336 : r1336 = nI 1 := (show r1336 = v1330.1 0 from hp1336).trans hF1330
      refine gk_wsub (w' := (gd_X cI h q3 v1330 ++ (gw_O cJ o f1304 ++ (gw_X cI cZ g h1 h2 q q2 u1304)))) [22, 23, 24, 25, 26, 27, 28, 29, 0, 1, 2, 3, 4, 5, 6, 7, 8, 9, 10, 11, 12, 13, 14, 15, 16, 17, 18, 19, 20, 21] rfl (by decide) ?_
      show gk_C p l e room_1 s m args below meth c 9 D A Q (((cells + 1) + 0) + 0) (((slots + 6) + 0) + 0) (gd_X cI h q3 v1330 ++ (gw_O cJ o f1304 ++ (gw_X cI cZ g h1 h2 q q2 u1304))) [(6, .int r1330), (5, .int r1304), (4, .int (nI i)), (3, .ref o), (2, .ref h), (1, .ref g), (0, .ref b)] 1339 [.int r1336]
      refine gk_iload G dL_law_1339 1 rfl ?_
      refine gk_icmp_eq (tgt := 1346) G dL_law_1341 (by decide) (fun c_1341 => ?_) (fun c_1341 => ?_)
      · refine gk_iload G dL_law_1346 1 rfl ?_
        refine gk_if_ne (tgt := 1363) G dL_law_1348 (by decide) (fun c_1348 => ?_) (fun c_1348 => ?_)
        · refine gk_goto (tgt := 1565) G dL_law_1363 (by decide) ?_
          exact gk_lsub [2, 3, 4, 5, 6] rfl (K f1304 u1304 v1330 _ _ (by omega) (by omega) hr1304 hs1330 hn1330)
        · exact absurd (hK1304.symm.trans c_1348) (by decide)
      · exact absurd (hT1336.trans hK1304.symm) c_1341
    · exact absurd hz2 c_1322
  · exact absurd hz2 c_1295
set_option maxRecDepth 100000 in
set_option maxHeartbeats 1000000 in
theorem lg_lateWith_ok_0 {p : Program} {l : Launch} {e : Env} {s : State} {m : MethodId} {args : Array Value} {below : List Frame} {meth : Method} {c : Code} {D : va_G} {A : Nat → Prop} {Q : State → Prop} {cI cZ cJ : ClassId} {b L : Nat} {xs : Nat → Int32} (G : gk_G p s m args meth c RL 9 cL_law (some .boolean) wsL_law D (g_T cI cZ cJ) A) (hE : gl_F A s s.heap) (hl9 : l.stackTraces = false) (hX : va_X b L xs s s.heap) (hbl : b < s.heap.size) (hbA : ¬ A b) (hL : L ≤ 2048) {g h1 h2 o h : Nat} {q q2 q3 : Nat → Nat} {f : Nat → Int64} {u0 : gw_U} {v0 : gd_U} {M : gm_M} (wf : gm_wf M) (hrest : gm_rest M) (hh : M 9 0 < 1999000) (hr : gc_rep u0.1.1 u0.1.2 M) (hs : gr_st v0.1 v0.2.1 M) (hn : gr_now v0.2.2.1 M) {i cells slots : Nat} (hi : i + 4 ≤ L) (hc : cells ≤ 500000) (hsl : slots ≤ 7000000) (v : Nat) (hv : v < 3) (hx1 : xs (i + 1) = nI v) (x2 : Int32) (hx2 : xs (i + 2) = x2) (hz2 : x2 = 0) (K : ∀ (f9 : Nat → Int64) (u9 : gw_U) (v9 : gd_U) (c9 s9 : Nat), c9 ≤ cells + 20 → s9 ≤ slots + 240 → gc_rep u9.1.1 u9.1.2 M → gr_st v9.1 v9.2.1 M → gr_now v9.2.2.1 M → gk_C p l e room_1 s m args below meth c 9 D A Q c9 s9 (gd_X cI h q3 v9 ++ (gw_O cJ o f9 ++ (gw_X cI cZ g h1 h2 q q2 u9))) [(4, .int (nI i)), (3, .ref o), (2, .ref h), (1, .ref g), (0, .ref b)] 1565 []) : gk_C p l e room_1 s m args below meth c 9 D A Q cells slots (gd_X cI h q3 v0 ++ (gw_O cJ o f ++ (gw_X cI cZ g h1 h2 q q2 u0))) [(4, .int (nI i)), (3, .ref o), (2, .ref h), (1, .ref g), (0, .ref b)] 1282 [] := by
  refine gk_aload_n G dL_law_1282 3 rfl ?_
  refine gk_aload_n G dL_law_1283 4 rfl ?_
  refine gk_iload G dL_law_1284 0 rfl ?_
  refine gk_iconst (v := nI 1) G dL_law_1286 (by decide) ?_
  refine gk_iadd (v := nI (i + 1)) G dL_law_1287 (nI_add i 1) ?_
  refine gk_sld (v := (nI v)) G hX hbl hbA (i + 1) rfl (by omega) (by omega) hx1 dL_law_1288 ?_
  refine gk_aload_n G dL_law_1289 4 rfl ?_
  refine gk_iload G dL_law_1290 0 rfl ?_
  refine gk_iconst (v := nI 2) G dL_law_1292 (by decide) ?_
  refine gk_iadd (v := nI (i + 2)) G dL_law_1293 (nI_add i 2) ?_
  refine gk_sld (v := x2) G hX hbl hbA (i + 2) rfl (by omega) (by omega) hx2 dL_law_1294 ?_
  refine gk_if_eq (tgt := 1302) G dL_law_1295 (by decide) (fun c_1295 => ?_) (fun c_1295 => ?_)
  · refine gk_iconst (v := nI 0) G dL_law_1302 (by decide) ?_
    refine gk_aload_n G dL_law_1303 1 rfl ?_
    refine gk_callISW (wr := gd_X cI h q3 v0) G (cl_lateWith_ok l D cI cZ cJ o f g h1 h2 q q2 u0 M v 0 wf hr hrest (by omega) hv (by decide)) gL_law_L_lateWith rfl 4 (by decide +kernel) rfl rfl ⟨(Nat.le_of_ble_eq_true rfl), (Nat.le_of_ble_eq_true rfl)⟩ rfl gl_Fok hE [8, 9, 10, 11, 12, 13, 14, 15, 16, 17, 18, 19, 20, 21, 22, 23, 24, 25, 26, 27, 28, 29] rfl (by decide) [0, 1, 2, 3, 4, 5, 6, 7] rfl (by decide) (by decide) rfl (Nat.le_of_ble_eq_true rfl) dL_law_1304 ⟨(show cells + 0 ≤ 601024 by omega), (show slots + 0 ≤ 7293034 by omega)⟩ (fun r1304 uu1304 hp1304 => ?_)
    obtain ⟨f1304, u1304⟩ := uu1304
    have hK1304 : r1304 = nI 0 := hp1304.1
    have hv1304 : f1304 0 = (nI (gm_lw M v 0)).toInt64 := hp1304.2.1
    have hr1304 : gc_rep u1304.1.1 u1304.1.2 M := hp1304.2.2
    show gk_C p l e room_1 s m args below meth c 9 D A Q (cells + 0) (slots + 0) (gd_X cI h q3 v0 ++ (gw_O cJ o f1304 ++ (gw_X cI cZ g h1 h2 q q2 u1304))) [(4, .int (nI i)), (3, .ref o), (2, .ref h), (1, .ref g), (0, .ref b)] 1307 [.int r1304]
    refine gk_istore (lv' := [(5, .int r1304), (4, .int (nI i)), (3, .ref o), (2, .ref h), (1, .ref g), (0, .ref b)]) G dL_law_1307 (by decide) rfl ?_
    refine gk_aload_n G dL_law_1309 3 rfl ?_
    refine gk_aload_n G dL_law_1310 5 rfl ?_
    refine gk_iload G dL_law_1311 1 rfl ?_
    refine gk_iconst (v := nI 1) G dL_law_1313 (by decide) ?_
    refine gk_iadd (v := nI (i + 1)) G dL_law_1314 (nI_add i 1) ?_
    refine gk_sld (v := (nI v)) G hX hbl hbA (i + 1) rfl (by omega) (by omega) hx1 dL_law_1315 ?_
    refine gk_aload_n G dL_law_1316 5 rfl ?_
    refine gk_iload G dL_law_1317 1 rfl ?_
    refine gk_iconst (v := nI 2) G dL_law_1319 (by decide) ?_
    refine gk_iadd (v := nI (i + 2)) G dL_law_1320 (nI_add i 2) ?_
    refine gk_sld (v := x2) G hX hbl hbA (i + 2) rfl (by omega) (by omega) hx2 dL_law_1321 ?_
    refine gk_if_eq (tgt := 1329) G dL_law_1322 (by decide) (fun c_1322 => ?_) (fun c_1322 => ?_)
    · refine gk_iconst (v := nI 0) G dL_law_1329 (by decide) ?_
      refine gk_callIV (wr := gw_O cJ o f1304 ++ (gw_X cI cZ g h1 h2 q q2 u1304)) G (c2_lateWith_ok l D cI cZ cJ h q3 v0.1 v0.2.1 v0.2.2.1 v0.2.2.2.1 v0.2.2.2.2 M v 0 wf hs hn hrest (by omega) (by omega) (by omega)) gL_law_X2_lateWith rfl 2 (by decide +kernel) rfl rfl ⟨(Nat.le_of_ble_eq_true rfl), (Nat.le_of_ble_eq_true rfl)⟩ rfl (q0 := 0) rfl (T := TX2) (N := 12) rfl gk_ok0 trivial [0, 1, 2, 3, 4, 5, 6, 7] rfl (by decide) [8, 9, 10, 11, 12, 13, 14, 15, 16, 17, 18, 19, 20, 21, 22, 23, 24, 25, 26, 27, 28, 29] rfl (by decide) (by decide) rfl (Nat.le_of_ble_eq_true rfl) dL_law_1330 ⟨(show (cells + 0) + 0 ≤ 601024 by omega), (show (slots + 0) + 0 ≤ 7293034 by omega)⟩ (fun r1330 v1330 hp1330 => ?_)
      have hR1330 : r1330 = nI (gm_lw M v 0) := hp1330.1
      have hs1330 : gr_st v1330.1 v1330.2.1 M := hp1330.2.1
      have hn1330 : gr_now v1330.2.2.1 M := hp1330.2.2.1
      have hF1330 : v1330.1 0 = nI 0 := hp1330.2.2.2
      refine gk_wsub (w' := (gd_X cI h q3 v1330 ++ (gw_O cJ o f1304 ++ (gw_X cI cZ g h1 h2 q q2 u1304)))) [22, 23, 24, 25, 26, 27, 28, 29, 0, 1, 2, 3, 4, 5, 6, 7, 8, 9, 10, 11, 12, 13, 14, 15, 16, 17, 18, 19, 20, 21] rfl (by decide) ?_
      show gk_C p l e room_1 s m args below meth c 9 D A Q ((cells + 0) + 0) ((slots + 0) + 0) (gd_X cI h q3 v1330 ++ (gw_O cJ o f1304 ++ (gw_X cI cZ g h1 h2 q q2 u1304))) [(5, .int r1304), (4, .int (nI i)), (3, .ref o), (2, .ref h), (1, .ref g), (0, .ref b)] 1333 [.int r1330]
      refine gk_istore (lv' := [(6, .int r1330), (5, .int r1304), (4, .int (nI i)), (3, .ref o), (2, .ref h), (1, .ref g), (0, .ref b)]) G dL_law_1333 (by decide) rfl ?_
      refine gk_aload_n G dL_law_1335 4 rfl ?_
      refine gk_callIV (wr := gw_O cJ o f1304 ++ (gw_X cI cZ g h1 h2 q q2 u1304)) G (c2_thrown l D cI cZ cJ h q3 v1330.1 v1330.2.1 v1330.2.2.1 v1330.2.2.2.1 v1330.2.2.2.2 M) gL_law_X2_thrown rfl 0 (by decide +kernel) rfl rfl ⟨(Nat.le_of_ble_eq_true rfl), (Nat.le_of_ble_eq_true rfl)⟩ rfl (q0 := 0) rfl (T := TX2) (N := 12) rfl gk_ok0 trivial [0, 1, 2, 3, 4, 5, 6, 7] rfl (by decide) [8, 9, 10, 11, 12, 13, 14, 15, 16, 17, 18, 19, 20, 21, 22, 23, 24, 25, 26, 27, 28, 29] rfl (by decide) (by decide) rfl (Nat.le_of_ble_eq_true rfl) dL_law_1336 ⟨(show ((cells + 0) + 0) + 0 ≤ 601024 by omega), (show ((slots + 0) + 0) + 0 ≤ 7293034 by omega)⟩ (fun r1336 u1336 hp1336 => ?_)
      have hT1336 : r1336 = nI 0 := (show r1336 = v1330.1 0 from hp1336).trans hF1330
      refine gk_wsub (w' := (gd_X cI h q3 v1330 ++ (gw_O cJ o f1304 ++ (gw_X cI cZ g h1 h2 q q2 u1304)))) [22, 23, 24, 25, 26, 27, 28, 29, 0, 1, 2, 3, 4, 5, 6, 7, 8, 9, 10, 11, 12, 13, 14, 15, 16, 17, 18, 19, 20, 21] rfl (by decide) ?_
      show gk_C p l e room_1 s m args below meth c 9 D A Q (((cells + 0) + 0) + 0) (((slots + 0) + 0) + 0) (gd_X cI h q3 v1330 ++ (gw_O cJ o f1304 ++ (gw_X cI cZ g h1 h2 q q2 u1304))) [(6, .int r1330), (5, .int r1304), (4, .int (nI i)), (3, .ref o), (2, .ref h), (1, .ref g), (0, .ref b)] 1339 [.int r1336]
      refine gk_iload G dL_law_1339 1 rfl ?_
      refine gk_icmp_eq (tgt := 1346) G dL_law_1341 (by decide) (fun c_1341 => ?_) (fun c_1341 => ?_)
      · refine gk_iload G dL_law_1346 1 rfl ?_
        refine gk_if_ne (tgt := 1363) G dL_law_1348 (by decide) (fun c_1348 => ?_) (fun c_1348 => ?_)
        · exact absurd (hK1304.trans nI_0) c_1348
        · refine gk_aload_n G dL_law_1351 3 rfl ?_
          refine gk_iconst (v := nI 0) G dL_law_1352 (by decide) ?_
          refine gk_lald (v := f1304 0) G (q0 := 8) (t0 := 2) rfl rfl 0 rfl (by decide) (by decide) rfl dL_law_1353 ?_
          refine gk_iload G dL_law_1354 0 rfl ?_
          refine gk_i2l (v := (r1330).toInt64) G dL_law_1356 rfl ?_
          refine gk_lcmp G dL_law_1357 ?_
          refine gk_if_eq (tgt := 1363) G dL_law_1358 (by decide) (fun c_1358 => ?_) (fun c_1358 => ?_)
          · refine gk_goto (tgt := 1565) G dL_law_1363 (by decide) ?_
            exact gk_lsub [2, 3, 4, 5, 6] rfl (K f1304 u1304 v1330 _ _ (by omega) (by omega) hr1304 hs1330 hn1330)
          · exact absurd (gl_cmp (hv1304.trans (congrArg Int32.toInt64 hR1330).symm)) c_1358
      · exact absurd (hT1336.trans hK1304.symm) c_1341
    · exact absurd hz2 c_1322
  · exact absurd hz2 c_1295
set_option maxRecDepth 100000 in
set_option maxHeartbeats 1000000 in
theorem lg_lateWith_no_1 {p : Program} {l : Launch} {e : Env} {s : State} {m : MethodId} {args : Array Value} {below : List Frame} {meth : Method} {c : Code} {D : va_G} {A : Nat → Prop} {Q : State → Prop} {cI cZ cJ : ClassId} {b L : Nat} {xs : Nat → Int32} (G : gk_G p s m args meth c RL 9 cL_law (some .boolean) wsL_law D (g_T cI cZ cJ) A) (hE : gl_F A s s.heap) (hl9 : l.stackTraces = false) (hX : va_X b L xs s s.heap) (hbl : b < s.heap.size) (hbA : ¬ A b) (hL : L ≤ 2048) {g h1 h2 o h : Nat} {q q2 q3 : Nat → Nat} {f : Nat → Int64} {u0 : gw_U} {v0 : gd_U} {M : gm_M} (wf : gm_wf M) (hrest : gm_rest M) (hh : M 9 0 < 1999000) (hr : gc_rep u0.1.1 u0.1.2 M) (hs : gr_st v0.1 v0.2.1 M) (hn : gr_now v0.2.2.1 M) {i cells slots : Nat} (hi : i + 4 ≤ L) (hc : cells ≤ 500000) (hsl : slots ≤ 7000000) (p0 : Int32) (hb : ¬ gm_rg p0 0 3) (hx1 : xs (i + 1) = p0) (x2 : Int32) (hx2 : xs (i + 2) = x2) (hz2 : ¬ x2 = 0) (K : ∀ (f9 : Nat → Int64) (u9 : gw_U) (v9 : gd_U) (c9 s9 : Nat), c9 ≤ cells + 20 → s9 ≤ slots + 240 → gc_rep u9.1.1 u9.1.2 M → gr_st v9.1 v9.2.1 M → gr_now v9.2.2.1 M → gk_C p l e room_1 s m args below meth c 9 D A Q c9 s9 (gd_X cI h q3 v9 ++ (gw_O cJ o f9 ++ (gw_X cI cZ g h1 h2 q q2 u9))) [(4, .int (nI i)), (3, .ref o), (2, .ref h), (1, .ref g), (0, .ref b)] 1565 []) : gk_C p l e room_1 s m args below meth c 9 D A Q cells slots (gd_X cI h q3 v0 ++ (gw_O cJ o f ++ (gw_X cI cZ g h1 h2 q q2 u0))) [(4, .int (nI i)), (3, .ref o), (2, .ref h), (1, .ref g), (0, .ref b)] 1282 [] := by
  refine gk_aload_n G dL_law_1282 3 rfl ?_
  refine gk_aload_n G dL_law_1283 4 rfl ?_
  refine gk_iload G dL_law_1284 0 rfl ?_
  refine gk_iconst (v := nI 1) G dL_law_1286 (by decide) ?_
  refine gk_iadd (v := nI (i + 1)) G dL_law_1287 (nI_add i 1) ?_
  refine gk_sld (v := p0) G hX hbl hbA (i + 1) rfl (by omega) (by omega) hx1 dL_law_1288 ?_
  refine gk_aload_n G dL_law_1289 4 rfl ?_
  refine gk_iload G dL_law_1290 0 rfl ?_
  refine gk_iconst (v := nI 2) G dL_law_1292 (by decide) ?_
  refine gk_iadd (v := nI (i + 2)) G dL_law_1293 (nI_add i 2) ?_
  refine gk_sld (v := x2) G hX hbl hbA (i + 2) rfl (by omega) (by omega) hx2 dL_law_1294 ?_
  refine gk_if_eq (tgt := 1302) G dL_law_1295 (by decide) (fun c_1295 => ?_) (fun c_1295 => ?_)
  · exact absurd c_1295 hz2
  · refine gk_iconst (v := nI 1) G dL_law_1298 (by decide) ?_
    refine gk_goto (tgt := 1303) G dL_law_1299 (by decide) ?_
    refine gk_aload_n G dL_law_1303 1 rfl ?_
    refine gk_callISW (wr := gd_X cI h q3 v0) G (cl_lateWith_no l D cI cZ cJ o f g h1 h2 q q2 u0 M hl9 p0 (nI 1) wf hr hb) gL_law_L_lateWith rfl 4 (by decide +kernel) rfl rfl ⟨(Nat.le_of_ble_eq_true rfl), (Nat.le_of_ble_eq_true rfl)⟩ rfl gl_Fok hE [8, 9, 10, 11, 12, 13, 14, 15, 16, 17, 18, 19, 20, 21, 22, 23, 24, 25, 26, 27, 28, 29] rfl (by decide) [0, 1, 2, 3, 4, 5, 6, 7] rfl (by decide) (by decide) rfl (Nat.le_of_ble_eq_true rfl) dL_law_1304 ⟨(show cells + 1 ≤ 601024 by omega), (show slots + 6 ≤ 7293034 by omega)⟩ (fun r1304 uu1304 hp1304 => ?_)
    obtain ⟨f1304, u1304⟩ := uu1304
    have hK1304 : r1304 = nI 1 := hp1304.1
    have hr1304 : gc_rep u1304.1.1 u1304.1.2 M := hp1304.2
    show gk_C p l e room_1 s m args below meth c 9 D A Q (cells + 1) (slots + 6) (gd_X cI h q3 v0 ++ (gw_O cJ o f1304 ++ (gw_X cI cZ g h1 h2 q q2 u1304))) [(4, .int (nI i)), (3, .ref o), (2, .ref h), (1, .ref g), (0, .ref b)] 1307 [.int r1304]
    refine gk_istore (lv' := [(5, .int r1304), (4, .int (nI i)), (3, .ref o), (2, .ref h), (1, .ref g), (0, .ref b)]) G dL_law_1307 (by decide) rfl ?_
    refine gk_aload_n G dL_law_1309 3 rfl ?_
    refine gk_aload_n G dL_law_1310 5 rfl ?_
    refine gk_iload G dL_law_1311 1 rfl ?_
    refine gk_iconst (v := nI 1) G dL_law_1313 (by decide) ?_
    refine gk_iadd (v := nI (i + 1)) G dL_law_1314 (nI_add i 1) ?_
    refine gk_sld (v := p0) G hX hbl hbA (i + 1) rfl (by omega) (by omega) hx1 dL_law_1315 ?_
    refine gk_aload_n G dL_law_1316 5 rfl ?_
    refine gk_iload G dL_law_1317 1 rfl ?_
    refine gk_iconst (v := nI 2) G dL_law_1319 (by decide) ?_
    refine gk_iadd (v := nI (i + 2)) G dL_law_1320 (nI_add i 2) ?_
    refine gk_sld (v := x2) G hX hbl hbA (i + 2) rfl (by omega) (by omega) hx2 dL_law_1321 ?_
    refine gk_if_eq (tgt := 1329) G dL_law_1322 (by decide) (fun c_1322 => ?_) (fun c_1322 => ?_)
    · exact absurd c_1322 hz2
    · refine gk_iconst (v := nI 1) G dL_law_1325 (by decide) ?_
      refine gk_goto (tgt := 1330) G dL_law_1326 (by decide) ?_
      refine gk_callIV (wr := gw_O cJ o f1304 ++ (gw_X cI cZ g h1 h2 q q2 u1304)) G (c2_lateWith_no l D cI cZ cJ h q3 v0.1 v0.2.1 v0.2.2.1 v0.2.2.2.1 v0.2.2.2.2 M p0 (nI 1) wf hs hn hb) gL_law_X2_lateWith rfl 2 (by decide +kernel) rfl rfl ⟨(Nat.le_of_ble_eq_true rfl), (Nat.le_of_ble_eq_true rfl)⟩ rfl (q0 := 0) rfl (T := TX2) (N := 12) rfl gk_ok0 trivial [0, 1, 2, 3, 4, 5, 6, 7] rfl (by decide) [8, 9, 10, 11, 12, 13, 14, 15, 16, 17, 18, 19, 20, 21, 22, 23, 24, 25, 26, 27, 28, 29] rfl (by decide) (by decide) rfl (Nat.le_of_ble_eq_true rfl) dL_law_1330 ⟨(show (cells + 1) + 0 ≤ 601024 by omega), (show (slots + 6) + 0 ≤ 7293034 by omega)⟩ (fun r1330 v1330 hp1330 => ?_)
      have hR1330 : r1330 = nI 0 := hp1330.1
      have hs1330 : gr_st v1330.1 v1330.2.1 M := hp1330.2.1
      have hn1330 : gr_now v1330.2.2.1 M := hp1330.2.2.1
      have hF1330 : v1330.1 0 = nI 1 := hp1330.2.2.2
      refine gk_wsub (w' := (gd_X cI h q3 v1330 ++ (gw_O cJ o f1304 ++ (gw_X cI cZ g h1 h2 q q2 u1304)))) [22, 23, 24, 25, 26, 27, 28, 29, 0, 1, 2, 3, 4, 5, 6, 7, 8, 9, 10, 11, 12, 13, 14, 15, 16, 17, 18, 19, 20, 21] rfl (by decide) ?_
      show gk_C p l e room_1 s m args below meth c 9 D A Q ((cells + 1) + 0) ((slots + 6) + 0) (gd_X cI h q3 v1330 ++ (gw_O cJ o f1304 ++ (gw_X cI cZ g h1 h2 q q2 u1304))) [(5, .int r1304), (4, .int (nI i)), (3, .ref o), (2, .ref h), (1, .ref g), (0, .ref b)] 1333 [.int r1330]
      refine gk_istore (lv' := [(6, .int r1330), (5, .int r1304), (4, .int (nI i)), (3, .ref o), (2, .ref h), (1, .ref g), (0, .ref b)]) G dL_law_1333 (by decide) rfl ?_
      refine gk_aload_n G dL_law_1335 4 rfl ?_
      refine gk_callIV (wr := gw_O cJ o f1304 ++ (gw_X cI cZ g h1 h2 q q2 u1304)) G (c2_thrown l D cI cZ cJ h q3 v1330.1 v1330.2.1 v1330.2.2.1 v1330.2.2.2.1 v1330.2.2.2.2 M) gL_law_X2_thrown rfl 0 (by decide +kernel) rfl rfl ⟨(Nat.le_of_ble_eq_true rfl), (Nat.le_of_ble_eq_true rfl)⟩ rfl (q0 := 0) rfl (T := TX2) (N := 12) rfl gk_ok0 trivial [0, 1, 2, 3, 4, 5, 6, 7] rfl (by decide) [8, 9, 10, 11, 12, 13, 14, 15, 16, 17, 18, 19, 20, 21, 22, 23, 24, 25, 26, 27, 28, 29] rfl (by decide) (by decide) rfl (Nat.le_of_ble_eq_true rfl) dL_law_1336 ⟨(show ((cells + 1) + 0) + 0 ≤ 601024 by omega), (show ((slots + 6) + 0) + 0 ≤ 7293034 by omega)⟩ (fun r1336 u1336 hp1336 => ?_)
      have hT1336 : r1336 = nI 1 := (show r1336 = v1330.1 0 from hp1336).trans hF1330
      refine gk_wsub (w' := (gd_X cI h q3 v1330 ++ (gw_O cJ o f1304 ++ (gw_X cI cZ g h1 h2 q q2 u1304)))) [22, 23, 24, 25, 26, 27, 28, 29, 0, 1, 2, 3, 4, 5, 6, 7, 8, 9, 10, 11, 12, 13, 14, 15, 16, 17, 18, 19, 20, 21] rfl (by decide) ?_
      show gk_C p l e room_1 s m args below meth c 9 D A Q (((cells + 1) + 0) + 0) (((slots + 6) + 0) + 0) (gd_X cI h q3 v1330 ++ (gw_O cJ o f1304 ++ (gw_X cI cZ g h1 h2 q q2 u1304))) [(6, .int r1330), (5, .int r1304), (4, .int (nI i)), (3, .ref o), (2, .ref h), (1, .ref g), (0, .ref b)] 1339 [.int r1336]
      refine gk_iload G dL_law_1339 1 rfl ?_
      refine gk_icmp_eq (tgt := 1346) G dL_law_1341 (by decide) (fun c_1341 => ?_) (fun c_1341 => ?_)
      · refine gk_iload G dL_law_1346 1 rfl ?_
        refine gk_if_ne (tgt := 1363) G dL_law_1348 (by decide) (fun c_1348 => ?_) (fun c_1348 => ?_)
        · refine gk_goto (tgt := 1565) G dL_law_1363 (by decide) ?_
          exact gk_lsub [2, 3, 4, 5, 6] rfl (K f1304 u1304 v1330 _ _ (by omega) (by omega) hr1304 hs1330 hn1330)
        · exact absurd (hK1304.symm.trans c_1348) (by decide)
      · exact absurd (hT1336.trans hK1304.symm) c_1341
set_option maxRecDepth 100000 in
set_option maxHeartbeats 1000000 in
theorem lg_lateWith_ok_1 {p : Program} {l : Launch} {e : Env} {s : State} {m : MethodId} {args : Array Value} {below : List Frame} {meth : Method} {c : Code} {D : va_G} {A : Nat → Prop} {Q : State → Prop} {cI cZ cJ : ClassId} {b L : Nat} {xs : Nat → Int32} (G : gk_G p s m args meth c RL 9 cL_law (some .boolean) wsL_law D (g_T cI cZ cJ) A) (hE : gl_F A s s.heap) (hl9 : l.stackTraces = false) (hX : va_X b L xs s s.heap) (hbl : b < s.heap.size) (hbA : ¬ A b) (hL : L ≤ 2048) {g h1 h2 o h : Nat} {q q2 q3 : Nat → Nat} {f : Nat → Int64} {u0 : gw_U} {v0 : gd_U} {M : gm_M} (wf : gm_wf M) (hrest : gm_rest M) (hh : M 9 0 < 1999000) (hr : gc_rep u0.1.1 u0.1.2 M) (hs : gr_st v0.1 v0.2.1 M) (hn : gr_now v0.2.2.1 M) {i cells slots : Nat} (hi : i + 4 ≤ L) (hc : cells ≤ 500000) (hsl : slots ≤ 7000000) (v : Nat) (hv : v < 3) (hx1 : xs (i + 1) = nI v) (x2 : Int32) (hx2 : xs (i + 2) = x2) (hz2 : ¬ x2 = 0) (K : ∀ (f9 : Nat → Int64) (u9 : gw_U) (v9 : gd_U) (c9 s9 : Nat), c9 ≤ cells + 20 → s9 ≤ slots + 240 → gc_rep u9.1.1 u9.1.2 M → gr_st v9.1 v9.2.1 M → gr_now v9.2.2.1 M → gk_C p l e room_1 s m args below meth c 9 D A Q c9 s9 (gd_X cI h q3 v9 ++ (gw_O cJ o f9 ++ (gw_X cI cZ g h1 h2 q q2 u9))) [(4, .int (nI i)), (3, .ref o), (2, .ref h), (1, .ref g), (0, .ref b)] 1565 []) : gk_C p l e room_1 s m args below meth c 9 D A Q cells slots (gd_X cI h q3 v0 ++ (gw_O cJ o f ++ (gw_X cI cZ g h1 h2 q q2 u0))) [(4, .int (nI i)), (3, .ref o), (2, .ref h), (1, .ref g), (0, .ref b)] 1282 [] := by
  refine gk_aload_n G dL_law_1282 3 rfl ?_
  refine gk_aload_n G dL_law_1283 4 rfl ?_
  refine gk_iload G dL_law_1284 0 rfl ?_
  refine gk_iconst (v := nI 1) G dL_law_1286 (by decide) ?_
  refine gk_iadd (v := nI (i + 1)) G dL_law_1287 (nI_add i 1) ?_
  refine gk_sld (v := (nI v)) G hX hbl hbA (i + 1) rfl (by omega) (by omega) hx1 dL_law_1288 ?_
  refine gk_aload_n G dL_law_1289 4 rfl ?_
  refine gk_iload G dL_law_1290 0 rfl ?_
  refine gk_iconst (v := nI 2) G dL_law_1292 (by decide) ?_
  refine gk_iadd (v := nI (i + 2)) G dL_law_1293 (nI_add i 2) ?_
  refine gk_sld (v := x2) G hX hbl hbA (i + 2) rfl (by omega) (by omega) hx2 dL_law_1294 ?_
  refine gk_if_eq (tgt := 1302) G dL_law_1295 (by decide) (fun c_1295 => ?_) (fun c_1295 => ?_)
  · exact absurd c_1295 hz2
  · refine gk_iconst (v := nI 1) G dL_law_1298 (by decide) ?_
    refine gk_goto (tgt := 1303) G dL_law_1299 (by decide) ?_
    refine gk_aload_n G dL_law_1303 1 rfl ?_
    refine gk_callISW (wr := gd_X cI h q3 v0) G (cl_lateWith_ok l D cI cZ cJ o f g h1 h2 q q2 u0 M v 1 wf hr hrest (by omega) hv (by decide)) gL_law_L_lateWith rfl 4 (by decide +kernel) rfl rfl ⟨(Nat.le_of_ble_eq_true rfl), (Nat.le_of_ble_eq_true rfl)⟩ rfl gl_Fok hE [8, 9, 10, 11, 12, 13, 14, 15, 16, 17, 18, 19, 20, 21, 22, 23, 24, 25, 26, 27, 28, 29] rfl (by decide) [0, 1, 2, 3, 4, 5, 6, 7] rfl (by decide) (by decide) rfl (Nat.le_of_ble_eq_true rfl) dL_law_1304 ⟨(show cells + 0 ≤ 601024 by omega), (show slots + 0 ≤ 7293034 by omega)⟩ (fun r1304 uu1304 hp1304 => ?_)
    obtain ⟨f1304, u1304⟩ := uu1304
    have hK1304 : r1304 = nI 0 := hp1304.1
    have hv1304 : f1304 0 = (nI (gm_lw M v 1)).toInt64 := hp1304.2.1
    have hr1304 : gc_rep u1304.1.1 u1304.1.2 M := hp1304.2.2
    show gk_C p l e room_1 s m args below meth c 9 D A Q (cells + 0) (slots + 0) (gd_X cI h q3 v0 ++ (gw_O cJ o f1304 ++ (gw_X cI cZ g h1 h2 q q2 u1304))) [(4, .int (nI i)), (3, .ref o), (2, .ref h), (1, .ref g), (0, .ref b)] 1307 [.int r1304]
    refine gk_istore (lv' := [(5, .int r1304), (4, .int (nI i)), (3, .ref o), (2, .ref h), (1, .ref g), (0, .ref b)]) G dL_law_1307 (by decide) rfl ?_
    refine gk_aload_n G dL_law_1309 3 rfl ?_
    refine gk_aload_n G dL_law_1310 5 rfl ?_
    refine gk_iload G dL_law_1311 1 rfl ?_
    refine gk_iconst (v := nI 1) G dL_law_1313 (by decide) ?_
    refine gk_iadd (v := nI (i + 1)) G dL_law_1314 (nI_add i 1) ?_
    refine gk_sld (v := (nI v)) G hX hbl hbA (i + 1) rfl (by omega) (by omega) hx1 dL_law_1315 ?_
    refine gk_aload_n G dL_law_1316 5 rfl ?_
    refine gk_iload G dL_law_1317 1 rfl ?_
    refine gk_iconst (v := nI 2) G dL_law_1319 (by decide) ?_
    refine gk_iadd (v := nI (i + 2)) G dL_law_1320 (nI_add i 2) ?_
    refine gk_sld (v := x2) G hX hbl hbA (i + 2) rfl (by omega) (by omega) hx2 dL_law_1321 ?_
    refine gk_if_eq (tgt := 1329) G dL_law_1322 (by decide) (fun c_1322 => ?_) (fun c_1322 => ?_)
    · exact absurd c_1322 hz2
    · refine gk_iconst (v := nI 1) G dL_law_1325 (by decide) ?_
      refine gk_goto (tgt := 1330) G dL_law_1326 (by decide) ?_
      refine gk_callIV (wr := gw_O cJ o f1304 ++ (gw_X cI cZ g h1 h2 q q2 u1304)) G (c2_lateWith_ok l D cI cZ cJ h q3 v0.1 v0.2.1 v0.2.2.1 v0.2.2.2.1 v0.2.2.2.2 M v 1 wf hs hn hrest (by omega) (by omega) (by omega)) gL_law_X2_lateWith rfl 2 (by decide +kernel) rfl rfl ⟨(Nat.le_of_ble_eq_true rfl), (Nat.le_of_ble_eq_true rfl)⟩ rfl (q0 := 0) rfl (T := TX2) (N := 12) rfl gk_ok0 trivial [0, 1, 2, 3, 4, 5, 6, 7] rfl (by decide) [8, 9, 10, 11, 12, 13, 14, 15, 16, 17, 18, 19, 20, 21, 22, 23, 24, 25, 26, 27, 28, 29] rfl (by decide) (by decide) rfl (Nat.le_of_ble_eq_true rfl) dL_law_1330 ⟨(show (cells + 0) + 0 ≤ 601024 by omega), (show (slots + 0) + 0 ≤ 7293034 by omega)⟩ (fun r1330 v1330 hp1330 => ?_)
      have hR1330 : r1330 = nI (gm_lw M v 1) := hp1330.1
      have hs1330 : gr_st v1330.1 v1330.2.1 M := hp1330.2.1
      have hn1330 : gr_now v1330.2.2.1 M := hp1330.2.2.1
      have hF1330 : v1330.1 0 = nI 0 := hp1330.2.2.2
      refine gk_wsub (w' := (gd_X cI h q3 v1330 ++ (gw_O cJ o f1304 ++ (gw_X cI cZ g h1 h2 q q2 u1304)))) [22, 23, 24, 25, 26, 27, 28, 29, 0, 1, 2, 3, 4, 5, 6, 7, 8, 9, 10, 11, 12, 13, 14, 15, 16, 17, 18, 19, 20, 21] rfl (by decide) ?_
      show gk_C p l e room_1 s m args below meth c 9 D A Q ((cells + 0) + 0) ((slots + 0) + 0) (gd_X cI h q3 v1330 ++ (gw_O cJ o f1304 ++ (gw_X cI cZ g h1 h2 q q2 u1304))) [(5, .int r1304), (4, .int (nI i)), (3, .ref o), (2, .ref h), (1, .ref g), (0, .ref b)] 1333 [.int r1330]
      refine gk_istore (lv' := [(6, .int r1330), (5, .int r1304), (4, .int (nI i)), (3, .ref o), (2, .ref h), (1, .ref g), (0, .ref b)]) G dL_law_1333 (by decide) rfl ?_
      refine gk_aload_n G dL_law_1335 4 rfl ?_
      refine gk_callIV (wr := gw_O cJ o f1304 ++ (gw_X cI cZ g h1 h2 q q2 u1304)) G (c2_thrown l D cI cZ cJ h q3 v1330.1 v1330.2.1 v1330.2.2.1 v1330.2.2.2.1 v1330.2.2.2.2 M) gL_law_X2_thrown rfl 0 (by decide +kernel) rfl rfl ⟨(Nat.le_of_ble_eq_true rfl), (Nat.le_of_ble_eq_true rfl)⟩ rfl (q0 := 0) rfl (T := TX2) (N := 12) rfl gk_ok0 trivial [0, 1, 2, 3, 4, 5, 6, 7] rfl (by decide) [8, 9, 10, 11, 12, 13, 14, 15, 16, 17, 18, 19, 20, 21, 22, 23, 24, 25, 26, 27, 28, 29] rfl (by decide) (by decide) rfl (Nat.le_of_ble_eq_true rfl) dL_law_1336 ⟨(show ((cells + 0) + 0) + 0 ≤ 601024 by omega), (show ((slots + 0) + 0) + 0 ≤ 7293034 by omega)⟩ (fun r1336 u1336 hp1336 => ?_)
      have hT1336 : r1336 = nI 0 := (show r1336 = v1330.1 0 from hp1336).trans hF1330
      refine gk_wsub (w' := (gd_X cI h q3 v1330 ++ (gw_O cJ o f1304 ++ (gw_X cI cZ g h1 h2 q q2 u1304)))) [22, 23, 24, 25, 26, 27, 28, 29, 0, 1, 2, 3, 4, 5, 6, 7, 8, 9, 10, 11, 12, 13, 14, 15, 16, 17, 18, 19, 20, 21] rfl (by decide) ?_
      show gk_C p l e room_1 s m args below meth c 9 D A Q (((cells + 0) + 0) + 0) (((slots + 0) + 0) + 0) (gd_X cI h q3 v1330 ++ (gw_O cJ o f1304 ++ (gw_X cI cZ g h1 h2 q q2 u1304))) [(6, .int r1330), (5, .int r1304), (4, .int (nI i)), (3, .ref o), (2, .ref h), (1, .ref g), (0, .ref b)] 1339 [.int r1336]
      refine gk_iload G dL_law_1339 1 rfl ?_
      refine gk_icmp_eq (tgt := 1346) G dL_law_1341 (by decide) (fun c_1341 => ?_) (fun c_1341 => ?_)
      · refine gk_iload G dL_law_1346 1 rfl ?_
        refine gk_if_ne (tgt := 1363) G dL_law_1348 (by decide) (fun c_1348 => ?_) (fun c_1348 => ?_)
        · exact absurd (hK1304.trans nI_0) c_1348
        · refine gk_aload_n G dL_law_1351 3 rfl ?_
          refine gk_iconst (v := nI 0) G dL_law_1352 (by decide) ?_
          refine gk_lald (v := f1304 0) G (q0 := 8) (t0 := 2) rfl rfl 0 rfl (by decide) (by decide) rfl dL_law_1353 ?_
          refine gk_iload G dL_law_1354 0 rfl ?_
          refine gk_i2l (v := (r1330).toInt64) G dL_law_1356 rfl ?_
          refine gk_lcmp G dL_law_1357 ?_
          refine gk_if_eq (tgt := 1363) G dL_law_1358 (by decide) (fun c_1358 => ?_) (fun c_1358 => ?_)
          · refine gk_goto (tgt := 1565) G dL_law_1363 (by decide) ?_
            exact gk_lsub [2, 3, 4, 5, 6] rfl (K f1304 u1304 v1330 _ _ (by omega) (by omega) hr1304 hs1330 hn1330)
          · exact absurd (gl_cmp (hv1304.trans (congrArg Int32.toInt64 hR1330).symm)) c_1358
      · exact absurd (hT1336.trans hK1304.symm) c_1341
set_option maxRecDepth 100000 in
set_option maxHeartbeats 1000000 in
theorem lg_bestRule {p : Program} {l : Launch} {e : Env} {s : State} {m : MethodId} {args : Array Value} {below : List Frame} {meth : Method} {c : Code} {D : va_G} {A : Nat → Prop} {Q : State → Prop} {cI cZ cJ : ClassId} {b L : Nat} {xs : Nat → Int32} (G : gk_G p s m args meth c RL 9 cL_law (some .boolean) wsL_law D (g_T cI cZ cJ) A) (hE : gl_F A s s.heap) (hl9 : l.stackTraces = false) (hX : va_X b L xs s s.heap) (hbl : b < s.heap.size) (hbA : ¬ A b) (hL : L ≤ 2048) {g h1 h2 o h : Nat} {q q2 q3 : Nat → Nat} {f : Nat → Int64} {u0 : gw_U} {v0 : gd_U} {M : gm_M} (wf : gm_wf M) (hrest : gm_rest M) (hh : M 9 0 < 1999000) (hr : gc_rep u0.1.1 u0.1.2 M) (hs : gr_st v0.1 v0.2.1 M) (hn : gr_now v0.2.2.1 M) {i cells slots : Nat} (hi : i + 4 ≤ L) (hc : cells ≤ 500000) (hsl : slots ≤ 7000000)    (K : ∀ (f9 : Nat → Int64) (u9 : gw_U) (v9 : gd_U) (c9 s9 : Nat), c9 ≤ cells + 20 → s9 ≤ slots + 240 → gc_rep u9.1.1 u9.1.2 M → gr_st v9.1 v9.2.1 M → gr_now v9.2.2.1 M → gk_C p l e room_1 s m args below meth c 9 D A Q c9 s9 (gd_X cI h q3 v9 ++ (gw_O cJ o f9 ++ (gw_X cI cZ g h1 h2 q q2 u9))) [(4, .int (nI i)), (3, .ref o), (2, .ref h), (1, .ref g), (0, .ref b)] 1565 []) : gk_C p l e room_1 s m args below meth c 9 D A Q cells slots (gd_X cI h q3 v0 ++ (gw_O cJ o f ++ (gw_X cI cZ g h1 h2 q q2 u0))) [(4, .int (nI i)), (3, .ref o), (2, .ref h), (1, .ref g), (0, .ref b)] 1366 [] := by
  refine gk_aload_n G dL_law_1366 3 rfl ?_
  refine gk_callIV (wr := gd_X cI h q3 v0 ++ gw_O cJ o f) G (c1_bestRule l D cI cZ cJ g h1 h2 q u0.1.1 u0.1.2 q2 u0.2.1 u0.2.2 M wf hr hrest (by omega)) gL_law_X1_bestRule rfl 0 (by decide +kernel) rfl rfl ⟨(Nat.le_of_ble_eq_true rfl), (Nat.le_of_ble_eq_true rfl)⟩ rfl (q0 := 0) rfl (T := TX1) (N := 2) rfl gn_ok hE.1 [9, 10, 11, 12, 13, 14, 15, 16, 17, 18, 19, 20, 21, 22, 23, 24, 25, 26, 27, 28, 29] rfl (by decide) [0, 1, 2, 3, 4, 5, 6, 7, 8] rfl (by decide) (by decide) rfl (Nat.le_of_ble_eq_true rfl) dL_law_1367 ⟨(show cells + 0 ≤ 601024 by omega), (show slots + 0 ≤ 7293034 by omega)⟩ (fun r1367 u1367 hp1367 => ?_)
  have hK1367 : r1367 = nI ((gm_bst M 2).1) := hp1367.1
  have hr1367 : gc_rep u1367.1.1 u1367.1.2 M := hp1367.2
  refine gk_wsub (w' := (gd_X cI h q3 v0 ++ (gw_O cJ o f ++ (gw_X cI cZ g h1 h2 q q2 u1367)))) [0, 1, 2, 3, 4, 5, 6, 7, 8, 9, 10, 11, 12, 13, 14, 15, 16, 17, 18, 19, 20, 21, 22, 23, 24, 25, 26, 27, 28, 29] rfl (by decide) ?_
  show gk_C p l e room_1 s m args below meth c 9 D A Q (cells + 0) (slots + 0) (gd_X cI h q3 v0 ++ (gw_O cJ o f ++ (gw_X cI cZ g h1 h2 q q2 u1367))) [(4, .int (nI i)), (3, .ref o), (2, .ref h), (1, .ref g), (0, .ref b)] 1370 [.int r1367]
  refine gk_aload_n G dL_law_1370 2 rfl ?_
  refine gk_callIV (wr := gw_O cJ o f ++ (gw_X cI cZ g h1 h2 q q2 u1367)) G (c2_bestRule l D cI cZ cJ h q3 v0.1 v0.2.1 v0.2.2.1 v0.2.2.2.1 v0.2.2.2.2 M wf hs hn hrest (by omega)) gL_law_X2_bestRule rfl 0 (by decide +kernel) rfl rfl ⟨(Nat.le_of_ble_eq_true rfl), (Nat.le_of_ble_eq_true rfl)⟩ rfl (q0 := 0) rfl (T := TX2) (N := 12) rfl gk_ok0 trivial [0, 1, 2, 3, 4, 5, 6, 7] rfl (by decide) [8, 9, 10, 11, 12, 13, 14, 15, 16, 17, 18, 19, 20, 21, 22, 23, 24, 25, 26, 27, 28, 29] rfl (by decide) (by decide) rfl (Nat.le_of_ble_eq_true rfl) dL_law_1371 ⟨(show (cells + 0) + 0 ≤ 601024 by omega), (show (slots + 0) + 0 ≤ 7293034 by omega)⟩ (fun r1371 v1371 hp1371 => ?_)
  have hR1371 : r1371 = nI ((gm_bst M 2).1) := hp1371.1
  have hs1371 : gr_st v1371.1 v1371.2.1 M := hp1371.2.1
  have hn1371 : gr_now v1371.2.2.1 M := hp1371.2.2.1
  have hF1371 : v1371.1 0 = nI 0 := hp1371.2.2.2
  refine gk_wsub (w' := (gd_X cI h q3 v1371 ++ (gw_O cJ o f ++ (gw_X cI cZ g h1 h2 q q2 u1367)))) [22, 23, 24, 25, 26, 27, 28, 29, 0, 1, 2, 3, 4, 5, 6, 7, 8, 9, 10, 11, 12, 13, 14, 15, 16, 17, 18, 19, 20, 21] rfl (by decide) ?_
  show gk_C p l e room_1 s m args below meth c 9 D A Q ((cells + 0) + 0) ((slots + 0) + 0) (gd_X cI h q3 v1371 ++ (gw_O cJ o f ++ (gw_X cI cZ g h1 h2 q q2 u1367))) [(4, .int (nI i)), (3, .ref o), (2, .ref h), (1, .ref g), (0, .ref b)] 1374 [.int r1371, .int r1367]
  refine gk_icmp_eq (tgt := 1565) G dL_law_1374 (by decide) (fun c_1374 => ?_) (fun c_1374 => ?_)
  · exact gk_lsub [0, 1, 2, 3, 4] rfl (K f u1367 v1371 _ _ (by omega) (by omega) hr1367 hs1371 hn1371)
  · exact absurd (hK1367.trans hR1371.symm) c_1374
set_option maxRecDepth 100000 in
set_option maxHeartbeats 1000000 in
theorem lg_wouldBeInTime_no1 {p : Program} {l : Launch} {e : Env} {s : State} {m : MethodId} {args : Array Value} {below : List Frame} {meth : Method} {c : Code} {D : va_G} {A : Nat → Prop} {Q : State → Prop} {cI cZ cJ : ClassId} {b L : Nat} {xs : Nat → Int32} (G : gk_G p s m args meth c RL 9 cL_law (some .boolean) wsL_law D (g_T cI cZ cJ) A) (hE : gl_F A s s.heap) (hl9 : l.stackTraces = false) (hX : va_X b L xs s s.heap) (hbl : b < s.heap.size) (hbA : ¬ A b) (hL : L ≤ 2048) {g h1 h2 o h : Nat} {q q2 q3 : Nat → Nat} {f : Nat → Int64} {u0 : gw_U} {v0 : gd_U} {M : gm_M} (wf : gm_wf M) (hrest : gm_rest M) (hh : M 9 0 < 1999000) (hr : gc_rep u0.1.1 u0.1.2 M) (hs : gr_st v0.1 v0.2.1 M) (hn : gr_now v0.2.2.1 M) {i cells slots : Nat} (hi : i + 4 ≤ L) (hc : cells ≤ 500000) (hsl : slots ≤ 7000000) (p0 : Int32) (p1 : Int32) (hb : ¬ gm_rg p0 1 61) (hx1 : xs (i + 1) = p0) (hx2 : xs (i + 2) = p1) (K : ∀ (f9 : Nat → Int64) (u9 : gw_U) (v9 : gd_U) (c9 s9 : Nat), c9 ≤ cells + 20 → s9 ≤ slots + 240 → gc_rep u9.1.1 u9.1.2 M → gr_st v9.1 v9.2.1 M → gr_now v9.2.2.1 M → gk_C p l e room_1 s m args below meth c 9 D A Q c9 s9 (gd_X cI h q3 v9 ++ (gw_O cJ o f9 ++ (gw_X cI cZ g h1 h2 q q2 u9))) [(4, .int (nI i)), (3, .ref o), (2, .ref h), (1, .ref g), (0, .ref b)] 1565 []) : gk_C p l e room_1 s m args below meth c 9 D A Q cells slots (gd_X cI h q3 v0 ++ (gw_O cJ o f ++ (gw_X cI cZ g h1 h2 q q2 u0))) [(4, .int (nI i)), (3, .ref o), (2, .ref h), (1, .ref g), (0, .ref b)] 1379 [] := by
  refine gk_aload_n G dL_law_1379 3 rfl ?_
  refine gk_aload_n G dL_law_1380 4 rfl ?_
  refine gk_iload G dL_law_1381 0 rfl ?_
  refine gk_iconst (v := nI 1) G dL_law_1383 (by decide) ?_
  refine gk_iadd (v := nI (i + 1)) G dL_law_1384 (nI_add i 1) ?_
  refine gk_sld (v := p0) G hX hbl hbA (i + 1) rfl (by omega) (by omega) hx1 dL_law_1385 ?_
  refine gk_aload_n G dL_law_1386 4 rfl ?_
  refine gk_iload G dL_law_1387 0 rfl ?_
  refine gk_iconst (v := nI 2) G dL_law_1389 (by decide) ?_
  refine gk_iadd (v := nI (i + 2)) G dL_law_1390 (nI_add i 2) ?_
  refine gk_sld (v := p1) G hX hbl hbA (i + 2) rfl (by omega) (by omega) hx2 dL_law_1391 ?_
  refine gk_aload_n G dL_law_1392 1 rfl ?_
  refine gk_callISW (wr := gd_X cI h q3 v0) G (cl_wouldBeInTime_no1 l D cI cZ cJ o f g h1 h2 q q2 u0 M hl9 p0 p1 wf hr hb) gL_law_L_wouldBeInTime rfl 4 (by decide +kernel) rfl rfl ⟨(Nat.le_of_ble_eq_true rfl), (Nat.le_of_ble_eq_true rfl)⟩ rfl gl_Fok hE [8, 9, 10, 11, 12, 13, 14, 15, 16, 17, 18, 19, 20, 21, 22, 23, 24, 25, 26, 27, 28, 29] rfl (by decide) [0, 1, 2, 3, 4, 5, 6, 7] rfl (by decide) (by decide) rfl (Nat.le_of_ble_eq_true rfl) dL_law_1393 ⟨(show cells + 1 ≤ 601024 by omega), (show slots + 6 ≤ 7293034 by omega)⟩ (fun r1393 uu1393 hp1393 => ?_)
  obtain ⟨f1393, u1393⟩ := uu1393
  have hK1393 : r1393 = nI 1 := hp1393.1
  have hr1393 : gc_rep u1393.1.1 u1393.1.2 M := hp1393.2
  show gk_C p l e room_1 s m args below meth c 9 D A Q (cells + 1) (slots + 6) (gd_X cI h q3 v0 ++ (gw_O cJ o f1393 ++ (gw_X cI cZ g h1 h2 q q2 u1393))) [(4, .int (nI i)), (3, .ref o), (2, .ref h), (1, .ref g), (0, .ref b)] 1396 [.int r1393]
  refine gk_istore (lv' := [(5, .int r1393), (4, .int (nI i)), (3, .ref o), (2, .ref h), (1, .ref g), (0, .ref b)]) G dL_law_1396 (by decide) rfl ?_
  refine gk_aload_n G dL_law_1398 3 rfl ?_
  refine gk_aload_n G dL_law_1399 5 rfl ?_
  refine gk_iload G dL_law_1400 1 rfl ?_
  refine gk_iconst (v := nI 1) G dL_law_1402 (by decide) ?_
  refine gk_iadd (v := nI (i + 1)) G dL_law_1403 (nI_add i 1) ?_
  refine gk_sld (v := p0) G hX hbl hbA (i + 1) rfl (by omega) (by omega) hx1 dL_law_1404 ?_
  refine gk_aload_n G dL_law_1405 5 rfl ?_
  refine gk_iload G dL_law_1406 1 rfl ?_
  refine gk_iconst (v := nI 2) G dL_law_1408 (by decide) ?_
  refine gk_iadd (v := nI (i + 2)) G dL_law_1409 (nI_add i 2) ?_
  refine gk_sld (v := p1) G hX hbl hbA (i + 2) rfl (by omega) (by omega) hx2 dL_law_1410 ?_
  refine gk_callIV (wr := gw_O cJ o f1393 ++ (gw_X cI cZ g h1 h2 q q2 u1393)) G (c2_wouldBeInTime_no1 l D cI cZ cJ h q3 v0.1 v0.2.1 v0.2.2.1 v0.2.2.2.1 v0.2.2.2.2 M p0 p1 wf hs hn hb) gL_law_X2_wouldBeInTime rfl 2 (by decide +kernel) rfl rfl ⟨(Nat.le_of_ble_eq_true rfl), (Nat.le_of_ble_eq_true rfl)⟩ rfl (q0 := 0) rfl (T := TX2) (N := 12) rfl gk_ok0 trivial [0, 1, 2, 3, 4, 5, 6, 7] rfl (by decide) [8, 9, 10, 11, 12, 13, 14, 15, 16, 17, 18, 19, 20, 21, 22, 23, 24, 25, 26, 27, 28, 29] rfl (by decide) (by decide) rfl (Nat.le_of_ble_eq_true rfl) dL_law_1411 ⟨(show (cells + 1) + 0 ≤ 601024 by omega), (show (slots + 6) + 0 ≤ 7293034 by omega)⟩ (fun r1411 v1411 hp1411 => ?_)
  have hR1411 : r1411 = nI 0 := hp1411.1
  have hs1411 : gr_st v1411.1 v1411.2.1 M := hp1411.2.1
  have hn1411 : gr_now v1411.2.2.1 M := hp1411.2.2.1
  have hF1411 : v1411.1 0 = nI 1 := hp1411.2.2.2
  refine gk_wsub (w' := (gd_X cI h q3 v1411 ++ (gw_O cJ o f1393 ++ (gw_X cI cZ g h1 h2 q q2 u1393)))) [22, 23, 24, 25, 26, 27, 28, 29, 0, 1, 2, 3, 4, 5, 6, 7, 8, 9, 10, 11, 12, 13, 14, 15, 16, 17, 18, 19, 20, 21] rfl (by decide) ?_
  show gk_C p l e room_1 s m args below meth c 9 D A Q ((cells + 1) + 0) ((slots + 6) + 0) (gd_X cI h q3 v1411 ++ (gw_O cJ o f1393 ++ (gw_X cI cZ g h1 h2 q q2 u1393))) [(5, .int r1393), (4, .int (nI i)), (3, .ref o), (2, .ref h), (1, .ref g), (0, .ref b)] 1414 [.int r1411]
  refine gk_istore (lv' := [(6, .int r1411), (5, .int r1393), (4, .int (nI i)), (3, .ref o), (2, .ref h), (1, .ref g), (0, .ref b)]) G dL_law_1414 (by decide) rfl ?_
  refine gk_aload_n G dL_law_1416 4 rfl ?_
  refine gk_callIV (wr := gw_O cJ o f1393 ++ (gw_X cI cZ g h1 h2 q q2 u1393)) G (c2_thrown l D cI cZ cJ h q3 v1411.1 v1411.2.1 v1411.2.2.1 v1411.2.2.2.1 v1411.2.2.2.2 M) gL_law_X2_thrown rfl 0 (by decide +kernel) rfl rfl ⟨(Nat.le_of_ble_eq_true rfl), (Nat.le_of_ble_eq_true rfl)⟩ rfl (q0 := 0) rfl (T := TX2) (N := 12) rfl gk_ok0 trivial [0, 1, 2, 3, 4, 5, 6, 7] rfl (by decide) [8, 9, 10, 11, 12, 13, 14, 15, 16, 17, 18, 19, 20, 21, 22, 23, 24, 25, 26, 27, 28, 29] rfl (by decide) (by decide) rfl (Nat.le_of_ble_eq_true rfl) dL_law_1417 ⟨(show ((cells + 1) + 0) + 0 ≤ 601024 by omega), (show ((slots + 6) + 0) + 0 ≤ 7293034 by omega)⟩ (fun r1417 u1417 hp1417 => ?_)
  have hT1417 : r1417 = nI 1 := (show r1417 = v1411.1 0 from hp1417).trans hF1411
  refine gk_wsub (w' := (gd_X cI h q3 v1411 ++ (gw_O cJ o f1393 ++ (gw_X cI cZ g h1 h2 q q2 u1393)))) [22, 23, 24, 25, 26, 27, 28, 29, 0, 1, 2, 3, 4, 5, 6, 7, 8, 9, 10, 11, 12, 13, 14, 15, 16, 17, 18, 19, 20, 21] rfl (by decide) ?_
  show gk_C p l e room_1 s m args below meth c 9 D A Q (((cells + 1) + 0) + 0) (((slots + 6) + 0) + 0) (gd_X cI h q3 v1411 ++ (gw_O cJ o f1393 ++ (gw_X cI cZ g h1 h2 q q2 u1393))) [(6, .int r1411), (5, .int r1393), (4, .int (nI i)), (3, .ref o), (2, .ref h), (1, .ref g), (0, .ref b)] 1420 [.int r1417]
  refine gk_iload G dL_law_1420 1 rfl ?_
  refine gk_icmp_eq (tgt := 1427) G dL_law_1422 (by decide) (fun c_1422 => ?_) (fun c_1422 => ?_)
  · refine gk_iload G dL_law_1427 1 rfl ?_
    refine gk_if_ne (tgt := 1451) G dL_law_1429 (by decide) (fun c_1429 => ?_) (fun c_1429 => ?_)
    · refine gk_goto (tgt := 1565) G dL_law_1451 (by decide) ?_
      exact gk_lsub [2, 3, 4, 5, 6] rfl (K f1393 u1393 v1411 _ _ (by omega) (by omega) hr1393 hs1411 hn1411)
    · exact absurd (hK1393.symm.trans c_1429) (by decide)
  · exact absurd (hT1417.trans hK1393.symm) c_1422
set_option maxRecDepth 100000 in
set_option maxHeartbeats 1000000 in
theorem lg_wouldBeInTime_no2 {p : Program} {l : Launch} {e : Env} {s : State} {m : MethodId} {args : Array Value} {below : List Frame} {meth : Method} {c : Code} {D : va_G} {A : Nat → Prop} {Q : State → Prop} {cI cZ cJ : ClassId} {b L : Nat} {xs : Nat → Int32} (G : gk_G p s m args meth c RL 9 cL_law (some .boolean) wsL_law D (g_T cI cZ cJ) A) (hE : gl_F A s s.heap) (hl9 : l.stackTraces = false) (hX : va_X b L xs s s.heap) (hbl : b < s.heap.size) (hbA : ¬ A b) (hL : L ≤ 2048) {g h1 h2 o h : Nat} {q q2 q3 : Nat → Nat} {f : Nat → Int64} {u0 : gw_U} {v0 : gd_U} {M : gm_M} (wf : gm_wf M) (hrest : gm_rest M) (hh : M 9 0 < 1999000) (hr : gc_rep u0.1.1 u0.1.2 M) (hs : gr_st v0.1 v0.2.1 M) (hn : gr_now v0.2.2.1 M) {i cells slots : Nat} (hi : i + 4 ≤ L) (hc : cells ≤ 500000) (hsl : slots ≤ 7000000) (vg : Nat) (p1 : Int32) (hg0 : 1 ≤ vg) (hg1 : vg < 61) (hb : ¬ gm_rg p1 1 201) (hx1 : xs (i + 1) = nI vg) (hx2 : xs (i + 2) = p1) (K : ∀ (f9 : Nat → Int64) (u9 : gw_U) (v9 : gd_U) (c9 s9 : Nat), c9 ≤ cells + 20 → s9 ≤ slots + 240 → gc_rep u9.1.1 u9.1.2 M → gr_st v9.1 v9.2.1 M → gr_now v9.2.2.1 M → gk_C p l e room_1 s m args below meth c 9 D A Q c9 s9 (gd_X cI h q3 v9 ++ (gw_O cJ o f9 ++ (gw_X cI cZ g h1 h2 q q2 u9))) [(4, .int (nI i)), (3, .ref o), (2, .ref h), (1, .ref g), (0, .ref b)] 1565 []) : gk_C p l e room_1 s m args below meth c 9 D A Q cells slots (gd_X cI h q3 v0 ++ (gw_O cJ o f ++ (gw_X cI cZ g h1 h2 q q2 u0))) [(4, .int (nI i)), (3, .ref o), (2, .ref h), (1, .ref g), (0, .ref b)] 1379 [] := by
  refine gk_aload_n G dL_law_1379 3 rfl ?_
  refine gk_aload_n G dL_law_1380 4 rfl ?_
  refine gk_iload G dL_law_1381 0 rfl ?_
  refine gk_iconst (v := nI 1) G dL_law_1383 (by decide) ?_
  refine gk_iadd (v := nI (i + 1)) G dL_law_1384 (nI_add i 1) ?_
  refine gk_sld (v := (nI vg)) G hX hbl hbA (i + 1) rfl (by omega) (by omega) hx1 dL_law_1385 ?_
  refine gk_aload_n G dL_law_1386 4 rfl ?_
  refine gk_iload G dL_law_1387 0 rfl ?_
  refine gk_iconst (v := nI 2) G dL_law_1389 (by decide) ?_
  refine gk_iadd (v := nI (i + 2)) G dL_law_1390 (nI_add i 2) ?_
  refine gk_sld (v := p1) G hX hbl hbA (i + 2) rfl (by omega) (by omega) hx2 dL_law_1391 ?_
  refine gk_aload_n G dL_law_1392 1 rfl ?_
  refine gk_callISW (wr := gd_X cI h q3 v0) G (cl_wouldBeInTime_no2 l D cI cZ cJ o f g h1 h2 q q2 u0 M hl9 vg p1 wf hr hg0 hg1 hb) gL_law_L_wouldBeInTime rfl 4 (by decide +kernel) rfl rfl ⟨(Nat.le_of_ble_eq_true rfl), (Nat.le_of_ble_eq_true rfl)⟩ rfl gl_Fok hE [8, 9, 10, 11, 12, 13, 14, 15, 16, 17, 18, 19, 20, 21, 22, 23, 24, 25, 26, 27, 28, 29] rfl (by decide) [0, 1, 2, 3, 4, 5, 6, 7] rfl (by decide) (by decide) rfl (Nat.le_of_ble_eq_true rfl) dL_law_1393 ⟨(show cells + 1 ≤ 601024 by omega), (show slots + 6 ≤ 7293034 by omega)⟩ (fun r1393 uu1393 hp1393 => ?_)
  obtain ⟨f1393, u1393⟩ := uu1393
  have hK1393 : r1393 = nI 1 := hp1393.1
  have hr1393 : gc_rep u1393.1.1 u1393.1.2 M := hp1393.2
  show gk_C p l e room_1 s m args below meth c 9 D A Q (cells + 1) (slots + 6) (gd_X cI h q3 v0 ++ (gw_O cJ o f1393 ++ (gw_X cI cZ g h1 h2 q q2 u1393))) [(4, .int (nI i)), (3, .ref o), (2, .ref h), (1, .ref g), (0, .ref b)] 1396 [.int r1393]
  refine gk_istore (lv' := [(5, .int r1393), (4, .int (nI i)), (3, .ref o), (2, .ref h), (1, .ref g), (0, .ref b)]) G dL_law_1396 (by decide) rfl ?_
  refine gk_aload_n G dL_law_1398 3 rfl ?_
  refine gk_aload_n G dL_law_1399 5 rfl ?_
  refine gk_iload G dL_law_1400 1 rfl ?_
  refine gk_iconst (v := nI 1) G dL_law_1402 (by decide) ?_
  refine gk_iadd (v := nI (i + 1)) G dL_law_1403 (nI_add i 1) ?_
  refine gk_sld (v := (nI vg)) G hX hbl hbA (i + 1) rfl (by omega) (by omega) hx1 dL_law_1404 ?_
  refine gk_aload_n G dL_law_1405 5 rfl ?_
  refine gk_iload G dL_law_1406 1 rfl ?_
  refine gk_iconst (v := nI 2) G dL_law_1408 (by decide) ?_
  refine gk_iadd (v := nI (i + 2)) G dL_law_1409 (nI_add i 2) ?_
  refine gk_sld (v := p1) G hX hbl hbA (i + 2) rfl (by omega) (by omega) hx2 dL_law_1410 ?_
  refine gk_callIV (wr := gw_O cJ o f1393 ++ (gw_X cI cZ g h1 h2 q q2 u1393)) G (c2_wouldBeInTime_no2 l D cI cZ cJ h q3 v0.1 v0.2.1 v0.2.2.1 v0.2.2.2.1 v0.2.2.2.2 M vg p1 wf hs hn (by omega) (by omega) hb) gL_law_X2_wouldBeInTime rfl 2 (by decide +kernel) rfl rfl ⟨(Nat.le_of_ble_eq_true rfl), (Nat.le_of_ble_eq_true rfl)⟩ rfl (q0 := 0) rfl (T := TX2) (N := 12) rfl gk_ok0 trivial [0, 1, 2, 3, 4, 5, 6, 7] rfl (by decide) [8, 9, 10, 11, 12, 13, 14, 15, 16, 17, 18, 19, 20, 21, 22, 23, 24, 25, 26, 27, 28, 29] rfl (by decide) (by decide) rfl (Nat.le_of_ble_eq_true rfl) dL_law_1411 ⟨(show (cells + 1) + 0 ≤ 601024 by omega), (show (slots + 6) + 0 ≤ 7293034 by omega)⟩ (fun r1411 v1411 hp1411 => ?_)
  have hR1411 : r1411 = nI 0 := hp1411.1
  have hs1411 : gr_st v1411.1 v1411.2.1 M := hp1411.2.1
  have hn1411 : gr_now v1411.2.2.1 M := hp1411.2.2.1
  have hF1411 : v1411.1 0 = nI 1 := hp1411.2.2.2
  refine gk_wsub (w' := (gd_X cI h q3 v1411 ++ (gw_O cJ o f1393 ++ (gw_X cI cZ g h1 h2 q q2 u1393)))) [22, 23, 24, 25, 26, 27, 28, 29, 0, 1, 2, 3, 4, 5, 6, 7, 8, 9, 10, 11, 12, 13, 14, 15, 16, 17, 18, 19, 20, 21] rfl (by decide) ?_
  show gk_C p l e room_1 s m args below meth c 9 D A Q ((cells + 1) + 0) ((slots + 6) + 0) (gd_X cI h q3 v1411 ++ (gw_O cJ o f1393 ++ (gw_X cI cZ g h1 h2 q q2 u1393))) [(5, .int r1393), (4, .int (nI i)), (3, .ref o), (2, .ref h), (1, .ref g), (0, .ref b)] 1414 [.int r1411]
  refine gk_istore (lv' := [(6, .int r1411), (5, .int r1393), (4, .int (nI i)), (3, .ref o), (2, .ref h), (1, .ref g), (0, .ref b)]) G dL_law_1414 (by decide) rfl ?_
  refine gk_aload_n G dL_law_1416 4 rfl ?_
  refine gk_callIV (wr := gw_O cJ o f1393 ++ (gw_X cI cZ g h1 h2 q q2 u1393)) G (c2_thrown l D cI cZ cJ h q3 v1411.1 v1411.2.1 v1411.2.2.1 v1411.2.2.2.1 v1411.2.2.2.2 M) gL_law_X2_thrown rfl 0 (by decide +kernel) rfl rfl ⟨(Nat.le_of_ble_eq_true rfl), (Nat.le_of_ble_eq_true rfl)⟩ rfl (q0 := 0) rfl (T := TX2) (N := 12) rfl gk_ok0 trivial [0, 1, 2, 3, 4, 5, 6, 7] rfl (by decide) [8, 9, 10, 11, 12, 13, 14, 15, 16, 17, 18, 19, 20, 21, 22, 23, 24, 25, 26, 27, 28, 29] rfl (by decide) (by decide) rfl (Nat.le_of_ble_eq_true rfl) dL_law_1417 ⟨(show ((cells + 1) + 0) + 0 ≤ 601024 by omega), (show ((slots + 6) + 0) + 0 ≤ 7293034 by omega)⟩ (fun r1417 u1417 hp1417 => ?_)
  have hT1417 : r1417 = nI 1 := (show r1417 = v1411.1 0 from hp1417).trans hF1411
  refine gk_wsub (w' := (gd_X cI h q3 v1411 ++ (gw_O cJ o f1393 ++ (gw_X cI cZ g h1 h2 q q2 u1393)))) [22, 23, 24, 25, 26, 27, 28, 29, 0, 1, 2, 3, 4, 5, 6, 7, 8, 9, 10, 11, 12, 13, 14, 15, 16, 17, 18, 19, 20, 21] rfl (by decide) ?_
  show gk_C p l e room_1 s m args below meth c 9 D A Q (((cells + 1) + 0) + 0) (((slots + 6) + 0) + 0) (gd_X cI h q3 v1411 ++ (gw_O cJ o f1393 ++ (gw_X cI cZ g h1 h2 q q2 u1393))) [(6, .int r1411), (5, .int r1393), (4, .int (nI i)), (3, .ref o), (2, .ref h), (1, .ref g), (0, .ref b)] 1420 [.int r1417]
  refine gk_iload G dL_law_1420 1 rfl ?_
  refine gk_icmp_eq (tgt := 1427) G dL_law_1422 (by decide) (fun c_1422 => ?_) (fun c_1422 => ?_)
  · refine gk_iload G dL_law_1427 1 rfl ?_
    refine gk_if_ne (tgt := 1451) G dL_law_1429 (by decide) (fun c_1429 => ?_) (fun c_1429 => ?_)
    · refine gk_goto (tgt := 1565) G dL_law_1451 (by decide) ?_
      exact gk_lsub [2, 3, 4, 5, 6] rfl (K f1393 u1393 v1411 _ _ (by omega) (by omega) hr1393 hs1411 hn1411)
    · exact absurd (hK1393.symm.trans c_1429) (by decide)
  · exact absurd (hT1417.trans hK1393.symm) c_1422
set_option maxRecDepth 100000 in
set_option maxHeartbeats 1000000 in
theorem lg_wouldBeInTime_full {p : Program} {l : Launch} {e : Env} {s : State} {m : MethodId} {args : Array Value} {below : List Frame} {meth : Method} {c : Code} {D : va_G} {A : Nat → Prop} {Q : State → Prop} {cI cZ cJ : ClassId} {b L : Nat} {xs : Nat → Int32} (G : gk_G p s m args meth c RL 9 cL_law (some .boolean) wsL_law D (g_T cI cZ cJ) A) (hE : gl_F A s s.heap) (hl9 : l.stackTraces = false) (hX : va_X b L xs s s.heap) (hbl : b < s.heap.size) (hbA : ¬ A b) (hL : L ≤ 2048) {g h1 h2 o h : Nat} {q q2 q3 : Nat → Nat} {f : Nat → Int64} {u0 : gw_U} {v0 : gd_U} {M : gm_M} (wf : gm_wf M) (hrest : gm_rest M) (hh : M 9 0 < 1999000) (hr : gc_rep u0.1.1 u0.1.2 M) (hs : gr_st v0.1 v0.2.1 M) (hn : gr_now v0.2.2.1 M) {i cells slots : Nat} (hi : i + 4 ≤ L) (hc : cells ≤ 500000) (hsl : slots ≤ 7000000) (vg : Nat) (vt : Nat) (hg0 : 1 ≤ vg) (hg1 : vg < 61) (ht0 : 1 ≤ vt) (ht1 : vt < 201) (h16 : M 11 0 = 16) (hx1 : xs (i + 1) = nI vg) (hx2 : xs (i + 2) = nI vt) (K : ∀ (f9 : Nat → Int64) (u9 : gw_U) (v9 : gd_U) (c9 s9 : Nat), c9 ≤ cells + 20 → s9 ≤ slots + 240 → gc_rep u9.1.1 u9.1.2 M → gr_st v9.1 v9.2.1 M → gr_now v9.2.2.1 M → gk_C p l e room_1 s m args below meth c 9 D A Q c9 s9 (gd_X cI h q3 v9 ++ (gw_O cJ o f9 ++ (gw_X cI cZ g h1 h2 q q2 u9))) [(4, .int (nI i)), (3, .ref o), (2, .ref h), (1, .ref g), (0, .ref b)] 1565 []) : gk_C p l e room_1 s m args below meth c 9 D A Q cells slots (gd_X cI h q3 v0 ++ (gw_O cJ o f ++ (gw_X cI cZ g h1 h2 q q2 u0))) [(4, .int (nI i)), (3, .ref o), (2, .ref h), (1, .ref g), (0, .ref b)] 1379 [] := by
  refine gk_aload_n G dL_law_1379 3 rfl ?_
  refine gk_aload_n G dL_law_1380 4 rfl ?_
  refine gk_iload G dL_law_1381 0 rfl ?_
  refine gk_iconst (v := nI 1) G dL_law_1383 (by decide) ?_
  refine gk_iadd (v := nI (i + 1)) G dL_law_1384 (nI_add i 1) ?_
  refine gk_sld (v := (nI vg)) G hX hbl hbA (i + 1) rfl (by omega) (by omega) hx1 dL_law_1385 ?_
  refine gk_aload_n G dL_law_1386 4 rfl ?_
  refine gk_iload G dL_law_1387 0 rfl ?_
  refine gk_iconst (v := nI 2) G dL_law_1389 (by decide) ?_
  refine gk_iadd (v := nI (i + 2)) G dL_law_1390 (nI_add i 2) ?_
  refine gk_sld (v := (nI vt)) G hX hbl hbA (i + 2) rfl (by omega) (by omega) hx2 dL_law_1391 ?_
  refine gk_aload_n G dL_law_1392 1 rfl ?_
  refine gk_callISW (wr := gd_X cI h q3 v0) G (cl_wouldBeInTime_full l D cI cZ cJ o f g h1 h2 q q2 u0 M vg vt wf hr hg0 hg1 ht0 ht1 h16) gL_law_L_wouldBeInTime rfl 4 (by decide +kernel) rfl rfl ⟨(Nat.le_of_ble_eq_true rfl), (Nat.le_of_ble_eq_true rfl)⟩ rfl gl_Fok hE [8, 9, 10, 11, 12, 13, 14, 15, 16, 17, 18, 19, 20, 21, 22, 23, 24, 25, 26, 27, 28, 29] rfl (by decide) [0, 1, 2, 3, 4, 5, 6, 7] rfl (by decide) (by decide) rfl (Nat.le_of_ble_eq_true rfl) dL_law_1393 ⟨(show cells + 0 ≤ 601024 by omega), (show slots + 0 ≤ 7293034 by omega)⟩ (fun r1393 uu1393 hp1393 => ?_)
  obtain ⟨f1393, u1393⟩ := uu1393
  have hK1393 : r1393 = nI 0 := hp1393.1
  have hv1393 : f1393 0 = (nI 0).toInt64 := hp1393.2.1
  have hr1393 : gc_rep u1393.1.1 u1393.1.2 M := hp1393.2.2
  show gk_C p l e room_1 s m args below meth c 9 D A Q (cells + 0) (slots + 0) (gd_X cI h q3 v0 ++ (gw_O cJ o f1393 ++ (gw_X cI cZ g h1 h2 q q2 u1393))) [(4, .int (nI i)), (3, .ref o), (2, .ref h), (1, .ref g), (0, .ref b)] 1396 [.int r1393]
  refine gk_istore (lv' := [(5, .int r1393), (4, .int (nI i)), (3, .ref o), (2, .ref h), (1, .ref g), (0, .ref b)]) G dL_law_1396 (by decide) rfl ?_
  refine gk_aload_n G dL_law_1398 3 rfl ?_
  refine gk_aload_n G dL_law_1399 5 rfl ?_
  refine gk_iload G dL_law_1400 1 rfl ?_
  refine gk_iconst (v := nI 1) G dL_law_1402 (by decide) ?_
  refine gk_iadd (v := nI (i + 1)) G dL_law_1403 (nI_add i 1) ?_
  refine gk_sld (v := (nI vg)) G hX hbl hbA (i + 1) rfl (by omega) (by omega) hx1 dL_law_1404 ?_
  refine gk_aload_n G dL_law_1405 5 rfl ?_
  refine gk_iload G dL_law_1406 1 rfl ?_
  refine gk_iconst (v := nI 2) G dL_law_1408 (by decide) ?_
  refine gk_iadd (v := nI (i + 2)) G dL_law_1409 (nI_add i 2) ?_
  refine gk_sld (v := (nI vt)) G hX hbl hbA (i + 2) rfl (by omega) (by omega) hx2 dL_law_1410 ?_
  refine gk_callIV (wr := gw_O cJ o f1393 ++ (gw_X cI cZ g h1 h2 q q2 u1393)) G (c2_wouldBeInTime_full l D cI cZ cJ h q3 v0.1 v0.2.1 v0.2.2.1 v0.2.2.2.1 v0.2.2.2.2 M vg vt wf hs hn (by omega) (by omega) (by omega) (by omega) (by omega)) gL_law_X2_wouldBeInTime rfl 2 (by decide +kernel) rfl rfl ⟨(Nat.le_of_ble_eq_true rfl), (Nat.le_of_ble_eq_true rfl)⟩ rfl (q0 := 0) rfl (T := TX2) (N := 12) rfl gk_ok0 trivial [0, 1, 2, 3, 4, 5, 6, 7] rfl (by decide) [8, 9, 10, 11, 12, 13, 14, 15, 16, 17, 18, 19, 20, 21, 22, 23, 24, 25, 26, 27, 28, 29] rfl (by decide) (by decide) rfl (Nat.le_of_ble_eq_true rfl) dL_law_1411 ⟨(show (cells + 0) + 0 ≤ 601024 by omega), (show (slots + 0) + 0 ≤ 7293034 by omega)⟩ (fun r1411 v1411 hp1411 => ?_)
  have hR1411 : r1411 = nI 0 := hp1411.1
  have hs1411 : gr_st v1411.1 v1411.2.1 M := hp1411.2.1
  have hn1411 : gr_now v1411.2.2.1 M := hp1411.2.2.1
  have hF1411 : v1411.1 0 = nI 0 := hp1411.2.2.2
  refine gk_wsub (w' := (gd_X cI h q3 v1411 ++ (gw_O cJ o f1393 ++ (gw_X cI cZ g h1 h2 q q2 u1393)))) [22, 23, 24, 25, 26, 27, 28, 29, 0, 1, 2, 3, 4, 5, 6, 7, 8, 9, 10, 11, 12, 13, 14, 15, 16, 17, 18, 19, 20, 21] rfl (by decide) ?_
  show gk_C p l e room_1 s m args below meth c 9 D A Q ((cells + 0) + 0) ((slots + 0) + 0) (gd_X cI h q3 v1411 ++ (gw_O cJ o f1393 ++ (gw_X cI cZ g h1 h2 q q2 u1393))) [(5, .int r1393), (4, .int (nI i)), (3, .ref o), (2, .ref h), (1, .ref g), (0, .ref b)] 1414 [.int r1411]
  refine gk_istore (lv' := [(6, .int r1411), (5, .int r1393), (4, .int (nI i)), (3, .ref o), (2, .ref h), (1, .ref g), (0, .ref b)]) G dL_law_1414 (by decide) rfl ?_
  refine gk_aload_n G dL_law_1416 4 rfl ?_
  refine gk_callIV (wr := gw_O cJ o f1393 ++ (gw_X cI cZ g h1 h2 q q2 u1393)) G (c2_thrown l D cI cZ cJ h q3 v1411.1 v1411.2.1 v1411.2.2.1 v1411.2.2.2.1 v1411.2.2.2.2 M) gL_law_X2_thrown rfl 0 (by decide +kernel) rfl rfl ⟨(Nat.le_of_ble_eq_true rfl), (Nat.le_of_ble_eq_true rfl)⟩ rfl (q0 := 0) rfl (T := TX2) (N := 12) rfl gk_ok0 trivial [0, 1, 2, 3, 4, 5, 6, 7] rfl (by decide) [8, 9, 10, 11, 12, 13, 14, 15, 16, 17, 18, 19, 20, 21, 22, 23, 24, 25, 26, 27, 28, 29] rfl (by decide) (by decide) rfl (Nat.le_of_ble_eq_true rfl) dL_law_1417 ⟨(show ((cells + 0) + 0) + 0 ≤ 601024 by omega), (show ((slots + 0) + 0) + 0 ≤ 7293034 by omega)⟩ (fun r1417 u1417 hp1417 => ?_)
  have hT1417 : r1417 = nI 0 := (show r1417 = v1411.1 0 from hp1417).trans hF1411
  refine gk_wsub (w' := (gd_X cI h q3 v1411 ++ (gw_O cJ o f1393 ++ (gw_X cI cZ g h1 h2 q q2 u1393)))) [22, 23, 24, 25, 26, 27, 28, 29, 0, 1, 2, 3, 4, 5, 6, 7, 8, 9, 10, 11, 12, 13, 14, 15, 16, 17, 18, 19, 20, 21] rfl (by decide) ?_
  show gk_C p l e room_1 s m args below meth c 9 D A Q (((cells + 0) + 0) + 0) (((slots + 0) + 0) + 0) (gd_X cI h q3 v1411 ++ (gw_O cJ o f1393 ++ (gw_X cI cZ g h1 h2 q q2 u1393))) [(6, .int r1411), (5, .int r1393), (4, .int (nI i)), (3, .ref o), (2, .ref h), (1, .ref g), (0, .ref b)] 1420 [.int r1417]
  refine gk_iload G dL_law_1420 1 rfl ?_
  refine gk_icmp_eq (tgt := 1427) G dL_law_1422 (by decide) (fun c_1422 => ?_) (fun c_1422 => ?_)
  · refine gk_iload G dL_law_1427 1 rfl ?_
    refine gk_if_ne (tgt := 1451) G dL_law_1429 (by decide) (fun c_1429 => ?_) (fun c_1429 => ?_)
    · exact absurd (hK1393.trans nI_0) c_1429
    · refine gk_aload_n G dL_law_1432 3 rfl ?_
      refine gk_iconst (v := nI 0) G dL_law_1433 (by decide) ?_
      refine gk_lald (v := f1393 0) G (q0 := 8) (t0 := 2) rfl rfl 0 rfl (by decide) (by decide) rfl dL_law_1434 ?_
      refine gk_iload G dL_law_1435 0 rfl ?_
      refine gk_if_eq (tgt := 1444) G dL_law_1437 (by decide) (fun c_1437 => ?_) (fun c_1437 => ?_)
      · refine gk_lconst (v := 0) G dL_law_1444 rfl ?_
        refine gk_lcmp G dL_law_1445 ?_
        refine gk_if_eq (tgt := 1451) G dL_law_1446 (by decide) (fun c_1446 => ?_) (fun c_1446 => ?_)
        · refine gk_goto (tgt := 1565) G dL_law_1451 (by decide) ?_
          exact gk_lsub [2, 3, 4, 5, 6] rfl (K f1393 u1393 v1411 _ _ (by omega) (by omega) hr1393 hs1411 hn1411)
        · exact absurd (gl_cmp (hv1393.trans (by rw [← hR1411, c_1437]; first | done | rfl))) c_1446
      · exact absurd (hR1411.trans nI_0) c_1437
  · exact absurd (hT1417.trans hK1393.symm) c_1422
set_option maxRecDepth 100000 in
set_option maxHeartbeats 1000000 in
theorem lg_wouldBeInTime_ok {p : Program} {l : Launch} {e : Env} {s : State} {m : MethodId} {args : Array Value} {below : List Frame} {meth : Method} {c : Code} {D : va_G} {A : Nat → Prop} {Q : State → Prop} {cI cZ cJ : ClassId} {b L : Nat} {xs : Nat → Int32} (G : gk_G p s m args meth c RL 9 cL_law (some .boolean) wsL_law D (g_T cI cZ cJ) A) (hE : gl_F A s s.heap) (hl9 : l.stackTraces = false) (hX : va_X b L xs s s.heap) (hbl : b < s.heap.size) (hbA : ¬ A b) (hL : L ≤ 2048) {g h1 h2 o h : Nat} {q q2 q3 : Nat → Nat} {f : Nat → Int64} {u0 : gw_U} {v0 : gd_U} {M : gm_M} (wf : gm_wf M) (hrest : gm_rest M) (hh : M 9 0 < 1999000) (hr : gc_rep u0.1.1 u0.1.2 M) (hs : gr_st v0.1 v0.2.1 M) (hn : gr_now v0.2.2.1 M) {i cells slots : Nat} (hi : i + 4 ≤ L) (hc : cells ≤ 500000) (hsl : slots ≤ 7000000) (vg : Nat) (vt : Nat) (hg0 : 1 ≤ vg) (hg1 : vg < 61) (ht0 : 1 ≤ vt) (ht1 : vt < 201) (h16 : M 11 0 < 16) (hx1 : xs (i + 1) = nI vg) (hx2 : xs (i + 2) = nI vt) (K : ∀ (f9 : Nat → Int64) (u9 : gw_U) (v9 : gd_U) (c9 s9 : Nat), c9 ≤ cells + 20 → s9 ≤ slots + 240 → gc_rep u9.1.1 u9.1.2 M → gr_st v9.1 v9.2.1 M → gr_now v9.2.2.1 M → gk_C p l e room_1 s m args below meth c 9 D A Q c9 s9 (gd_X cI h q3 v9 ++ (gw_O cJ o f9 ++ (gw_X cI cZ g h1 h2 q q2 u9))) [(4, .int (nI i)), (3, .ref o), (2, .ref h), (1, .ref g), (0, .ref b)] 1565 []) : gk_C p l e room_1 s m args below meth c 9 D A Q cells slots (gd_X cI h q3 v0 ++ (gw_O cJ o f ++ (gw_X cI cZ g h1 h2 q q2 u0))) [(4, .int (nI i)), (3, .ref o), (2, .ref h), (1, .ref g), (0, .ref b)] 1379 [] := by
  refine gk_aload_n G dL_law_1379 3 rfl ?_
  refine gk_aload_n G dL_law_1380 4 rfl ?_
  refine gk_iload G dL_law_1381 0 rfl ?_
  refine gk_iconst (v := nI 1) G dL_law_1383 (by decide) ?_
  refine gk_iadd (v := nI (i + 1)) G dL_law_1384 (nI_add i 1) ?_
  refine gk_sld (v := (nI vg)) G hX hbl hbA (i + 1) rfl (by omega) (by omega) hx1 dL_law_1385 ?_
  refine gk_aload_n G dL_law_1386 4 rfl ?_
  refine gk_iload G dL_law_1387 0 rfl ?_
  refine gk_iconst (v := nI 2) G dL_law_1389 (by decide) ?_
  refine gk_iadd (v := nI (i + 2)) G dL_law_1390 (nI_add i 2) ?_
  refine gk_sld (v := (nI vt)) G hX hbl hbA (i + 2) rfl (by omega) (by omega) hx2 dL_law_1391 ?_
  refine gk_aload_n G dL_law_1392 1 rfl ?_
  refine gk_callISW (wr := gd_X cI h q3 v0) G (cl_wouldBeInTime_ok l D cI cZ cJ o f g h1 h2 q q2 u0 M vg vt wf hr hrest (by omega) hg0 hg1 ht0 ht1 h16) gL_law_L_wouldBeInTime rfl 4 (by decide +kernel) rfl rfl ⟨(Nat.le_of_ble_eq_true rfl), (Nat.le_of_ble_eq_true rfl)⟩ rfl gl_Fok hE [8, 9, 10, 11, 12, 13, 14, 15, 16, 17, 18, 19, 20, 21, 22, 23, 24, 25, 26, 27, 28, 29] rfl (by decide) [0, 1, 2, 3, 4, 5, 6, 7] rfl (by decide) (by decide) rfl (Nat.le_of_ble_eq_true rfl) dL_law_1393 ⟨(show cells + 0 ≤ 601024 by omega), (show slots + 0 ≤ 7293034 by omega)⟩ (fun r1393 uu1393 hp1393 => ?_)
  obtain ⟨f1393, u1393⟩ := uu1393
  have hK1393 : r1393 = nI 0 := hp1393.1
  have hv1393 : f1393 0 = (gm_b (gm_wbt M vg vt)).toInt64 := hp1393.2.1
  have hr1393 : gc_rep u1393.1.1 u1393.1.2 M := hp1393.2.2
  show gk_C p l e room_1 s m args below meth c 9 D A Q (cells + 0) (slots + 0) (gd_X cI h q3 v0 ++ (gw_O cJ o f1393 ++ (gw_X cI cZ g h1 h2 q q2 u1393))) [(4, .int (nI i)), (3, .ref o), (2, .ref h), (1, .ref g), (0, .ref b)] 1396 [.int r1393]
  refine gk_istore (lv' := [(5, .int r1393), (4, .int (nI i)), (3, .ref o), (2, .ref h), (1, .ref g), (0, .ref b)]) G dL_law_1396 (by decide) rfl ?_
  refine gk_aload_n G dL_law_1398 3 rfl ?_
  refine gk_aload_n G dL_law_1399 5 rfl ?_
  refine gk_iload G dL_law_1400 1 rfl ?_
  refine gk_iconst (v := nI 1) G dL_law_1402 (by decide) ?_
  refine gk_iadd (v := nI (i + 1)) G dL_law_1403 (nI_add i 1) ?_
  refine gk_sld (v := (nI vg)) G hX hbl hbA (i + 1) rfl (by omega) (by omega) hx1 dL_law_1404 ?_
  refine gk_aload_n G dL_law_1405 5 rfl ?_
  refine gk_iload G dL_law_1406 1 rfl ?_
  refine gk_iconst (v := nI 2) G dL_law_1408 (by decide) ?_
  refine gk_iadd (v := nI (i + 2)) G dL_law_1409 (nI_add i 2) ?_
  refine gk_sld (v := (nI vt)) G hX hbl hbA (i + 2) rfl (by omega) (by omega) hx2 dL_law_1410 ?_
  refine gk_callIV (wr := gw_O cJ o f1393 ++ (gw_X cI cZ g h1 h2 q q2 u1393)) G (c2_wouldBeInTime_ok l D cI cZ cJ h q3 v0.1 v0.2.1 v0.2.2.1 v0.2.2.2.1 v0.2.2.2.2 M vg vt wf hs hn hrest (by omega) (by omega) (by omega) (by omega) (by omega) (by omega)) gL_law_X2_wouldBeInTime rfl 2 (by decide +kernel) rfl rfl ⟨(Nat.le_of_ble_eq_true rfl), (Nat.le_of_ble_eq_true rfl)⟩ rfl (q0 := 0) rfl (T := TX2) (N := 12) rfl gk_ok0 trivial [0, 1, 2, 3, 4, 5, 6, 7] rfl (by decide) [8, 9, 10, 11, 12, 13, 14, 15, 16, 17, 18, 19, 20, 21, 22, 23, 24, 25, 26, 27, 28, 29] rfl (by decide) (by decide) rfl (Nat.le_of_ble_eq_true rfl) dL_law_1411 ⟨(show (cells + 0) + 0 ≤ 601024 by omega), (show (slots + 0) + 0 ≤ 7293034 by omega)⟩ (fun r1411 v1411 hp1411 => ?_)
  have hR1411 : r1411 = gm_b (gm_wbt M vg vt) := hp1411.1
  have hs1411 : gr_st v1411.1 v1411.2.1 M := hp1411.2.1
  have hn1411 : gr_now v1411.2.2.1 M := hp1411.2.2.1
  have hF1411 : v1411.1 0 = nI 0 := hp1411.2.2.2
  refine gk_wsub (w' := (gd_X cI h q3 v1411 ++ (gw_O cJ o f1393 ++ (gw_X cI cZ g h1 h2 q q2 u1393)))) [22, 23, 24, 25, 26, 27, 28, 29, 0, 1, 2, 3, 4, 5, 6, 7, 8, 9, 10, 11, 12, 13, 14, 15, 16, 17, 18, 19, 20, 21] rfl (by decide) ?_
  show gk_C p l e room_1 s m args below meth c 9 D A Q ((cells + 0) + 0) ((slots + 0) + 0) (gd_X cI h q3 v1411 ++ (gw_O cJ o f1393 ++ (gw_X cI cZ g h1 h2 q q2 u1393))) [(5, .int r1393), (4, .int (nI i)), (3, .ref o), (2, .ref h), (1, .ref g), (0, .ref b)] 1414 [.int r1411]
  refine gk_istore (lv' := [(6, .int r1411), (5, .int r1393), (4, .int (nI i)), (3, .ref o), (2, .ref h), (1, .ref g), (0, .ref b)]) G dL_law_1414 (by decide) rfl ?_
  refine gk_aload_n G dL_law_1416 4 rfl ?_
  refine gk_callIV (wr := gw_O cJ o f1393 ++ (gw_X cI cZ g h1 h2 q q2 u1393)) G (c2_thrown l D cI cZ cJ h q3 v1411.1 v1411.2.1 v1411.2.2.1 v1411.2.2.2.1 v1411.2.2.2.2 M) gL_law_X2_thrown rfl 0 (by decide +kernel) rfl rfl ⟨(Nat.le_of_ble_eq_true rfl), (Nat.le_of_ble_eq_true rfl)⟩ rfl (q0 := 0) rfl (T := TX2) (N := 12) rfl gk_ok0 trivial [0, 1, 2, 3, 4, 5, 6, 7] rfl (by decide) [8, 9, 10, 11, 12, 13, 14, 15, 16, 17, 18, 19, 20, 21, 22, 23, 24, 25, 26, 27, 28, 29] rfl (by decide) (by decide) rfl (Nat.le_of_ble_eq_true rfl) dL_law_1417 ⟨(show ((cells + 0) + 0) + 0 ≤ 601024 by omega), (show ((slots + 0) + 0) + 0 ≤ 7293034 by omega)⟩ (fun r1417 u1417 hp1417 => ?_)
  have hT1417 : r1417 = nI 0 := (show r1417 = v1411.1 0 from hp1417).trans hF1411
  refine gk_wsub (w' := (gd_X cI h q3 v1411 ++ (gw_O cJ o f1393 ++ (gw_X cI cZ g h1 h2 q q2 u1393)))) [22, 23, 24, 25, 26, 27, 28, 29, 0, 1, 2, 3, 4, 5, 6, 7, 8, 9, 10, 11, 12, 13, 14, 15, 16, 17, 18, 19, 20, 21] rfl (by decide) ?_
  show gk_C p l e room_1 s m args below meth c 9 D A Q (((cells + 0) + 0) + 0) (((slots + 0) + 0) + 0) (gd_X cI h q3 v1411 ++ (gw_O cJ o f1393 ++ (gw_X cI cZ g h1 h2 q q2 u1393))) [(6, .int r1411), (5, .int r1393), (4, .int (nI i)), (3, .ref o), (2, .ref h), (1, .ref g), (0, .ref b)] 1420 [.int r1417]
  refine gk_iload G dL_law_1420 1 rfl ?_
  refine gk_icmp_eq (tgt := 1427) G dL_law_1422 (by decide) (fun c_1422 => ?_) (fun c_1422 => ?_)
  · refine gk_iload G dL_law_1427 1 rfl ?_
    refine gk_if_ne (tgt := 1451) G dL_law_1429 (by decide) (fun c_1429 => ?_) (fun c_1429 => ?_)
    · exact absurd (hK1393.trans nI_0) c_1429
    · refine gk_aload_n G dL_law_1432 3 rfl ?_
      refine gk_iconst (v := nI 0) G dL_law_1433 (by decide) ?_
      refine gk_lald (v := f1393 0) G (q0 := 8) (t0 := 2) rfl rfl 0 rfl (by decide) (by decide) rfl dL_law_1434 ?_
      refine gk_iload G dL_law_1435 0 rfl ?_
      refine gk_if_eq (tgt := 1444) G dL_law_1437 (by decide) (fun c_1437 => ?_) (fun c_1437 => ?_)
      · refine gk_lconst (v := 0) G dL_law_1444 rfl ?_
        refine gk_lcmp G dL_law_1445 ?_
        refine gk_if_eq (tgt := 1451) G dL_law_1446 (by decide) (fun c_1446 => ?_) (fun c_1446 => ?_)
        · refine gk_goto (tgt := 1565) G dL_law_1451 (by decide) ?_
          exact gk_lsub [2, 3, 4, 5, 6] rfl (K f1393 u1393 v1411 _ _ (by omega) (by omega) hr1393 hs1411 hn1411)
        · exact absurd (gl_cmp (hv1393.trans (by rw [← hR1411, c_1437]; first | done | rfl))) c_1446
      · refine gk_lconst (v := 1) G dL_law_1440 rfl ?_
        refine gk_goto (tgt := 1445) G dL_law_1441 (by decide) ?_
        refine gk_lcmp G dL_law_1445 ?_
        refine gk_if_eq (tgt := 1451) G dL_law_1446 (by decide) (fun c_1446 => ?_) (fun c_1446 => ?_)
        · refine gk_goto (tgt := 1565) G dL_law_1451 (by decide) ?_
          exact gk_lsub [2, 3, 4, 5, 6] rfl (K f1393 u1393 v1411 _ _ (by omega) (by omega) hr1393 hs1411 hn1411)
        · exact absurd (gl_cmp (hv1393.trans (gw_b1 (by rw [← hR1411]; exact c_1437)).symm)) c_1446
  · exact absurd (hT1417.trans hK1393.symm) c_1422
set_option maxRecDepth 100000 in
set_option maxHeartbeats 1000000 in
theorem lg_groundIn_no {p : Program} {l : Launch} {e : Env} {s : State} {m : MethodId} {args : Array Value} {below : List Frame} {meth : Method} {c : Code} {D : va_G} {A : Nat → Prop} {Q : State → Prop} {cI cZ cJ : ClassId} {b L : Nat} {xs : Nat → Int32} (G : gk_G p s m args meth c RL 9 cL_law (some .boolean) wsL_law D (g_T cI cZ cJ) A) (hE : gl_F A s s.heap) (hl9 : l.stackTraces = false) (hX : va_X b L xs s s.heap) (hbl : b < s.heap.size) (hbA : ¬ A b) (hL : L ≤ 2048) {g h1 h2 o h : Nat} {q q2 q3 : Nat → Nat} {f : Nat → Int64} {u0 : gw_U} {v0 : gd_U} {M : gm_M} (wf : gm_wf M) (hrest : gm_rest M) (hh : M 9 0 < 1999000) (hr : gc_rep u0.1.1 u0.1.2 M) (hs : gr_st v0.1 v0.2.1 M) (hn : gr_now v0.2.2.1 M) {i cells slots : Nat} (hi : i + 4 ≤ L) (hc : cells ≤ 500000) (hsl : slots ≤ 7000000) (p0 : Int32) (hb : ¬ gm_rg p0 1 61) (hx1 : xs (i + 1) = p0) (K : ∀ (f9 : Nat → Int64) (u9 : gw_U) (v9 : gd_U) (c9 s9 : Nat), c9 ≤ cells + 20 → s9 ≤ slots + 240 → gc_rep u9.1.1 u9.1.2 M → gr_st v9.1 v9.2.1 M → gr_now v9.2.2.1 M → gk_C p l e room_1 s m args below meth c 9 D A Q c9 s9 (gd_X cI h q3 v9 ++ (gw_O cJ o f9 ++ (gw_X cI cZ g h1 h2 q q2 u9))) [(4, .int (nI i)), (3, .ref o), (2, .ref h), (1, .ref g), (0, .ref b)] 1565 []) : gk_C p l e room_1 s m args below meth c 9 D A Q cells slots (gd_X cI h q3 v0 ++ (gw_O cJ o f ++ (gw_X cI cZ g h1 h2 q q2 u0))) [(4, .int (nI i)), (3, .ref o), (2, .ref h), (1, .ref g), (0, .ref b)] 1454 [] := by
  refine gk_aload_n G dL_law_1454 3 rfl ?_
  refine gk_aload_n G dL_law_1455 4 rfl ?_
  refine gk_iload G dL_law_1456 0 rfl ?_
  refine gk_iconst (v := nI 1) G dL_law_1458 (by decide) ?_
  refine gk_iadd (v := nI (i + 1)) G dL_law_1459 (nI_add i 1) ?_
  refine gk_sld (v := p0) G hX hbl hbA (i + 1) rfl (by omega) (by omega) hx1 dL_law_1460 ?_
  refine gk_aload_n G dL_law_1461 1 rfl ?_
  refine gk_callISW (wr := gd_X cI h q3 v0) G (cl_groundIn_no l D cI cZ cJ o f g h1 h2 q q2 u0 M hl9 p0 wf hr hb) gL_law_L_groundIn rfl 3 (by decide +kernel) rfl rfl ⟨(Nat.le_of_ble_eq_true rfl), (Nat.le_of_ble_eq_true rfl)⟩ rfl gl_Fok hE [8, 9, 10, 11, 12, 13, 14, 15, 16, 17, 18, 19, 20, 21, 22, 23, 24, 25, 26, 27, 28, 29] rfl (by decide) [0, 1, 2, 3, 4, 5, 6, 7] rfl (by decide) (by decide) rfl (Nat.le_of_ble_eq_true rfl) dL_law_1462 ⟨(show cells + 1 ≤ 601024 by omega), (show slots + 6 ≤ 7293034 by omega)⟩ (fun r1462 uu1462 hp1462 => ?_)
  obtain ⟨f1462, u1462⟩ := uu1462
  have hK1462 : r1462 = nI 1 := hp1462.1
  have hr1462 : gc_rep u1462.1.1 u1462.1.2 M := hp1462.2
  show gk_C p l e room_1 s m args below meth c 9 D A Q (cells + 1) (slots + 6) (gd_X cI h q3 v0 ++ (gw_O cJ o f1462 ++ (gw_X cI cZ g h1 h2 q q2 u1462))) [(4, .int (nI i)), (3, .ref o), (2, .ref h), (1, .ref g), (0, .ref b)] 1465 [.int r1462]
  refine gk_istore (lv' := [(5, .int r1462), (4, .int (nI i)), (3, .ref o), (2, .ref h), (1, .ref g), (0, .ref b)]) G dL_law_1465 (by decide) rfl ?_
  refine gk_aload_n G dL_law_1467 3 rfl ?_
  refine gk_aload_n G dL_law_1468 5 rfl ?_
  refine gk_iload G dL_law_1469 1 rfl ?_
  refine gk_iconst (v := nI 1) G dL_law_1471 (by decide) ?_
  refine gk_iadd (v := nI (i + 1)) G dL_law_1472 (nI_add i 1) ?_
  refine gk_sld (v := p0) G hX hbl hbA (i + 1) rfl (by omega) (by omega) hx1 dL_law_1473 ?_
  refine gk_callIV (wr := gw_O cJ o f1462 ++ (gw_X cI cZ g h1 h2 q q2 u1462)) G (c2_groundIn_no l D cI cZ cJ h q3 v0.1 v0.2.1 v0.2.2.1 v0.2.2.2.1 v0.2.2.2.2 M p0 wf hs hn hb) gL_law_X2_groundIn rfl 1 (by decide +kernel) rfl rfl ⟨(Nat.le_of_ble_eq_true rfl), (Nat.le_of_ble_eq_true rfl)⟩ rfl (q0 := 0) rfl (T := TX2) (N := 12) rfl gk_ok0 trivial [0, 1, 2, 3, 4, 5, 6, 7] rfl (by decide) [8, 9, 10, 11, 12, 13, 14, 15, 16, 17, 18, 19, 20, 21, 22, 23, 24, 25, 26, 27, 28, 29] rfl (by decide) (by decide) rfl (Nat.le_of_ble_eq_true rfl) dL_law_1474 ⟨(show (cells + 1) + 0 ≤ 601024 by omega), (show (slots + 6) + 0 ≤ 7293034 by omega)⟩ (fun r1474 v1474 hp1474 => ?_)
  have hR1474 : r1474 = nI 0 := hp1474.1
  have hs1474 : gr_st v1474.1 v1474.2.1 M := hp1474.2.1
  have hn1474 : gr_now v1474.2.2.1 M := hp1474.2.2.1
  have hF1474 : v1474.1 0 = nI 1 := hp1474.2.2.2
  refine gk_wsub (w' := (gd_X cI h q3 v1474 ++ (gw_O cJ o f1462 ++ (gw_X cI cZ g h1 h2 q q2 u1462)))) [22, 23, 24, 25, 26, 27, 28, 29, 0, 1, 2, 3, 4, 5, 6, 7, 8, 9, 10, 11, 12, 13, 14, 15, 16, 17, 18, 19, 20, 21] rfl (by decide) ?_
  show gk_C p l e room_1 s m args below meth c 9 D A Q ((cells + 1) + 0) ((slots + 6) + 0) (gd_X cI h q3 v1474 ++ (gw_O cJ o f1462 ++ (gw_X cI cZ g h1 h2 q q2 u1462))) [(5, .int r1462), (4, .int (nI i)), (3, .ref o), (2, .ref h), (1, .ref g), (0, .ref b)] 1477 [.int r1474]
  refine gk_istore (lv' := [(6, .int r1474), (5, .int r1462), (4, .int (nI i)), (3, .ref o), (2, .ref h), (1, .ref g), (0, .ref b)]) G dL_law_1477 (by decide) rfl ?_
  refine gk_aload_n G dL_law_1479 4 rfl ?_
  refine gk_callIV (wr := gw_O cJ o f1462 ++ (gw_X cI cZ g h1 h2 q q2 u1462)) G (c2_thrown l D cI cZ cJ h q3 v1474.1 v1474.2.1 v1474.2.2.1 v1474.2.2.2.1 v1474.2.2.2.2 M) gL_law_X2_thrown rfl 0 (by decide +kernel) rfl rfl ⟨(Nat.le_of_ble_eq_true rfl), (Nat.le_of_ble_eq_true rfl)⟩ rfl (q0 := 0) rfl (T := TX2) (N := 12) rfl gk_ok0 trivial [0, 1, 2, 3, 4, 5, 6, 7] rfl (by decide) [8, 9, 10, 11, 12, 13, 14, 15, 16, 17, 18, 19, 20, 21, 22, 23, 24, 25, 26, 27, 28, 29] rfl (by decide) (by decide) rfl (Nat.le_of_ble_eq_true rfl) dL_law_1480 ⟨(show ((cells + 1) + 0) + 0 ≤ 601024 by omega), (show ((slots + 6) + 0) + 0 ≤ 7293034 by omega)⟩ (fun r1480 u1480 hp1480 => ?_)
  have hT1480 : r1480 = nI 1 := (show r1480 = v1474.1 0 from hp1480).trans hF1474
  refine gk_wsub (w' := (gd_X cI h q3 v1474 ++ (gw_O cJ o f1462 ++ (gw_X cI cZ g h1 h2 q q2 u1462)))) [22, 23, 24, 25, 26, 27, 28, 29, 0, 1, 2, 3, 4, 5, 6, 7, 8, 9, 10, 11, 12, 13, 14, 15, 16, 17, 18, 19, 20, 21] rfl (by decide) ?_
  show gk_C p l e room_1 s m args below meth c 9 D A Q (((cells + 1) + 0) + 0) (((slots + 6) + 0) + 0) (gd_X cI h q3 v1474 ++ (gw_O cJ o f1462 ++ (gw_X cI cZ g h1 h2 q q2 u1462))) [(6, .int r1474), (5, .int r1462), (4, .int (nI i)), (3, .ref o), (2, .ref h), (1, .ref g), (0, .ref b)] 1483 [.int r1480]
  refine gk_iload G dL_law_1483 1 rfl ?_
  refine gk_icmp_eq (tgt := 1490) G dL_law_1485 (by decide) (fun c_1485 => ?_) (fun c_1485 => ?_)
  · refine gk_iload G dL_law_1490 1 rfl ?_
    refine gk_if_ne (tgt := 1507) G dL_law_1492 (by decide) (fun c_1492 => ?_) (fun c_1492 => ?_)
    · refine gk_goto (tgt := 1565) G dL_law_1507 (by decide) ?_
      exact gk_lsub [2, 3, 4, 5, 6] rfl (K f1462 u1462 v1474 _ _ (by omega) (by omega) hr1462 hs1474 hn1474)
    · exact absurd (hK1462.symm.trans c_1492) (by decide)
  · exact absurd (hT1480.trans hK1462.symm) c_1485
set_option maxRecDepth 100000 in
set_option maxHeartbeats 1000000 in
theorem lg_groundIn_ok {p : Program} {l : Launch} {e : Env} {s : State} {m : MethodId} {args : Array Value} {below : List Frame} {meth : Method} {c : Code} {D : va_G} {A : Nat → Prop} {Q : State → Prop} {cI cZ cJ : ClassId} {b L : Nat} {xs : Nat → Int32} (G : gk_G p s m args meth c RL 9 cL_law (some .boolean) wsL_law D (g_T cI cZ cJ) A) (hE : gl_F A s s.heap) (hl9 : l.stackTraces = false) (hX : va_X b L xs s s.heap) (hbl : b < s.heap.size) (hbA : ¬ A b) (hL : L ≤ 2048) {g h1 h2 o h : Nat} {q q2 q3 : Nat → Nat} {f : Nat → Int64} {u0 : gw_U} {v0 : gd_U} {M : gm_M} (wf : gm_wf M) (hrest : gm_rest M) (hh : M 9 0 < 1999000) (hr : gc_rep u0.1.1 u0.1.2 M) (hs : gr_st v0.1 v0.2.1 M) (hn : gr_now v0.2.2.1 M) {i cells slots : Nat} (hi : i + 4 ≤ L) (hc : cells ≤ 500000) (hsl : slots ≤ 7000000) (v : Nat) (hv0 : 1 ≤ v) (hv : v < 61) (hx1 : xs (i + 1) = nI v) (K : ∀ (f9 : Nat → Int64) (u9 : gw_U) (v9 : gd_U) (c9 s9 : Nat), c9 ≤ cells + 20 → s9 ≤ slots + 240 → gc_rep u9.1.1 u9.1.2 M → gr_st v9.1 v9.2.1 M → gr_now v9.2.2.1 M → gk_C p l e room_1 s m args below meth c 9 D A Q c9 s9 (gd_X cI h q3 v9 ++ (gw_O cJ o f9 ++ (gw_X cI cZ g h1 h2 q q2 u9))) [(4, .int (nI i)), (3, .ref o), (2, .ref h), (1, .ref g), (0, .ref b)] 1565 []) : gk_C p l e room_1 s m args below meth c 9 D A Q cells slots (gd_X cI h q3 v0 ++ (gw_O cJ o f ++ (gw_X cI cZ g h1 h2 q q2 u0))) [(4, .int (nI i)), (3, .ref o), (2, .ref h), (1, .ref g), (0, .ref b)] 1454 [] := by
  refine gk_aload_n G dL_law_1454 3 rfl ?_
  refine gk_aload_n G dL_law_1455 4 rfl ?_
  refine gk_iload G dL_law_1456 0 rfl ?_
  refine gk_iconst (v := nI 1) G dL_law_1458 (by decide) ?_
  refine gk_iadd (v := nI (i + 1)) G dL_law_1459 (nI_add i 1) ?_
  refine gk_sld (v := (nI v)) G hX hbl hbA (i + 1) rfl (by omega) (by omega) hx1 dL_law_1460 ?_
  refine gk_aload_n G dL_law_1461 1 rfl ?_
  refine gk_callISW (wr := gd_X cI h q3 v0) G (cl_groundIn_ok l D cI cZ cJ o f g h1 h2 q q2 u0 M v wf hr hrest (by omega) hv0 hv) gL_law_L_groundIn rfl 3 (by decide +kernel) rfl rfl ⟨(Nat.le_of_ble_eq_true rfl), (Nat.le_of_ble_eq_true rfl)⟩ rfl gl_Fok hE [8, 9, 10, 11, 12, 13, 14, 15, 16, 17, 18, 19, 20, 21, 22, 23, 24, 25, 26, 27, 28, 29] rfl (by decide) [0, 1, 2, 3, 4, 5, 6, 7] rfl (by decide) (by decide) rfl (Nat.le_of_ble_eq_true rfl) dL_law_1462 ⟨(show cells + 0 ≤ 601024 by omega), (show slots + 0 ≤ 7293034 by omega)⟩ (fun r1462 uu1462 hp1462 => ?_)
  obtain ⟨f1462, u1462⟩ := uu1462
  have hK1462 : r1462 = nI 0 := hp1462.1
  have hv1462 : f1462 0 = (nI (gm_hrs M v 16 0 - M 16 0)).toInt64 := hp1462.2.1
  have hr1462 : gc_rep u1462.1.1 u1462.1.2 M := hp1462.2.2
  show gk_C p l e room_1 s m args below meth c 9 D A Q (cells + 0) (slots + 0) (gd_X cI h q3 v0 ++ (gw_O cJ o f1462 ++ (gw_X cI cZ g h1 h2 q q2 u1462))) [(4, .int (nI i)), (3, .ref o), (2, .ref h), (1, .ref g), (0, .ref b)] 1465 [.int r1462]
  refine gk_istore (lv' := [(5, .int r1462), (4, .int (nI i)), (3, .ref o), (2, .ref h), (1, .ref g), (0, .ref b)]) G dL_law_1465 (by decide) rfl ?_
  refine gk_aload_n G dL_law_1467 3 rfl ?_
  refine gk_aload_n G dL_law_1468 5 rfl ?_
  refine gk_iload G dL_law_1469 1 rfl ?_
  refine gk_iconst (v := nI 1) G dL_law_1471 (by decide) ?_
  refine gk_iadd (v := nI (i + 1)) G dL_law_1472 (nI_add i 1) ?_
  refine gk_sld (v := (nI v)) G hX hbl hbA (i + 1) rfl (by omega) (by omega) hx1 dL_law_1473 ?_
  refine gk_callIV (wr := gw_O cJ o f1462 ++ (gw_X cI cZ g h1 h2 q q2 u1462)) G (c2_groundIn_ok l D cI cZ cJ h q3 v0.1 v0.2.1 v0.2.2.1 v0.2.2.2.1 v0.2.2.2.2 M v wf hs hn hrest (by omega) (by omega) (by omega)) gL_law_X2_groundIn rfl 1 (by decide +kernel) rfl rfl ⟨(Nat.le_of_ble_eq_true rfl), (Nat.le_of_ble_eq_true rfl)⟩ rfl (q0 := 0) rfl (T := TX2) (N := 12) rfl gk_ok0 trivial [0, 1, 2, 3, 4, 5, 6, 7] rfl (by decide) [8, 9, 10, 11, 12, 13, 14, 15, 16, 17, 18, 19, 20, 21, 22, 23, 24, 25, 26, 27, 28, 29] rfl (by decide) (by decide) rfl (Nat.le_of_ble_eq_true rfl) dL_law_1474 ⟨(show (cells + 0) + 0 ≤ 601024 by omega), (show (slots + 0) + 0 ≤ 7293034 by omega)⟩ (fun r1474 v1474 hp1474 => ?_)
  have hR1474 : r1474 = nI (gm_hrs M v 16 0 - M 16 0) := hp1474.1
  have hs1474 : gr_st v1474.1 v1474.2.1 M := hp1474.2.1
  have hn1474 : gr_now v1474.2.2.1 M := hp1474.2.2.1
  have hF1474 : v1474.1 0 = nI 0 := hp1474.2.2.2
  refine gk_wsub (w' := (gd_X cI h q3 v1474 ++ (gw_O cJ o f1462 ++ (gw_X cI cZ g h1 h2 q q2 u1462)))) [22, 23, 24, 25, 26, 27, 28, 29, 0, 1, 2, 3, 4, 5, 6, 7, 8, 9, 10, 11, 12, 13, 14, 15, 16, 17, 18, 19, 20, 21] rfl (by decide) ?_
  show gk_C p l e room_1 s m args below meth c 9 D A Q ((cells + 0) + 0) ((slots + 0) + 0) (gd_X cI h q3 v1474 ++ (gw_O cJ o f1462 ++ (gw_X cI cZ g h1 h2 q q2 u1462))) [(5, .int r1462), (4, .int (nI i)), (3, .ref o), (2, .ref h), (1, .ref g), (0, .ref b)] 1477 [.int r1474]
  refine gk_istore (lv' := [(6, .int r1474), (5, .int r1462), (4, .int (nI i)), (3, .ref o), (2, .ref h), (1, .ref g), (0, .ref b)]) G dL_law_1477 (by decide) rfl ?_
  refine gk_aload_n G dL_law_1479 4 rfl ?_
  refine gk_callIV (wr := gw_O cJ o f1462 ++ (gw_X cI cZ g h1 h2 q q2 u1462)) G (c2_thrown l D cI cZ cJ h q3 v1474.1 v1474.2.1 v1474.2.2.1 v1474.2.2.2.1 v1474.2.2.2.2 M) gL_law_X2_thrown rfl 0 (by decide +kernel) rfl rfl ⟨(Nat.le_of_ble_eq_true rfl), (Nat.le_of_ble_eq_true rfl)⟩ rfl (q0 := 0) rfl (T := TX2) (N := 12) rfl gk_ok0 trivial [0, 1, 2, 3, 4, 5, 6, 7] rfl (by decide) [8, 9, 10, 11, 12, 13, 14, 15, 16, 17, 18, 19, 20, 21, 22, 23, 24, 25, 26, 27, 28, 29] rfl (by decide) (by decide) rfl (Nat.le_of_ble_eq_true rfl) dL_law_1480 ⟨(show ((cells + 0) + 0) + 0 ≤ 601024 by omega), (show ((slots + 0) + 0) + 0 ≤ 7293034 by omega)⟩ (fun r1480 u1480 hp1480 => ?_)
  have hT1480 : r1480 = nI 0 := (show r1480 = v1474.1 0 from hp1480).trans hF1474
  refine gk_wsub (w' := (gd_X cI h q3 v1474 ++ (gw_O cJ o f1462 ++ (gw_X cI cZ g h1 h2 q q2 u1462)))) [22, 23, 24, 25, 26, 27, 28, 29, 0, 1, 2, 3, 4, 5, 6, 7, 8, 9, 10, 11, 12, 13, 14, 15, 16, 17, 18, 19, 20, 21] rfl (by decide) ?_
  show gk_C p l e room_1 s m args below meth c 9 D A Q (((cells + 0) + 0) + 0) (((slots + 0) + 0) + 0) (gd_X cI h q3 v1474 ++ (gw_O cJ o f1462 ++ (gw_X cI cZ g h1 h2 q q2 u1462))) [(6, .int r1474), (5, .int r1462), (4, .int (nI i)), (3, .ref o), (2, .ref h), (1, .ref g), (0, .ref b)] 1483 [.int r1480]
  refine gk_iload G dL_law_1483 1 rfl ?_
  refine gk_icmp_eq (tgt := 1490) G dL_law_1485 (by decide) (fun c_1485 => ?_) (fun c_1485 => ?_)
  · refine gk_iload G dL_law_1490 1 rfl ?_
    refine gk_if_ne (tgt := 1507) G dL_law_1492 (by decide) (fun c_1492 => ?_) (fun c_1492 => ?_)
    · exact absurd (hK1462.trans nI_0) c_1492
    · refine gk_aload_n G dL_law_1495 3 rfl ?_
      refine gk_iconst (v := nI 0) G dL_law_1496 (by decide) ?_
      refine gk_lald (v := f1462 0) G (q0 := 8) (t0 := 2) rfl rfl 0 rfl (by decide) (by decide) rfl dL_law_1497 ?_
      refine gk_iload G dL_law_1498 0 rfl ?_
      refine gk_i2l (v := (r1474).toInt64) G dL_law_1500 rfl ?_
      refine gk_lcmp G dL_law_1501 ?_
      refine gk_if_eq (tgt := 1507) G dL_law_1502 (by decide) (fun c_1502 => ?_) (fun c_1502 => ?_)
      · refine gk_goto (tgt := 1565) G dL_law_1507 (by decide) ?_
        exact gk_lsub [2, 3, 4, 5, 6] rfl (K f1462 u1462 v1474 _ _ (by omega) (by omega) hr1462 hs1474 hn1474)
      · exact absurd (gl_cmp (hv1462.trans (congrArg Int32.toInt64 hR1474).symm)) c_1502
  · exact absurd (hT1480.trans hK1462.symm) c_1485
set_option maxRecDepth 100000 in
set_option maxHeartbeats 1000000 in
theorem lg_meanLeft {p : Program} {l : Launch} {e : Env} {s : State} {m : MethodId} {args : Array Value} {below : List Frame} {meth : Method} {c : Code} {D : va_G} {A : Nat → Prop} {Q : State → Prop} {cI cZ cJ : ClassId} {b L : Nat} {xs : Nat → Int32} (G : gk_G p s m args meth c RL 9 cL_law (some .boolean) wsL_law D (g_T cI cZ cJ) A) (hE : gl_F A s s.heap) (hl9 : l.stackTraces = false) (hX : va_X b L xs s s.heap) (hbl : b < s.heap.size) (hbA : ¬ A b) (hL : L ≤ 2048) {g h1 h2 o h : Nat} {q q2 q3 : Nat → Nat} {f : Nat → Int64} {u0 : gw_U} {v0 : gd_U} {M : gm_M} (wf : gm_wf M) (hrest : gm_rest M) (hh : M 9 0 < 1999000) (hr : gc_rep u0.1.1 u0.1.2 M) (hs : gr_st v0.1 v0.2.1 M) (hn : gr_now v0.2.2.1 M) {i cells slots : Nat} (hi : i + 4 ≤ L) (hc : cells ≤ 500000) (hsl : slots ≤ 7000000)    (K : ∀ (f9 : Nat → Int64) (u9 : gw_U) (v9 : gd_U) (c9 s9 : Nat), c9 ≤ cells + 20 → s9 ≤ slots + 240 → gc_rep u9.1.1 u9.1.2 M → gr_st v9.1 v9.2.1 M → gr_now v9.2.2.1 M → gk_C p l e room_1 s m args below meth c 9 D A Q c9 s9 (gd_X cI h q3 v9 ++ (gw_O cJ o f9 ++ (gw_X cI cZ g h1 h2 q q2 u9))) [(4, .int (nI i)), (3, .ref o), (2, .ref h), (1, .ref g), (0, .ref b)] 1565 []) : gk_C p l e room_1 s m args below meth c 9 D A Q cells slots (gd_X cI h q3 v0 ++ (gw_O cJ o f ++ (gw_X cI cZ g h1 h2 q q2 u0))) [(4, .int (nI i)), (3, .ref o), (2, .ref h), (1, .ref g), (0, .ref b)] 1510 [] := by
  refine gk_aload_n G dL_law_1510 3 rfl ?_
  refine gk_callDV (wr := gd_X cI h q3 v0 ++ gw_O cJ o f) G (c1_meanLeft l D cI cZ cJ g h1 h2 q u0.1.1 u0.1.2 q2 u0.2.1 u0.2.2 M wf hr) gL_law_X1_meanLeft rfl 0 (by decide +kernel) rfl rfl ⟨(Nat.le_of_ble_eq_true rfl), (Nat.le_of_ble_eq_true rfl)⟩ rfl (q0 := 0) rfl (T := TX1) (N := 2) rfl gn_ok hE.1 [9, 10, 11, 12, 13, 14, 15, 16, 17, 18, 19, 20, 21, 22, 23, 24, 25, 26, 27, 28, 29] rfl (by decide) [0, 1, 2, 3, 4, 5, 6, 7, 8] rfl (by decide) (by decide) rfl (Nat.le_of_ble_eq_true rfl) dL_law_1511 ⟨(show cells + 0 ≤ 601024 by omega), (show slots + 0 ≤ 7293034 by omega)⟩ (fun r1511 u1511 hp1511 => ?_)
  have hK1511 : r1511 = gm_ml M := hp1511.1
  have hr1511 : gc_rep u1511.1.1 u1511.1.2 M := hp1511.2
  refine gk_wsub (w' := (gd_X cI h q3 v0 ++ (gw_O cJ o f ++ (gw_X cI cZ g h1 h2 q q2 u1511)))) [0, 1, 2, 3, 4, 5, 6, 7, 8, 9, 10, 11, 12, 13, 14, 15, 16, 17, 18, 19, 20, 21, 22, 23, 24, 25, 26, 27, 28, 29] rfl (by decide) ?_
  show gk_C p l e room_1 s m args below meth c 9 D A Q (cells + 0) (slots + 0) (gd_X cI h q3 v0 ++ (gw_O cJ o f ++ (gw_X cI cZ g h1 h2 q q2 u1511))) [(4, .int (nI i)), (3, .ref o), (2, .ref h), (1, .ref g), (0, .ref b)] 1514 [.double r1511]
  refine gk_dstore (lv' := [(5, .double r1511), (4, .int (nI i)), (3, .ref o), (2, .ref h), (1, .ref g), (0, .ref b)]) G dL_law_1514 (by decide) rfl ?_
  refine gk_aload_n G dL_law_1516 3 rfl ?_
  refine gk_callDV (wr := gw_O cJ o f ++ (gw_X cI cZ g h1 h2 q q2 u1511)) G (c2_meanLeft l D cI cZ cJ h q3 v0.1 v0.2.1 v0.2.2.1 v0.2.2.2.1 v0.2.2.2.2 M wf hs hn (by omega)) gL_law_X2_meanLeft rfl 0 (by decide +kernel) rfl rfl ⟨(Nat.le_of_ble_eq_true rfl), (Nat.le_of_ble_eq_true rfl)⟩ rfl (q0 := 0) rfl (T := TX2) (N := 12) rfl gk_ok0 trivial [0, 1, 2, 3, 4, 5, 6, 7] rfl (by decide) [8, 9, 10, 11, 12, 13, 14, 15, 16, 17, 18, 19, 20, 21, 22, 23, 24, 25, 26, 27, 28, 29] rfl (by decide) (by decide) rfl (Nat.le_of_ble_eq_true rfl) dL_law_1517 ⟨(show (cells + 0) + 0 ≤ 601024 by omega), (show (slots + 0) + 0 ≤ 7293034 by omega)⟩ (fun r1517 v1517 hp1517 => ?_)
  have hR1517 : r1517 = gm_ml M := hp1517.1
  have hs1517 : gr_st v1517.1 v1517.2.1 M := hp1517.2.1
  have hn1517 : gr_now v1517.2.2.1 M := hp1517.2.2.1
  have hF1517 : v1517.1 0 = nI 0 := hp1517.2.2.2
  refine gk_wsub (w' := (gd_X cI h q3 v1517 ++ (gw_O cJ o f ++ (gw_X cI cZ g h1 h2 q q2 u1511)))) [22, 23, 24, 25, 26, 27, 28, 29, 0, 1, 2, 3, 4, 5, 6, 7, 8, 9, 10, 11, 12, 13, 14, 15, 16, 17, 18, 19, 20, 21] rfl (by decide) ?_
  show gk_C p l e room_1 s m args below meth c 9 D A Q ((cells + 0) + 0) ((slots + 0) + 0) (gd_X cI h q3 v1517 ++ (gw_O cJ o f ++ (gw_X cI cZ g h1 h2 q q2 u1511))) [(5, .double r1511), (4, .int (nI i)), (3, .ref o), (2, .ref h), (1, .ref g), (0, .ref b)] 1520 [.double r1517]
  refine gk_dstore (lv' := [(7, .double r1517), (5, .double r1511), (4, .int (nI i)), (3, .ref o), (2, .ref h), (1, .ref g), (0, .ref b)]) G dL_law_1520 (by decide) rfl ?_
  refine gk_dload G dL_law_1522 1 rfl ?_
  refine gk_dload G dL_law_1524 0 rfl ?_
  refine gk_dcmp G dL_law_1526 ?_
  refine gk_if_eq (tgt := 1548) G dL_law_1527 (by decide) (fun c_1527 => ?_) (fun c_1527 => ?_)
  · refine gk_goto (tgt := 1565) G dL_law_1548 (by decide) ?_
    exact gk_lsub [2, 3, 4, 5, 6] rfl (K f u1511 v1517 _ _ (by omega) (by omega) hr1511 hs1517 hn1517)
  · exact absurd (gl_dc hK1511 hR1517 (by have := wf.2.1; omega)) c_1527
set_option maxRecDepth 100000 in
set_option maxHeartbeats 1000000 in
theorem lg_digest {p : Program} {l : Launch} {e : Env} {s : State} {m : MethodId} {args : Array Value} {below : List Frame} {meth : Method} {c : Code} {D : va_G} {A : Nat → Prop} {Q : State → Prop} {cI cZ cJ : ClassId} {b L : Nat} {xs : Nat → Int32} (G : gk_G p s m args meth c RL 9 cL_law (some .boolean) wsL_law D (g_T cI cZ cJ) A) (hE : gl_F A s s.heap) (hl9 : l.stackTraces = false) (hX : va_X b L xs s s.heap) (hbl : b < s.heap.size) (hbA : ¬ A b) (hL : L ≤ 2048) {g h1 h2 o h : Nat} {q q2 q3 : Nat → Nat} {f : Nat → Int64} {u0 : gw_U} {v0 : gd_U} {M : gm_M} (wf : gm_wf M) (hrest : gm_rest M) (hh : M 9 0 < 1999000) (hr : gc_rep u0.1.1 u0.1.2 M) (hs : gr_st v0.1 v0.2.1 M) (hn : gr_now v0.2.2.1 M) {i cells slots : Nat} (hi : i + 4 ≤ L) (hc : cells ≤ 500000) (hsl : slots ≤ 7000000)    (K : ∀ (f9 : Nat → Int64) (u9 : gw_U) (v9 : gd_U) (c9 s9 : Nat), c9 ≤ cells + 20 → s9 ≤ slots + 240 → gc_rep u9.1.1 u9.1.2 M → gr_st v9.1 v9.2.1 M → gr_now v9.2.2.1 M → gk_C p l e room_1 s m args below meth c 9 D A Q c9 s9 (gd_X cI h q3 v9 ++ (gw_O cJ o f9 ++ (gw_X cI cZ g h1 h2 q q2 u9))) [(4, .int (nI i)), (3, .ref o), (2, .ref h), (1, .ref g), (0, .ref b)] 1565 []) : gk_C p l e room_1 s m args below meth c 9 D A Q cells slots (gd_X cI h q3 v0 ++ (gw_O cJ o f ++ (gw_X cI cZ g h1 h2 q q2 u0))) [(4, .int (nI i)), (3, .ref o), (2, .ref h), (1, .ref g), (0, .ref b)] 1551 [] := by
  refine gk_aload_n G dL_law_1551 3 rfl ?_
  refine gk_callLV (wr := gd_X cI h q3 v0 ++ gw_O cJ o f) G (c1_digest l D cI cZ cJ g h1 h2 q u0.1.1 u0.1.2 q2 u0.2.1 u0.2.2 M wf hr hrest (by omega)) gL_law_X1_digest rfl 0 (by decide +kernel) rfl rfl ⟨(Nat.le_of_ble_eq_true rfl), (Nat.le_of_ble_eq_true rfl)⟩ rfl (q0 := 0) rfl (T := TX1) (N := 2) rfl gn_ok hE.1 [9, 10, 11, 12, 13, 14, 15, 16, 17, 18, 19, 20, 21, 22, 23, 24, 25, 26, 27, 28, 29] rfl (by decide) [0, 1, 2, 3, 4, 5, 6, 7, 8] rfl (by decide) (by decide) rfl (Nat.le_of_ble_eq_true rfl) dL_law_1552 ⟨(show cells + 0 ≤ 601024 by omega), (show slots + 0 ≤ 7293034 by omega)⟩ (fun r1552 u1552 hp1552 => ?_)
  have hK1552 : r1552 = gm_dig M := hp1552.1
  have hr1552 : gc_rep u1552.1.1 u1552.1.2 M := hp1552.2
  refine gk_wsub (w' := (gd_X cI h q3 v0 ++ (gw_O cJ o f ++ (gw_X cI cZ g h1 h2 q q2 u1552)))) [0, 1, 2, 3, 4, 5, 6, 7, 8, 9, 10, 11, 12, 13, 14, 15, 16, 17, 18, 19, 20, 21, 22, 23, 24, 25, 26, 27, 28, 29] rfl (by decide) ?_
  show gk_C p l e room_1 s m args below meth c 9 D A Q (cells + 0) (slots + 0) (gd_X cI h q3 v0 ++ (gw_O cJ o f ++ (gw_X cI cZ g h1 h2 q q2 u1552))) [(4, .int (nI i)), (3, .ref o), (2, .ref h), (1, .ref g), (0, .ref b)] 1555 [.long r1552]
  refine gk_aload_n G dL_law_1555 2 rfl ?_
  refine gk_callLV (wr := gw_O cJ o f ++ (gw_X cI cZ g h1 h2 q q2 u1552)) G (c2_digest l D cI cZ cJ h q3 v0.1 v0.2.1 v0.2.2.1 v0.2.2.2.1 v0.2.2.2.2 M wf hs hn hrest (by omega)) gL_law_X2_digest rfl 0 (by decide +kernel) rfl rfl ⟨(Nat.le_of_ble_eq_true rfl), (Nat.le_of_ble_eq_true rfl)⟩ rfl (q0 := 0) rfl (T := TX2) (N := 12) rfl gk_ok0 trivial [0, 1, 2, 3, 4, 5, 6, 7] rfl (by decide) [8, 9, 10, 11, 12, 13, 14, 15, 16, 17, 18, 19, 20, 21, 22, 23, 24, 25, 26, 27, 28, 29] rfl (by decide) (by decide) rfl (Nat.le_of_ble_eq_true rfl) dL_law_1556 ⟨(show (cells + 0) + 18 ≤ 601024 by omega), (show (slots + 0) + 123 ≤ 7293034 by omega)⟩ (fun r1556 v1556 hp1556 => ?_)
  have hR1556 : r1556 = gm_dig M := hp1556.1
  have hs1556 : gr_st v1556.1 v1556.2.1 M := hp1556.2.1
  have hn1556 : gr_now v1556.2.2.1 M := hp1556.2.2.1
  have hF1556 : v1556.1 0 = nI 0 := hp1556.2.2.2
  refine gk_wsub (w' := (gd_X cI h q3 v1556 ++ (gw_O cJ o f ++ (gw_X cI cZ g h1 h2 q q2 u1552)))) [22, 23, 24, 25, 26, 27, 28, 29, 0, 1, 2, 3, 4, 5, 6, 7, 8, 9, 10, 11, 12, 13, 14, 15, 16, 17, 18, 19, 20, 21] rfl (by decide) ?_
  show gk_C p l e room_1 s m args below meth c 9 D A Q ((cells + 0) + 18) ((slots + 0) + 123) (gd_X cI h q3 v1556 ++ (gw_O cJ o f ++ (gw_X cI cZ g h1 h2 q q2 u1552))) [(4, .int (nI i)), (3, .ref o), (2, .ref h), (1, .ref g), (0, .ref b)] 1559 [.long r1556, .long r1552]
  refine gk_lcmp G dL_law_1559 ?_
  refine gk_if_eq (tgt := 1565) G dL_law_1560 (by decide) (fun c_1560 => ?_) (fun c_1560 => ?_)
  · exact gk_lsub [0, 1, 2, 3, 4] rfl (K f u1552 v1556 _ _ (by omega) (by omega) hr1552 hs1556 hn1556)
  · exact absurd (gl_cmp (hK1552.trans hR1556.symm)) c_1560
