set_option maxRecDepth 100000 in
set_option maxHeartbeats 1000000 in
theorem cl_addStone_no (l : Launch) (D : va_G) (cI cZ cJ : ClassId) (o : Nat) (f : Nat → Int64) (g h1 h2 : Nat) (q q2 : Nat → Nat) (u0 : gw_U) (M : gm_M) (hl9 : l.stackTraces = false) (p0 : Int32) (wf : gm_wf M) (hr : gc_rep u0.1.1 u0.1.2 M) (hb : ¬ gm_rg p0 1 10) : gk_I l yL_addStone wsL_addStone ({ frames := 7, cells := 1, slots := 6, locals := 111 } : Room) D (g_T cI cZ cJ) gl_F [.ref g, .int p0, .ref o] (gw_O cJ o f ++ (gw_X cI cZ g h1 h2 q q2 u0)) 1 6 (fun (r : Int32) (u : (Nat → Int64) × gw_U) => r = nI 1 ∧ gc_rep u.2.1.1 u.2.1.2 M) (fun u => (gw_O cJ o u.1 ++ (gw_X cI cZ g h1 h2 q q2 u.2))) := by
  refine gk_IH_of (ty := .int) (cc := cL_addStone) (nL := 4) (by decide +kernel) rfl (Nat.le_of_ble_eq_true rfl) ?_
  intro p e s m below meth c A Q htb hE G RET
  refine gk_aload_n G dL_addStone_0 2 rfl ?_
  refine gk_iconst (v := nI 0) G dL_addStone_1 (by decide) ?_
  refine gk_aload_n G dL_addStone_2 0 rfl ?_
  refine gk_iload_n G dL_addStone_3 1 rfl ?_
  refine gk_callCV (wr := gw_O cJ o f) (w0 := (gw_O cJ o f ++ (gw_X cI cZ g h1 h2 q q2 u0))) G (c1_addStone_no l D cI cZ cJ g h1 h2 q u0.1.1 u0.1.2 q2 u0.2.1 u0.2.2 M hl9 p0 wf hr hb) gL_addStone_X1_addStone rfl 1 (by decide +kernel) rfl rfl ⟨(Nat.le_of_ble_eq_true rfl), (Nat.le_of_ble_eq_true rfl)⟩ rfl (q0 := 0) rfl (T := TX1) (N := 2) rfl gn_ok hE.1 [] ⟨0, 9, 12, 13⟩ [⟨0, 9, 15, 15⟩] htb (fun _ h9 => nomatch h9) rfl (by decide) (G.2.2.2.2.1 (.classLink RL 13 "java/lang/IllegalArgumentException") (List.mem_cons_of_mem _ (List.mem_append_left _ (List.mem_append_left _ (List.mem_append_left _ (List.mem_append_left _ (List.mem_of_getElem? (i := 0) rfl))))))) (gl_cIAE hE.1) [1, 2, 3, 4, 5, 6, 7, 8, 9, 10, 11, 12, 13, 14, 15, 16, 17, 18, 19, 20, 21] rfl (by decide) [0] rfl (by decide) (by decide) [0, 1, 2, 3, 4, 5, 6, 7, 8, 9, 10, 11, 12, 13, 14, 15, 16, 17, 18, 19, 20, 21] rfl (by decide) rfl (Nat.le_of_ble_eq_true rfl) dL_addStone_4 ⟨(Nat.le_of_ble_eq_true rfl), (Nat.le_of_ble_eq_true rfl)⟩ (fun x4 => ?_)
  show gk_C p l e ({ frames := 7, cells := 1, slots := 6, locals := 111 } : Room) s m ([.ref g, .int p0, .ref o] : List Value).toArray below meth c 4 D A Q (0 + 1) (0 + 6) (gw_O cJ o f ++ (gw_X cI cZ g h1 h2 q q2 u0)) [(0, .ref g), (1, .int p0), (2, .ref o)] 12 [.ref x4]
  refine gk_astore_n (lv' := [(3, .ref x4), (0, .ref g), (1, .int p0), (2, .ref o)]) G dL_addStone_12 rfl (by decide) rfl ?_
  refine gk_iconst (v := nI 1) G dL_addStone_13 (by decide) ?_
  exact RET _ _ _ _ _ _ (f, u0) dL_addStone_14 rfl ⟨rfl, hr⟩ rfl (Nat.le_of_ble_eq_true rfl) (Nat.le_of_ble_eq_true rfl)
set_option maxRecDepth 100000 in
set_option maxHeartbeats 1000000 in
theorem cl_addStone_full (l : Launch) (D : va_G) (cI cZ cJ : ClassId) (o : Nat) (f : Nat → Int64) (g h1 h2 : Nat) (q q2 : Nat → Nat) (u0 : gw_U) (M : gm_M) (hl9 : l.stackTraces = false) (v : Nat) (wf : gm_wf M) (hr : gc_rep u0.1.1 u0.1.2 M) (hv0 : 1 ≤ v) (hv : v < 10) (h4 : M 10 0 = 4) : gk_I l yL_addStone wsL_addStone ({ frames := 7, cells := 1, slots := 6, locals := 111 } : Room) D (g_T cI cZ cJ) gl_F [.ref g, .int (nI v), .ref o] (gw_O cJ o f ++ (gw_X cI cZ g h1 h2 q q2 u0)) 1 6 (fun (r : Int32) (u : (Nat → Int64) × gw_U) => r = nI 2 ∧ gc_rep u.2.1.1 u.2.1.2 M) (fun u => (gw_O cJ o u.1 ++ (gw_X cI cZ g h1 h2 q q2 u.2))) := by
  refine gk_IH_of (ty := .int) (cc := cL_addStone) (nL := 4) (by decide +kernel) rfl (Nat.le_of_ble_eq_true rfl) ?_
  intro p e s m below meth c A Q htb hE G RET
  refine gk_aload_n G dL_addStone_0 2 rfl ?_
  refine gk_iconst (v := nI 0) G dL_addStone_1 (by decide) ?_
  refine gk_aload_n G dL_addStone_2 0 rfl ?_
  refine gk_iload_n G dL_addStone_3 1 rfl ?_
  refine gk_callCV (wr := gw_O cJ o f) (w0 := (gw_O cJ o f ++ (gw_X cI cZ g h1 h2 q q2 u0))) G (c1_addStone_full l D cI cZ cJ g h1 h2 q u0.1.1 u0.1.2 q2 u0.2.1 u0.2.2 M hl9 v wf hr hv0 hv h4) gL_addStone_X1_addStone rfl 1 (by decide +kernel) rfl rfl ⟨(Nat.le_of_ble_eq_true rfl), (Nat.le_of_ble_eq_true rfl)⟩ rfl (q0 := 0) rfl (T := TX1) (N := 2) rfl gn_ok hE.1 [⟨0, 9, 12, 13⟩] ⟨0, 9, 15, 15⟩ [] htb (fun z hz => by obtain rfl := List.mem_singleton.mp hz; exact Or.inr ⟨by decide, _, (G.2.2.2.2.1 (.classLink RL 13 "java/lang/IllegalArgumentException") (List.mem_cons_of_mem _ (List.mem_append_left _ (List.mem_append_left _ (List.mem_append_left _ (List.mem_append_left _ (List.mem_of_getElem? (i := 0) rfl))))))), hE.2 _ (List.mem_of_getElem? (i := 0) rfl)⟩) rfl (by decide) (G.2.2.2.2.1 (.classLink RL 15 "java/lang/IllegalStateException") (List.mem_cons_of_mem _ (List.mem_append_left _ (List.mem_append_left _ (List.mem_append_left _ (List.mem_append_left _ (List.mem_of_getElem? (i := 1) rfl))))))) (gl_cISE hE.1) [1, 2, 3, 4, 5, 6, 7, 8, 9, 10, 11, 12, 13, 14, 15, 16, 17, 18, 19, 20, 21] rfl (by decide) [0] rfl (by decide) (by decide) [0, 1, 2, 3, 4, 5, 6, 7, 8, 9, 10, 11, 12, 13, 14, 15, 16, 17, 18, 19, 20, 21] rfl (by decide) rfl (Nat.le_of_ble_eq_true rfl) dL_addStone_4 ⟨(Nat.le_of_ble_eq_true rfl), (Nat.le_of_ble_eq_true rfl)⟩ (fun x4 => ?_)
  show gk_C p l e ({ frames := 7, cells := 1, slots := 6, locals := 111 } : Room) s m ([.ref g, .int (nI v), .ref o] : List Value).toArray below meth c 4 D A Q (0 + 1) (0 + 6) (gw_O cJ o f ++ (gw_X cI cZ g h1 h2 q q2 u0)) [(0, .ref g), (1, .int (nI v)), (2, .ref o)] 15 [.ref x4]
  refine gk_astore_n (lv' := [(3, .ref x4), (0, .ref g), (1, .int (nI v)), (2, .ref o)]) G dL_addStone_15 rfl (by decide) rfl ?_
  refine gk_iconst (v := nI 2) G dL_addStone_16 (by decide) ?_
  exact RET _ _ _ _ _ _ (f, u0) dL_addStone_17 rfl ⟨rfl, hr⟩ rfl (Nat.le_of_ble_eq_true rfl) (Nat.le_of_ble_eq_true rfl)
set_option maxRecDepth 100000 in
set_option maxHeartbeats 1000000 in
theorem cl_addStone_ok (l : Launch) (D : va_G) (cI cZ cJ : ClassId) (o : Nat) (f : Nat → Int64) (g h1 h2 : Nat) (q q2 : Nat → Nat) (u0 : gw_U) (M : gm_M) (v : Nat) (wf : gm_wf M) (hr : gc_rep u0.1.1 u0.1.2 M) (hv0 : 1 ≤ v) (hv : v < 10) (h4 : M 10 0 < 4) : gk_I l yL_addStone wsL_addStone ({ frames := 2, cells := 0, slots := 0, locals := 43 } : Room) D (g_T cI cZ cJ) gl_F [.ref g, .int (nI v), .ref o] (gw_O cJ o f ++ (gw_X cI cZ g h1 h2 q q2 u0)) 0 0 (fun (r : Int32) (u : (Nat → Int64) × gw_U) => r = nI 0 ∧ u.1 0 = (nI (M 10 0)).toInt64 ∧ gc_rep u.2.1.1 u.2.1.2 (gm_adds M v)) (fun u => (gw_O cJ o u.1 ++ (gw_X cI cZ g h1 h2 q q2 u.2))) := by
  refine gk_IH_of (ty := .int) (cc := cL_addStone) (nL := 4) (by decide +kernel) rfl (Nat.le_of_ble_eq_true rfl) ?_
  intro p e s m below meth c A Q htb hE G RET
  refine gk_aload_n G dL_addStone_0 2 rfl ?_
  refine gk_iconst (v := nI 0) G dL_addStone_1 (by decide) ?_
  refine gk_aload_n G dL_addStone_2 0 rfl ?_
  refine gk_iload_n G dL_addStone_3 1 rfl ?_
  refine gk_callIV (wr := gw_O cJ o f) G (c1_addStone_ok l D cI cZ cJ g h1 h2 q u0.1.1 u0.1.2 q2 u0.2.1 u0.2.2 M v wf hr hv0 hv h4) gL_addStone_X1_addStone rfl 1 (by decide +kernel) rfl rfl ⟨(Nat.le_of_ble_eq_true rfl), (Nat.le_of_ble_eq_true rfl)⟩ rfl (q0 := 0) rfl (T := TX1) (N := 2) rfl gn_ok hE.1 [1, 2, 3, 4, 5, 6, 7, 8, 9, 10, 11, 12, 13, 14, 15, 16, 17, 18, 19, 20, 21] rfl (by decide) [0] rfl (by decide) (by decide) rfl (Nat.le_of_ble_eq_true rfl) dL_addStone_4 ⟨(Nat.le_of_ble_eq_true rfl), (Nat.le_of_ble_eq_true rfl)⟩ (fun r4 u4 hp4 => ?_)
  show gk_C p l e ({ frames := 2, cells := 0, slots := 0, locals := 43 } : Room) s m ([.ref g, .int (nI v), .ref o] : List Value).toArray below meth c 4 D A Q 0 0 (gw_O cJ o f ++ (gw_X cI cZ g h1 h2 q q2 u4)) [(0, .ref g), (1, .int (nI v)), (2, .ref o)] 7 [.int r4, .int (nI 0), .ref o]
  refine gk_i2l (v := (r4).toInt64) G dL_addStone_7 rfl ?_
  refine gk_last (w' := (gw_O cJ o (vp_updL f 0 ((r4).toInt64)) ++ (gw_X cI cZ g h1 h2 q q2 u4))) G (q0 := 0) (t0 := 2) rfl rfl 0 rfl (by decide) (by decide) rfl dL_addStone_8 ?_
  refine gk_goto (tgt := 18) G dL_addStone_9 (by decide) ?_
  refine gk_iconst (v := nI 0) G dL_addStone_18 (by decide) ?_
  exact RET _ _ _ _ _ _ (vp_updL f 0 ((r4).toInt64), u4) dL_addStone_19 rfl ⟨rfl, (gw_o0 f ((r4).toInt64)).trans (congrArg Int32.toInt64 hp4.1), hp4.2⟩ rfl (Nat.le_of_ble_eq_true rfl) (Nat.le_of_ble_eq_true rfl)
set_option maxRecDepth 100000 in
set_option maxHeartbeats 1000000 in
theorem cl_setWind_no (l : Launch) (D : va_G) (cI cZ cJ : ClassId) (o : Nat) (f : Nat → Int64) (g h1 h2 : Nat) (q q2 : Nat → Nat) (u0 : gw_U) (M : gm_M) (hl9 : l.stackTraces = false) (p0 p1 : Int32) (wf : gm_wf M) (hr : gc_rep u0.1.1 u0.1.2 M) (hb : ¬ gm_rg p0 0 12) : gk_I l yL_setWind wsL_setWind ({ frames := 7, cells := 1, slots := 6, locals := 113 } : Room) D (g_T cI cZ cJ) gl_F [.ref g, .int p0, .int p1, .ref o] (gw_O cJ o f ++ (gw_X cI cZ g h1 h2 q q2 u0)) 1 6 (fun (r : Int32) (u : (Nat → Int64) × gw_U) => r = nI 1 ∧ gc_rep u.2.1.1 u.2.1.2 M) (fun u => (gw_O cJ o u.1 ++ (gw_X cI cZ g h1 h2 q q2 u.2))) := by
  refine gk_IH_of (ty := .int) (cc := cL_setWind) (nL := 5) (by decide +kernel) rfl (Nat.le_of_ble_eq_true rfl) ?_
  intro p e s m below meth c A Q htb hE G RET
  refine gk_aload_n G dL_setWind_0 3 rfl ?_
  refine gk_iconst (v := nI 0) G dL_setWind_1 (by decide) ?_
  refine gk_aload_n G dL_setWind_2 0 rfl ?_
  refine gk_iload_n G dL_setWind_3 1 rfl ?_
  refine gk_iload_n G dL_setWind_4 2 rfl ?_
  refine gk_callCV (wr := gw_O cJ o f) (w0 := (gw_O cJ o f ++ (gw_X cI cZ g h1 h2 q q2 u0))) G (c1_setWind_no l D cI cZ cJ g h1 h2 q u0.1.1 u0.1.2 q2 u0.2.1 u0.2.2 M hl9 p0 p1 wf hr hb) gL_setWind_X1_setWind rfl 2 (by decide +kernel) rfl rfl ⟨(Nat.le_of_ble_eq_true rfl), (Nat.le_of_ble_eq_true rfl)⟩ rfl (q0 := 0) rfl (T := TX1) (N := 2) rfl gn_ok hE.1 [] ⟨0, 10, 13, 21⟩ [⟨0, 10, 17, 13⟩] htb (fun _ h9 => nomatch h9) rfl (by decide) (G.2.2.2.2.1 (.classLink RL 21 "java/lang/IndexOutOfBoundsException") (List.mem_cons_of_mem _ (List.mem_append_left _ (List.mem_append_left _ (List.mem_append_left _ (List.mem_append_left _ (List.mem_of_getElem? (i := 0) rfl))))))) (gl_cIOB hE.1) [1, 2, 3, 4, 5, 6, 7, 8, 9, 10, 11, 12, 13, 14, 15, 16, 17, 18, 19, 20, 21] rfl (by decide) [0] rfl (by decide) (by decide) [0, 1, 2, 3, 4, 5, 6, 7, 8, 9, 10, 11, 12, 13, 14, 15, 16, 17, 18, 19, 20, 21] rfl (by decide) rfl (Nat.le_of_ble_eq_true rfl) dL_setWind_5 ⟨(Nat.le_of_ble_eq_true rfl), (Nat.le_of_ble_eq_true rfl)⟩ (fun x5 => ?_)
  show gk_C p l e ({ frames := 7, cells := 1, slots := 6, locals := 113 } : Room) s m ([.ref g, .int p0, .int p1, .ref o] : List Value).toArray below meth c 5 D A Q (0 + 1) (0 + 6) (gw_O cJ o f ++ (gw_X cI cZ g h1 h2 q q2 u0)) [(0, .ref g), (1, .int p0), (2, .int p1), (3, .ref o)] 13 [.ref x5]
  refine gk_astore (lv' := [(4, .ref x5), (0, .ref g), (1, .int p0), (2, .int p1), (3, .ref o)]) G dL_setWind_13 (by decide) rfl ?_
  refine gk_iconst (v := nI 1) G dL_setWind_15 (by decide) ?_
  exact RET _ _ _ _ _ _ (f, u0) dL_setWind_16 rfl ⟨rfl, hr⟩ rfl (Nat.le_of_ble_eq_true rfl) (Nat.le_of_ble_eq_true rfl)
set_option maxRecDepth 100000 in
set_option maxHeartbeats 1000000 in
theorem cl_setWind_no2 (l : Launch) (D : va_G) (cI cZ cJ : ClassId) (o : Nat) (f : Nat → Int64) (g h1 h2 : Nat) (q q2 : Nat → Nat) (u0 : gw_U) (M : gm_M) (hl9 : l.stackTraces = false) (v : Nat) (p1 : Int32) (wf : gm_wf M) (hr : gc_rep u0.1.1 u0.1.2 M) (hv : v < 12) (hb : ¬ gm_rg p1 0 21) : gk_I l yL_setWind wsL_setWind ({ frames := 7, cells := 1, slots := 6, locals := 113 } : Room) D (g_T cI cZ cJ) gl_F [.ref g, .int (nI v), .int p1, .ref o] (gw_O cJ o f ++ (gw_X cI cZ g h1 h2 q q2 u0)) 1 6 (fun (r : Int32) (u : (Nat → Int64) × gw_U) => r = nI 2 ∧ gc_rep u.2.1.1 u.2.1.2 M) (fun u => (gw_O cJ o u.1 ++ (gw_X cI cZ g h1 h2 q q2 u.2))) := by
  refine gk_IH_of (ty := .int) (cc := cL_setWind) (nL := 5) (by decide +kernel) rfl (Nat.le_of_ble_eq_true rfl) ?_
  intro p e s m below meth c A Q htb hE G RET
  refine gk_aload_n G dL_setWind_0 3 rfl ?_
  refine gk_iconst (v := nI 0) G dL_setWind_1 (by decide) ?_
  refine gk_aload_n G dL_setWind_2 0 rfl ?_
  refine gk_iload_n G dL_setWind_3 1 rfl ?_
  refine gk_iload_n G dL_setWind_4 2 rfl ?_
  refine gk_callCV (wr := gw_O cJ o f) (w0 := (gw_O cJ o f ++ (gw_X cI cZ g h1 h2 q q2 u0))) G (c1_setWind_no2 l D cI cZ cJ g h1 h2 q u0.1.1 u0.1.2 q2 u0.2.1 u0.2.2 M hl9 v p1 wf hr hv hb) gL_setWind_X1_setWind rfl 2 (by decide +kernel) rfl rfl ⟨(Nat.le_of_ble_eq_true rfl), (Nat.le_of_ble_eq_true rfl)⟩ rfl (q0 := 0) rfl (T := TX1) (N := 2) rfl gn_ok hE.1 [⟨0, 10, 13, 21⟩] ⟨0, 10, 17, 13⟩ [] htb (fun z hz => by obtain rfl := List.mem_singleton.mp hz; exact Or.inr ⟨by decide, _, (G.2.2.2.2.1 (.classLink RL 21 "java/lang/IndexOutOfBoundsException") (List.mem_cons_of_mem _ (List.mem_append_left _ (List.mem_append_left _ (List.mem_append_left _ (List.mem_append_left _ (List.mem_of_getElem? (i := 0) rfl))))))), hE.2 _ (List.mem_of_getElem? (i := 4) rfl)⟩) rfl (by decide) (G.2.2.2.2.1 (.classLink RL 13 "java/lang/IllegalArgumentException") (List.mem_cons_of_mem _ (List.mem_append_left _ (List.mem_append_left _ (List.mem_append_left _ (List.mem_append_left _ (List.mem_of_getElem? (i := 1) rfl))))))) (gl_cIAE hE.1) [1, 2, 3, 4, 5, 6, 7, 8, 9, 10, 11, 12, 13, 14, 15, 16, 17, 18, 19, 20, 21] rfl (by decide) [0] rfl (by decide) (by decide) [0, 1, 2, 3, 4, 5, 6, 7, 8, 9, 10, 11, 12, 13, 14, 15, 16, 17, 18, 19, 20, 21] rfl (by decide) rfl (Nat.le_of_ble_eq_true rfl) dL_setWind_5 ⟨(Nat.le_of_ble_eq_true rfl), (Nat.le_of_ble_eq_true rfl)⟩ (fun x5 => ?_)
  show gk_C p l e ({ frames := 7, cells := 1, slots := 6, locals := 113 } : Room) s m ([.ref g, .int (nI v), .int p1, .ref o] : List Value).toArray below meth c 5 D A Q (0 + 1) (0 + 6) (gw_O cJ o f ++ (gw_X cI cZ g h1 h2 q q2 u0)) [(0, .ref g), (1, .int (nI v)), (2, .int p1), (3, .ref o)] 17 [.ref x5]
  refine gk_astore (lv' := [(4, .ref x5), (0, .ref g), (1, .int (nI v)), (2, .int p1), (3, .ref o)]) G dL_setWind_17 (by decide) rfl ?_
  refine gk_iconst (v := nI 2) G dL_setWind_19 (by decide) ?_
  exact RET _ _ _ _ _ _ (f, u0) dL_setWind_20 rfl ⟨rfl, hr⟩ rfl (Nat.le_of_ble_eq_true rfl) (Nat.le_of_ble_eq_true rfl)
set_option maxRecDepth 100000 in
set_option maxHeartbeats 1000000 in
theorem cl_setWind_ok (l : Launch) (D : va_G) (cI cZ cJ : ClassId) (o : Nat) (f : Nat → Int64) (g h1 h2 : Nat) (q q2 : Nat → Nat) (u0 : gw_U) (M : gm_M) (v x : Nat) (wf : gm_wf M) (hr : gc_rep u0.1.1 u0.1.2 M) (hv : v < 12) (hx : x < 21) : gk_I l yL_setWind wsL_setWind ({ frames := 1, cells := 0, slots := 0, locals := 23 } : Room) D (g_T cI cZ cJ) gl_F [.ref g, .int (nI v), .int (nI x), .ref o] (gw_O cJ o f ++ (gw_X cI cZ g h1 h2 q q2 u0)) 0 0 (fun (r : Int32) (u : (Nat → Int64) × gw_U) => r = nI 0 ∧ u.1 0 = (nI (M 0 v)).toInt64 ∧ gc_rep u.2.1.1 u.2.1.2 (gm_set M 0 v x)) (fun u => (gw_O cJ o u.1 ++ (gw_X cI cZ g h1 h2 q q2 u.2))) := by
  refine gk_IH_of (ty := .int) (cc := cL_setWind) (nL := 5) (by decide +kernel) rfl (Nat.le_of_ble_eq_true rfl) ?_
  intro p e s m below meth c A Q htb hE G RET
  refine gk_aload_n G dL_setWind_0 3 rfl ?_
  refine gk_iconst (v := nI 0) G dL_setWind_1 (by decide) ?_
  refine gk_aload_n G dL_setWind_2 0 rfl ?_
  refine gk_iload_n G dL_setWind_3 1 rfl ?_
  refine gk_iload_n G dL_setWind_4 2 rfl ?_
  refine gk_callIV (wr := gw_O cJ o f) G (c1_setWind_ok l D cI cZ cJ g h1 h2 q u0.1.1 u0.1.2 q2 u0.2.1 u0.2.2 M v x wf hr hv hx) gL_setWind_X1_setWind rfl 2 (by decide +kernel) rfl rfl ⟨(Nat.le_of_ble_eq_true rfl), (Nat.le_of_ble_eq_true rfl)⟩ rfl (q0 := 0) rfl (T := TX1) (N := 2) rfl gn_ok hE.1 [1, 2, 3, 4, 5, 6, 7, 8, 9, 10, 11, 12, 13, 14, 15, 16, 17, 18, 19, 20, 21] rfl (by decide) [0] rfl (by decide) (by decide) rfl (Nat.le_of_ble_eq_true rfl) dL_setWind_5 ⟨(Nat.le_of_ble_eq_true rfl), (Nat.le_of_ble_eq_true rfl)⟩ (fun r5 u5 hp5 => ?_)
  show gk_C p l e ({ frames := 1, cells := 0, slots := 0, locals := 23 } : Room) s m ([.ref g, .int (nI v), .int (nI x), .ref o] : List Value).toArray below meth c 5 D A Q 0 0 (gw_O cJ o f ++ (gw_X cI cZ g h1 h2 q q2 u5)) [(0, .ref g), (1, .int (nI v)), (2, .int (nI x)), (3, .ref o)] 8 [.int r5, .int (nI 0), .ref o]
  refine gk_i2l (v := (r5).toInt64) G dL_setWind_8 rfl ?_
  refine gk_last (w' := (gw_O cJ o (vp_updL f 0 ((r5).toInt64)) ++ (gw_X cI cZ g h1 h2 q q2 u5))) G (q0 := 0) (t0 := 2) rfl rfl 0 rfl (by decide) (by decide) rfl dL_setWind_9 ?_
  refine gk_goto (tgt := 21) G dL_setWind_10 (by decide) ?_
  refine gk_iconst (v := nI 0) G dL_setWind_21 (by decide) ?_
  exact RET _ _ _ _ _ _ (vp_updL f 0 ((r5).toInt64), u5) dL_setWind_22 rfl ⟨rfl, (gw_o0 f ((r5).toInt64)).trans (congrArg Int32.toInt64 hp5.1), hp5.2⟩ rfl (Nat.le_of_ble_eq_true rfl) (Nat.le_of_ble_eq_true rfl)
set_option maxRecDepth 100000 in
set_option maxHeartbeats 1000000 in
theorem cl_setRule_no (l : Launch) (D : va_G) (cI cZ cJ : ClassId) (o : Nat) (f : Nat → Int64) (g h1 h2 : Nat) (q q2 : Nat → Nat) (u0 : gw_U) (M : gm_M) (hl9 : l.stackTraces = false) (p0 : Int32) (wf : gm_wf M) (hr : gc_rep u0.1.1 u0.1.2 M) (hb : ¬ gm_rg p0 0 3) : gk_I l yL_setRule wsL_setRule ({ frames := 8, cells := 1, slots := 6, locals := 132 } : Room) D (g_T cI cZ cJ) gl_F [.ref g, .int p0, .ref o] (gw_O cJ o f ++ (gw_X cI cZ g h1 h2 q q2 u0)) 1 6 (fun (r : Int32) (u : (Nat → Int64) × gw_U) => r = nI 1 ∧ gc_rep u.2.1.1 u.2.1.2 M) (fun u => (gw_O cJ o u.1 ++ (gw_X cI cZ g h1 h2 q q2 u.2))) := by
  refine gk_IH_of (ty := .int) (cc := cL_setRule) (nL := 4) (by decide +kernel) rfl (Nat.le_of_ble_eq_true rfl) ?_
  intro p e s m below meth c A Q htb hE G RET
  refine gk_aload_n G dL_setRule_0 2 rfl ?_
  refine gk_iconst (v := nI 0) G dL_setRule_1 (by decide) ?_
  refine gk_aload_n G dL_setRule_2 0 rfl ?_
  refine gk_iload_n G dL_setRule_3 1 rfl ?_
  refine gk_callCV (wr := gw_O cJ o f) (w0 := (gw_O cJ o f ++ (gw_X cI cZ g h1 h2 q q2 u0))) G (c1_setRule_no l D cI cZ cJ g h1 h2 q u0.1.1 u0.1.2 q2 u0.2.1 u0.2.2 M hl9 p0 wf hr hb) gL_setRule_X1_setRule rfl 1 (by decide +kernel) rfl rfl ⟨(Nat.le_of_ble_eq_true rfl), (Nat.le_of_ble_eq_true rfl)⟩ rfl (q0 := 0) rfl (T := TX1) (N := 2) rfl gn_ok hE.1 [] ⟨0, 9, 12, 13⟩ [] htb (fun _ h9 => nomatch h9) rfl (by decide) (G.2.2.2.2.1 (.classLink RL 13 "java/lang/IllegalArgumentException") (List.mem_cons_of_mem _ (List.mem_append_left _ (List.mem_append_left _ (List.mem_append_left _ (List.mem_of_getElem? (i := 0) rfl)))))) (gl_cIAE hE.1) [1, 2, 3, 4, 5, 6, 7, 8, 9, 10, 11, 12, 13, 14, 15, 16, 17, 18, 19, 20, 21] rfl (by decide) [0] rfl (by decide) (by decide) [0, 1, 2, 3, 4, 5, 6, 7, 8, 9, 10, 11, 12, 13, 14, 15, 16, 17, 18, 19, 20, 21] rfl (by decide) rfl (Nat.le_of_ble_eq_true rfl) dL_setRule_4 ⟨(Nat.le_of_ble_eq_true rfl), (Nat.le_of_ble_eq_true rfl)⟩ (fun x4 => ?_)
  show gk_C p l e ({ frames := 8, cells := 1, slots := 6, locals := 132 } : Room) s m ([.ref g, .int p0, .ref o] : List Value).toArray below meth c 4 D A Q (0 + 1) (0 + 6) (gw_O cJ o f ++ (gw_X cI cZ g h1 h2 q q2 u0)) [(0, .ref g), (1, .int p0), (2, .ref o)] 12 [.ref x4]
  refine gk_astore_n (lv' := [(3, .ref x4), (0, .ref g), (1, .int p0), (2, .ref o)]) G dL_setRule_12 rfl (by decide) rfl ?_
  refine gk_iconst (v := nI 1) G dL_setRule_13 (by decide) ?_
  exact RET _ _ _ _ _ _ (f, u0) dL_setRule_14 rfl ⟨rfl, hr⟩ rfl (Nat.le_of_ble_eq_true rfl) (Nat.le_of_ble_eq_true rfl)
set_option maxRecDepth 100000 in
set_option maxHeartbeats 1000000 in
theorem cl_setRule_ok (l : Launch) (D : va_G) (cI cZ cJ : ClassId) (o : Nat) (f : Nat → Int64) (g h1 h2 : Nat) (q q2 : Nat → Nat) (u0 : gw_U) (M : gm_M) (v : Nat) (wf : gm_wf M) (hr : gc_rep u0.1.1 u0.1.2 M) (hv : v < 3) : gk_I l yL_setRule wsL_setRule ({ frames := 2, cells := 0, slots := 0, locals := 42 } : Room) D (g_T cI cZ cJ) gl_F [.ref g, .int (nI v), .ref o] (gw_O cJ o f ++ (gw_X cI cZ g h1 h2 q q2 u0)) 0 0 (fun (r : Int32) (u : (Nat → Int64) × gw_U) => r = nI 0 ∧ u.1 0 = (nI (M 14 0)).toInt64 ∧ gc_rep u.2.1.1 u.2.1.2 (gm_set M 14 0 v)) (fun u => (gw_O cJ o u.1 ++ (gw_X cI cZ g h1 h2 q q2 u.2))) := by
  refine gk_IH_of (ty := .int) (cc := cL_setRule) (nL := 4) (by decide +kernel) rfl (Nat.le_of_ble_eq_true rfl) ?_
  intro p e s m below meth c A Q htb hE G RET
  refine gk_aload_n G dL_setRule_0 2 rfl ?_
  refine gk_iconst (v := nI 0) G dL_setRule_1 (by decide) ?_
  refine gk_aload_n G dL_setRule_2 0 rfl ?_
  refine gk_iload_n G dL_setRule_3 1 rfl ?_
  refine gk_callIV (wr := gw_O cJ o f) G (c1_setRule_ok l D cI cZ cJ g h1 h2 q u0.1.1 u0.1.2 q2 u0.2.1 u0.2.2 M v wf hr hv) gL_setRule_X1_setRule rfl 1 (by decide +kernel) rfl rfl ⟨(Nat.le_of_ble_eq_true rfl), (Nat.le_of_ble_eq_true rfl)⟩ rfl (q0 := 0) rfl (T := TX1) (N := 2) rfl gn_ok hE.1 [1, 2, 3, 4, 5, 6, 7, 8, 9, 10, 11, 12, 13, 14, 15, 16, 17, 18, 19, 20, 21] rfl (by decide) [0] rfl (by decide) (by decide) rfl (Nat.le_of_ble_eq_true rfl) dL_setRule_4 ⟨(Nat.le_of_ble_eq_true rfl), (Nat.le_of_ble_eq_true rfl)⟩ (fun r4 u4 hp4 => ?_)
  show gk_C p l e ({ frames := 2, cells := 0, slots := 0, locals := 42 } : Room) s m ([.ref g, .int (nI v), .ref o] : List Value).toArray below meth c 4 D A Q 0 0 (gw_O cJ o f ++ (gw_X cI cZ g h1 h2 q q2 u4)) [(0, .ref g), (1, .int (nI v)), (2, .ref o)] 7 [.int r4, .int (nI 0), .ref o]
  refine gk_i2l (v := (r4).toInt64) G dL_setRule_7 rfl ?_
  refine gk_last (w' := (gw_O cJ o (vp_updL f 0 ((r4).toInt64)) ++ (gw_X cI cZ g h1 h2 q q2 u4))) G (q0 := 0) (t0 := 2) rfl rfl 0 rfl (by decide) (by decide) rfl dL_setRule_8 ?_
  refine gk_goto (tgt := 15) G dL_setRule_9 (by decide) ?_
  refine gk_iconst (v := nI 0) G dL_setRule_15 (by decide) ?_
  exact RET _ _ _ _ _ _ (vp_updL f 0 ((r4).toInt64), u4) dL_setRule_16 rfl ⟨rfl, (gw_o0 f ((r4).toInt64)).trans (congrArg Int32.toInt64 hp4.1), hp4.2⟩ rfl (Nat.le_of_ble_eq_true rfl) (Nat.le_of_ble_eq_true rfl)
set_option maxRecDepth 100000 in
set_option maxHeartbeats 1000000 in
theorem cl_bring_no1 (l : Launch) (D : va_G) (cI cZ cJ : ClassId) (o : Nat) (f : Nat → Int64) (g h1 h2 : Nat) (q q2 : Nat → Nat) (u0 : gw_U) (M : gm_M) (hl9 : l.stackTraces = false) (p0 p1 p2 : Int32) (wf : gm_wf M) (hr : gc_rep u0.1.1 u0.1.2 M) (hb : ¬ gm_rg p0 0 8) : gk_I l yL_bring wsL_bring ({ frames := 8, cells := 1, slots := 6, locals := 133 } : Room) D (g_T cI cZ cJ) gl_F [.ref g, .int p0, .int p1, .int p2, .ref o] (gw_O cJ o f ++ (gw_X cI cZ g h1 h2 q q2 u0)) 1 6 (fun (r : Int32) (u : (Nat → Int64) × gw_U) => r = nI 1 ∧ gc_rep u.2.1.1 u.2.1.2 M) (fun u => (gw_O cJ o u.1 ++ (gw_X cI cZ g h1 h2 q q2 u.2))) := by
  refine gk_IH_of (ty := .int) (cc := cL_bring) (nL := 6) (by decide +kernel) rfl (Nat.le_of_ble_eq_true rfl) ?_
  intro p e s m below meth c A Q htb hE G RET
  refine gk_aload G dL_bring_0 4 rfl ?_
  refine gk_iconst (v := nI 0) G dL_bring_2 (by decide) ?_
  refine gk_aload_n G dL_bring_3 0 rfl ?_
  refine gk_iload_n G dL_bring_4 1 rfl ?_
  refine gk_iload_n G dL_bring_5 2 rfl ?_
  refine gk_iload_n G dL_bring_6 3 rfl ?_
  refine gk_callCV (wr := gw_O cJ o f) (w0 := (gw_O cJ o f ++ (gw_X cI cZ g h1 h2 q q2 u0))) G (c1_bring_no1 l D cI cZ cJ g h1 h2 q u0.1.1 u0.1.2 q2 u0.2.1 u0.2.2 M hl9 p0 p1 p2 wf hr hb) gL_bring_X1_bring rfl 3 (by decide +kernel) rfl rfl ⟨(Nat.le_of_ble_eq_true rfl), (Nat.le_of_ble_eq_true rfl)⟩ rfl (q0 := 0) rfl (T := TX1) (N := 2) rfl gn_ok hE.1 [] ⟨0, 12, 15, 13⟩ [⟨0, 12, 19, 15⟩] htb (fun _ h9 => nomatch h9) rfl (by decide) (G.2.2.2.2.1 (.classLink RL 13 "java/lang/IllegalArgumentException") (List.mem_cons_of_mem _ (List.mem_append_left _ (List.mem_append_left _ (List.mem_append_left _ (List.mem_append_left _ (List.mem_append_left _ (List.mem_of_getElem? (i := 0) rfl)))))))) (gl_cIAE hE.1) [1, 2, 3, 4, 5, 6, 7, 8, 9, 10, 11, 12, 13, 14, 15, 16, 17, 18, 19, 20, 21] rfl (by decide) [0] rfl (by decide) (by decide) [0, 1, 2, 3, 4, 5, 6, 7, 8, 9, 10, 11, 12, 13, 14, 15, 16, 17, 18, 19, 20, 21] rfl (by decide) rfl (Nat.le_of_ble_eq_true rfl) dL_bring_7 ⟨(Nat.le_of_ble_eq_true rfl), (Nat.le_of_ble_eq_true rfl)⟩ (fun x7 => ?_)
  show gk_C p l e ({ frames := 8, cells := 1, slots := 6, locals := 133 } : Room) s m ([.ref g, .int p0, .int p1, .int p2, .ref o] : List Value).toArray below meth c 6 D A Q (0 + 1) (0 + 6) (gw_O cJ o f ++ (gw_X cI cZ g h1 h2 q q2 u0)) [(0, .ref g), (1, .int p0), (2, .int p1), (3, .int p2), (4, .ref o)] 15 [.ref x7]
  refine gk_astore (lv' := [(5, .ref x7), (0, .ref g), (1, .int p0), (2, .int p1), (3, .int p2), (4, .ref o)]) G dL_bring_15 (by decide) rfl ?_
  refine gk_iconst (v := nI 1) G dL_bring_17 (by decide) ?_
  exact RET _ _ _ _ _ _ (f, u0) dL_bring_18 rfl ⟨rfl, hr⟩ rfl (Nat.le_of_ble_eq_true rfl) (Nat.le_of_ble_eq_true rfl)
set_option maxRecDepth 100000 in
set_option maxHeartbeats 1000000 in
theorem cl_bring_no2 (l : Launch) (D : va_G) (cI cZ cJ : ClassId) (o : Nat) (f : Nat → Int64) (g h1 h2 : Nat) (q q2 : Nat → Nat) (u0 : gw_U) (M : gm_M) (hl9 : l.stackTraces = false) (vb : Nat) (p1 p2 : Int32) (wf : gm_wf M) (hr : gc_rep u0.1.1 u0.1.2 M) (hb0 : vb < 8) (hb : ¬ gm_rg p1 1 61) : gk_I l yL_bring wsL_bring ({ frames := 8, cells := 1, slots := 6, locals := 133 } : Room) D (g_T cI cZ cJ) gl_F [.ref g, .int (nI vb), .int p1, .int p2, .ref o] (gw_O cJ o f ++ (gw_X cI cZ g h1 h2 q q2 u0)) 1 6 (fun (r : Int32) (u : (Nat → Int64) × gw_U) => r = nI 1 ∧ gc_rep u.2.1.1 u.2.1.2 M) (fun u => (gw_O cJ o u.1 ++ (gw_X cI cZ g h1 h2 q q2 u.2))) := by
  refine gk_IH_of (ty := .int) (cc := cL_bring) (nL := 6) (by decide +kernel) rfl (Nat.le_of_ble_eq_true rfl) ?_
  intro p e s m below meth c A Q htb hE G RET
  refine gk_aload G dL_bring_0 4 rfl ?_
  refine gk_iconst (v := nI 0) G dL_bring_2 (by decide) ?_
  refine gk_aload_n G dL_bring_3 0 rfl ?_
  refine gk_iload_n G dL_bring_4 1 rfl ?_
  refine gk_iload_n G dL_bring_5 2 rfl ?_
  refine gk_iload_n G dL_bring_6 3 rfl ?_
  refine gk_callCV (wr := gw_O cJ o f) (w0 := (gw_O cJ o f ++ (gw_X cI cZ g h1 h2 q q2 u0))) G (c1_bring_no2 l D cI cZ cJ g h1 h2 q u0.1.1 u0.1.2 q2 u0.2.1 u0.2.2 M hl9 vb p1 p2 wf hr hb0 hb) gL_bring_X1_bring rfl 3 (by decide +kernel) rfl rfl ⟨(Nat.le_of_ble_eq_true rfl), (Nat.le_of_ble_eq_true rfl)⟩ rfl (q0 := 0) rfl (T := TX1) (N := 2) rfl gn_ok hE.1 [] ⟨0, 12, 15, 13⟩ [⟨0, 12, 19, 15⟩] htb (fun _ h9 => nomatch h9) rfl (by decide) (G.2.2.2.2.1 (.classLink RL 13 "java/lang/IllegalArgumentException") (List.mem_cons_of_mem _ (List.mem_append_left _ (List.mem_append_left _ (List.mem_append_left _ (List.mem_append_left _ (List.mem_append_left _ (List.mem_of_getElem? (i := 0) rfl)))))))) (gl_cIAE hE.1) [1, 2, 3, 4, 5, 6, 7, 8, 9, 10, 11, 12, 13, 14, 15, 16, 17, 18, 19, 20, 21] rfl (by decide) [0] rfl (by decide) (by decide) [0, 1, 2, 3, 4, 5, 6, 7, 8, 9, 10, 11, 12, 13, 14, 15, 16, 17, 18, 19, 20, 21] rfl (by decide) rfl (Nat.le_of_ble_eq_true rfl) dL_bring_7 ⟨(Nat.le_of_ble_eq_true rfl), (Nat.le_of_ble_eq_true rfl)⟩ (fun x7 => ?_)
  show gk_C p l e ({ frames := 8, cells := 1, slots := 6, locals := 133 } : Room) s m ([.ref g, .int (nI vb), .int p1, .int p2, .ref o] : List Value).toArray below meth c 6 D A Q (0 + 1) (0 + 6) (gw_O cJ o f ++ (gw_X cI cZ g h1 h2 q q2 u0)) [(0, .ref g), (1, .int (nI vb)), (2, .int p1), (3, .int p2), (4, .ref o)] 15 [.ref x7]
  refine gk_astore (lv' := [(5, .ref x7), (0, .ref g), (1, .int (nI vb)), (2, .int p1), (3, .int p2), (4, .ref o)]) G dL_bring_15 (by decide) rfl ?_
  refine gk_iconst (v := nI 1) G dL_bring_17 (by decide) ?_
  exact RET _ _ _ _ _ _ (f, u0) dL_bring_18 rfl ⟨rfl, hr⟩ rfl (Nat.le_of_ble_eq_true rfl) (Nat.le_of_ble_eq_true rfl)
set_option maxRecDepth 100000 in
set_option maxHeartbeats 1000000 in
theorem cl_bring_no3 (l : Launch) (D : va_G) (cI cZ cJ : ClassId) (o : Nat) (f : Nat → Int64) (g h1 h2 : Nat) (q q2 : Nat → Nat) (u0 : gw_U) (M : gm_M) (hl9 : l.stackTraces = false) (vb vg : Nat) (p2 : Int32) (wf : gm_wf M) (hr : gc_rep u0.1.1 u0.1.2 M) (hb0 : vb < 8) (hg0 : 1 ≤ vg) (hg1 : vg < 61) (hb : ¬ gm_rg p2 1 201) : gk_I l yL_bring wsL_bring ({ frames := 8, cells := 1, slots := 6, locals := 133 } : Room) D (g_T cI cZ cJ) gl_F [.ref g, .int (nI vb), .int (nI vg), .int p2, .ref o] (gw_O cJ o f ++ (gw_X cI cZ g h1 h2 q q2 u0)) 1 6 (fun (r : Int32) (u : (Nat → Int64) × gw_U) => r = nI 1 ∧ gc_rep u.2.1.1 u.2.1.2 M) (fun u => (gw_O cJ o u.1 ++ (gw_X cI cZ g h1 h2 q q2 u.2))) := by
  refine gk_IH_of (ty := .int) (cc := cL_bring) (nL := 6) (by decide +kernel) rfl (Nat.le_of_ble_eq_true rfl) ?_
  intro p e s m below meth c A Q htb hE G RET
  refine gk_aload G dL_bring_0 4 rfl ?_
  refine gk_iconst (v := nI 0) G dL_bring_2 (by decide) ?_
  refine gk_aload_n G dL_bring_3 0 rfl ?_
  refine gk_iload_n G dL_bring_4 1 rfl ?_
  refine gk_iload_n G dL_bring_5 2 rfl ?_
  refine gk_iload_n G dL_bring_6 3 rfl ?_
  refine gk_callCV (wr := gw_O cJ o f) (w0 := (gw_O cJ o f ++ (gw_X cI cZ g h1 h2 q q2 u0))) G (c1_bring_no3 l D cI cZ cJ g h1 h2 q u0.1.1 u0.1.2 q2 u0.2.1 u0.2.2 M hl9 vb vg p2 wf hr hb0 hg0 hg1 hb) gL_bring_X1_bring rfl 3 (by decide +kernel) rfl rfl ⟨(Nat.le_of_ble_eq_true rfl), (Nat.le_of_ble_eq_true rfl)⟩ rfl (q0 := 0) rfl (T := TX1) (N := 2) rfl gn_ok hE.1 [] ⟨0, 12, 15, 13⟩ [⟨0, 12, 19, 15⟩] htb (fun _ h9 => nomatch h9) rfl (by decide) (G.2.2.2.2.1 (.classLink RL 13 "java/lang/IllegalArgumentException") (List.mem_cons_of_mem _ (List.mem_append_left _ (List.mem_append_left _ (List.mem_append_left _ (List.mem_append_left _ (List.mem_append_left _ (List.mem_of_getElem? (i := 0) rfl)))))))) (gl_cIAE hE.1) [1, 2, 3, 4, 5, 6, 7, 8, 9, 10, 11, 12, 13, 14, 15, 16, 17, 18, 19, 20, 21] rfl (by decide) [0] rfl (by decide) (by decide) [0, 1, 2, 3, 4, 5, 6, 7, 8, 9, 10, 11, 12, 13, 14, 15, 16, 17, 18, 19, 20, 21] rfl (by decide) rfl (Nat.le_of_ble_eq_true rfl) dL_bring_7 ⟨(Nat.le_of_ble_eq_true rfl), (Nat.le_of_ble_eq_true rfl)⟩ (fun x7 => ?_)
  show gk_C p l e ({ frames := 8, cells := 1, slots := 6, locals := 133 } : Room) s m ([.ref g, .int (nI vb), .int (nI vg), .int p2, .ref o] : List Value).toArray below meth c 6 D A Q (0 + 1) (0 + 6) (gw_O cJ o f ++ (gw_X cI cZ g h1 h2 q q2 u0)) [(0, .ref g), (1, .int (nI vb)), (2, .int (nI vg)), (3, .int p2), (4, .ref o)] 15 [.ref x7]
  refine gk_astore (lv' := [(5, .ref x7), (0, .ref g), (1, .int (nI vb)), (2, .int (nI vg)), (3, .int p2), (4, .ref o)]) G dL_bring_15 (by decide) rfl ?_
  refine gk_iconst (v := nI 1) G dL_bring_17 (by decide) ?_
  exact RET _ _ _ _ _ _ (f, u0) dL_bring_18 rfl ⟨rfl, hr⟩ rfl (Nat.le_of_ble_eq_true rfl) (Nat.le_of_ble_eq_true rfl)
set_option maxRecDepth 100000 in
set_option maxHeartbeats 1000000 in
theorem cl_bring_full (l : Launch) (D : va_G) (cI cZ cJ : ClassId) (o : Nat) (f : Nat → Int64) (g h1 h2 : Nat) (q q2 : Nat → Nat) (u0 : gw_U) (M : gm_M) (hl9 : l.stackTraces = false) (vb vg vt : Nat) (wf : gm_wf M) (hr : gc_rep u0.1.1 u0.1.2 M) (hb0 : vb < 8) (hg0 : 1 ≤ vg) (hg1 : vg < 61) (ht0 : 1 ≤ vt) (ht1 : vt < 201) (h16 : M 11 0 = 16) : gk_I l yL_bring wsL_bring ({ frames := 7, cells := 1, slots := 6, locals := 113 } : Room) D (g_T cI cZ cJ) gl_F [.ref g, .int (nI vb), .int (nI vg), .int (nI vt), .ref o] (gw_O cJ o f ++ (gw_X cI cZ g h1 h2 q q2 u0)) 1 6 (fun (r : Int32) (u : (Nat → Int64) × gw_U) => r = nI 2 ∧ gc_rep u.2.1.1 u.2.1.2 M) (fun u => (gw_O cJ o u.1 ++ (gw_X cI cZ g h1 h2 q q2 u.2))) := by
  refine gk_IH_of (ty := .int) (cc := cL_bring) (nL := 6) (by decide +kernel) rfl (Nat.le_of_ble_eq_true rfl) ?_
  intro p e s m below meth c A Q htb hE G RET
  refine gk_aload G dL_bring_0 4 rfl ?_
  refine gk_iconst (v := nI 0) G dL_bring_2 (by decide) ?_
  refine gk_aload_n G dL_bring_3 0 rfl ?_
  refine gk_iload_n G dL_bring_4 1 rfl ?_
  refine gk_iload_n G dL_bring_5 2 rfl ?_
  refine gk_iload_n G dL_bring_6 3 rfl ?_
  refine gk_callCV (wr := gw_O cJ o f) (w0 := (gw_O cJ o f ++ (gw_X cI cZ g h1 h2 q q2 u0))) G (c1_bring_full l D cI cZ cJ g h1 h2 q u0.1.1 u0.1.2 q2 u0.2.1 u0.2.2 M hl9 vb vg vt wf hr hb0 hg0 hg1 ht0 ht1 h16) gL_bring_X1_bring rfl 3 (by decide +kernel) rfl rfl ⟨(Nat.le_of_ble_eq_true rfl), (Nat.le_of_ble_eq_true rfl)⟩ rfl (q0 := 0) rfl (T := TX1) (N := 2) rfl gn_ok hE.1 [⟨0, 12, 15, 13⟩] ⟨0, 12, 19, 15⟩ [] htb (fun z hz => by obtain rfl := List.mem_singleton.mp hz; exact Or.inr ⟨by decide, _, (G.2.2.2.2.1 (.classLink RL 13 "java/lang/IllegalArgumentException") (List.mem_cons_of_mem _ (List.mem_append_left _ (List.mem_append_left _ (List.mem_append_left _ (List.mem_append_left _ (List.mem_append_left _ (List.mem_of_getElem? (i := 0) rfl)))))))), hE.2 _ (List.mem_of_getElem? (i := 0) rfl)⟩) rfl (by decide) (G.2.2.2.2.1 (.classLink RL 15 "java/lang/IllegalStateException") (List.mem_cons_of_mem _ (List.mem_append_left _ (List.mem_append_left _ (List.mem_append_left _ (List.mem_append_left _ (List.mem_append_left _ (List.mem_of_getElem? (i := 1) rfl)))))))) (gl_cISE hE.1) [1, 2, 3, 4, 5, 6, 7, 8, 9, 10, 11, 12, 13, 14, 15, 16, 17, 18, 19, 20, 21] rfl (by decide) [0] rfl (by decide) (by decide) [0, 1, 2, 3, 4, 5, 6, 7, 8, 9, 10, 11, 12, 13, 14, 15, 16, 17, 18, 19, 20, 21] rfl (by decide) rfl (Nat.le_of_ble_eq_true rfl) dL_bring_7 ⟨(Nat.le_of_ble_eq_true rfl), (Nat.le_of_ble_eq_true rfl)⟩ (fun x7 => ?_)
  show gk_C p l e ({ frames := 7, cells := 1, slots := 6, locals := 113 } : Room) s m ([.ref g, .int (nI vb), .int (nI vg), .int (nI vt), .ref o] : List Value).toArray below meth c 6 D A Q (0 + 1) (0 + 6) (gw_O cJ o f ++ (gw_X cI cZ g h1 h2 q q2 u0)) [(0, .ref g), (1, .int (nI vb)), (2, .int (nI vg)), (3, .int (nI vt)), (4, .ref o)] 19 [.ref x7]
  refine gk_astore (lv' := [(5, .ref x7), (0, .ref g), (1, .int (nI vb)), (2, .int (nI vg)), (3, .int (nI vt)), (4, .ref o)]) G dL_bring_19 (by decide) rfl ?_
  refine gk_iconst (v := nI 2) G dL_bring_21 (by decide) ?_
  exact RET _ _ _ _ _ _ (f, u0) dL_bring_22 rfl ⟨rfl, hr⟩ rfl (Nat.le_of_ble_eq_true rfl) (Nat.le_of_ble_eq_true rfl)
set_option maxRecDepth 100000 in
set_option maxHeartbeats 1000000 in
theorem cl_bring_ok (l : Launch) (D : va_G) (cI cZ cJ : ClassId) (o : Nat) (f : Nat → Int64) (g h1 h2 : Nat) (q q2 : Nat → Nat) (u0 : gw_U) (M : gm_M) (vb vg vt : Nat) (wf : gm_wf M) (hr : gc_rep u0.1.1 u0.1.2 M) (hb0 : vb < 8) (hg0 : 1 ≤ vg) (hg1 : vg < 61) (ht0 : 1 ≤ vt) (ht1 : vt < 201) (h16 : M 11 0 < 16) : gk_I l yL_bring wsL_bring ({ frames := 2, cells := 0, slots := 0, locals := 47 } : Room) D (g_T cI cZ cJ) gl_F [.ref g, .int (nI vb), .int (nI vg), .int (nI vt), .ref o] (gw_O cJ o f ++ (gw_X cI cZ g h1 h2 q q2 u0)) 0 0 (fun (r : Int32) (u : (Nat → Int64) × gw_U) => r = nI 0 ∧ u.1 0 = (nI (M 11 0)).toInt64 ∧ gc_rep u.2.1.1 u.2.1.2 (gm_add M vb vg vt)) (fun u => (gw_O cJ o u.1 ++ (gw_X cI cZ g h1 h2 q q2 u.2))) := by
  refine gk_IH_of (ty := .int) (cc := cL_bring) (nL := 6) (by decide +kernel) rfl (Nat.le_of_ble_eq_true rfl) ?_
  intro p e s m below meth c A Q htb hE G RET
  refine gk_aload G dL_bring_0 4 rfl ?_
  refine gk_iconst (v := nI 0) G dL_bring_2 (by decide) ?_
  refine gk_aload_n G dL_bring_3 0 rfl ?_
  refine gk_iload_n G dL_bring_4 1 rfl ?_
  refine gk_iload_n G dL_bring_5 2 rfl ?_
  refine gk_iload_n G dL_bring_6 3 rfl ?_
  refine gk_callIV (wr := gw_O cJ o f) G (c1_bring_ok l D cI cZ cJ g h1 h2 q u0.1.1 u0.1.2 q2 u0.2.1 u0.2.2 M vb vg vt wf hr hb0 hg0 hg1 ht0 ht1 h16) gL_bring_X1_bring rfl 3 (by decide +kernel) rfl rfl ⟨(Nat.le_of_ble_eq_true rfl), (Nat.le_of_ble_eq_true rfl)⟩ rfl (q0 := 0) rfl (T := TX1) (N := 2) rfl gn_ok hE.1 [1, 2, 3, 4, 5, 6, 7, 8, 9, 10, 11, 12, 13, 14, 15, 16, 17, 18, 19, 20, 21] rfl (by decide) [0] rfl (by decide) (by decide) rfl (Nat.le_of_ble_eq_true rfl) dL_bring_7 ⟨(Nat.le_of_ble_eq_true rfl), (Nat.le_of_ble_eq_true rfl)⟩ (fun r7 u7 hp7 => ?_)
  show gk_C p l e ({ frames := 2, cells := 0, slots := 0, locals := 47 } : Room) s m ([.ref g, .int (nI vb), .int (nI vg), .int (nI vt), .ref o] : List Value).toArray below meth c 6 D A Q 0 0 (gw_O cJ o f ++ (gw_X cI cZ g h1 h2 q q2 u7)) [(0, .ref g), (1, .int (nI vb)), (2, .int (nI vg)), (3, .int (nI vt)), (4, .ref o)] 10 [.int r7, .int (nI 0), .ref o]
  refine gk_i2l (v := (r7).toInt64) G dL_bring_10 rfl ?_
  refine gk_last (w' := (gw_O cJ o (vp_updL f 0 ((r7).toInt64)) ++ (gw_X cI cZ g h1 h2 q q2 u7))) G (q0 := 0) (t0 := 2) rfl rfl 0 rfl (by decide) (by decide) rfl dL_bring_11 ?_
  refine gk_goto (tgt := 23) G dL_bring_12 (by decide) ?_
  refine gk_iconst (v := nI 0) G dL_bring_23 (by decide) ?_
  exact RET _ _ _ _ _ _ (vp_updL f 0 ((r7).toInt64), u7) dL_bring_24 rfl ⟨rfl, (gw_o0 f ((r7).toInt64)).trans (congrArg Int32.toInt64 hp7.1), hp7.2⟩ rfl (Nat.le_of_ble_eq_true rfl) (Nat.le_of_ble_eq_true rfl)
set_option maxRecDepth 100000 in
set_option maxHeartbeats 1000000 in
theorem cl_lift_no (l : Launch) (D : va_G) (cI cZ cJ : ClassId) (o : Nat) (f : Nat → Int64) (g h1 h2 : Nat) (q q2 : Nat → Nat) (u0 : gw_U) (M : gm_M) (hl9 : l.stackTraces = false) (p0 : Int32) (wf : gm_wf M) (hr : gc_rep u0.1.1 u0.1.2 M) (hb : ¬ gm_rg p0 0 (M 11 0)) : gk_I l yL_lift wsL_lift ({ frames := 8, cells := 1, slots := 6, locals := 133 } : Room) D (g_T cI cZ cJ) gl_F [.ref g, .int p0, .ref o] (gw_O cJ o f ++ (gw_X cI cZ g h1 h2 q q2 u0)) 1 6 (fun (r : Int32) (u : (Nat → Int64) × gw_U) => r = nI 1 ∧ gc_rep u.2.1.1 u.2.1.2 M) (fun u => (gw_O cJ o u.1 ++ (gw_X cI cZ g h1 h2 q q2 u.2))) := by
  refine gk_IH_of (ty := .int) (cc := cL_lift) (nL := 4) (by decide +kernel) rfl (Nat.le_of_ble_eq_true rfl) ?_
  intro p e s m below meth c A Q htb hE G RET
  refine gk_aload_n G dL_lift_0 2 rfl ?_
  refine gk_iconst (v := nI 0) G dL_lift_1 (by decide) ?_
  refine gk_aload_n G dL_lift_2 0 rfl ?_
  refine gk_iload_n G dL_lift_3 1 rfl ?_
  refine gk_callCV (wr := gw_O cJ o f) (w0 := (gw_O cJ o f ++ (gw_X cI cZ g h1 h2 q q2 u0))) G (c1_lift_no l D cI cZ cJ g h1 h2 q u0.1.1 u0.1.2 q2 u0.2.1 u0.2.2 M hl9 p0 wf hr hb) gL_lift_X1_lift rfl 1 (by decide +kernel) rfl rfl ⟨(Nat.le_of_ble_eq_true rfl), (Nat.le_of_ble_eq_true rfl)⟩ rfl (q0 := 0) rfl (T := TX1) (N := 2) rfl gn_ok hE.1 [] ⟨0, 9, 12, 21⟩ [⟨0, 9, 15, 15⟩] htb (fun _ h9 => nomatch h9) rfl (by decide) (G.2.2.2.2.1 (.classLink RL 21 "java/lang/IndexOutOfBoundsException") (List.mem_cons_of_mem _ (List.mem_append_left _ (List.mem_append_left _ (List.mem_append_left _ (List.mem_append_left _ (List.mem_of_getElem? (i := 0) rfl))))))) (gl_cIOB hE.1) [1, 2, 3, 4, 5, 6, 7, 8, 9, 10, 11, 12, 13, 14, 15, 16, 17, 18, 19, 20, 21] rfl (by decide) [0] rfl (by decide) (by decide) [0, 1, 2, 3, 4, 5, 6, 7, 8, 9, 10, 11, 12, 13, 14, 15, 16, 17, 18, 19, 20, 21] rfl (by decide) rfl (Nat.le_of_ble_eq_true rfl) dL_lift_4 ⟨(Nat.le_of_ble_eq_true rfl), (Nat.le_of_ble_eq_true rfl)⟩ (fun x4 => ?_)
  show gk_C p l e ({ frames := 8, cells := 1, slots := 6, locals := 133 } : Room) s m ([.ref g, .int p0, .ref o] : List Value).toArray below meth c 4 D A Q (0 + 1) (0 + 6) (gw_O cJ o f ++ (gw_X cI cZ g h1 h2 q q2 u0)) [(0, .ref g), (1, .int p0), (2, .ref o)] 12 [.ref x4]
  refine gk_astore_n (lv' := [(3, .ref x4), (0, .ref g), (1, .int p0), (2, .ref o)]) G dL_lift_12 rfl (by decide) rfl ?_
  refine gk_iconst (v := nI 1) G dL_lift_13 (by decide) ?_
  exact RET _ _ _ _ _ _ (f, u0) dL_lift_14 rfl ⟨rfl, hr⟩ rfl (Nat.le_of_ble_eq_true rfl) (Nat.le_of_ble_eq_true rfl)
set_option maxRecDepth 100000 in
set_option maxHeartbeats 1000000 in
theorem cl_lift_none (l : Launch) (D : va_G) (cI cZ cJ : ClassId) (o : Nat) (f : Nat → Int64) (g h1 h2 : Nat) (q q2 : Nat → Nat) (u0 : gw_U) (M : gm_M) (hl9 : l.stackTraces = false) (v : Nat) (wf : gm_wf M) (hr : gc_rep u0.1.1 u0.1.2 M) (hv : v < M 11 0) (h0 : M 7 v = 0) : gk_I l yL_lift wsL_lift ({ frames := 7, cells := 1, slots := 6, locals := 112 } : Room) D (g_T cI cZ cJ) gl_F [.ref g, .int (nI v), .ref o] (gw_O cJ o f ++ (gw_X cI cZ g h1 h2 q q2 u0)) 1 6 (fun (r : Int32) (u : (Nat → Int64) × gw_U) => r = nI 2 ∧ gc_rep u.2.1.1 u.2.1.2 M) (fun u => (gw_O cJ o u.1 ++ (gw_X cI cZ g h1 h2 q q2 u.2))) := by
  refine gk_IH_of (ty := .int) (cc := cL_lift) (nL := 4) (by decide +kernel) rfl (Nat.le_of_ble_eq_true rfl) ?_
  intro p e s m below meth c A Q htb hE G RET
  refine gk_aload_n G dL_lift_0 2 rfl ?_
  refine gk_iconst (v := nI 0) G dL_lift_1 (by decide) ?_
  refine gk_aload_n G dL_lift_2 0 rfl ?_
  refine gk_iload_n G dL_lift_3 1 rfl ?_
  refine gk_callCV (wr := gw_O cJ o f) (w0 := (gw_O cJ o f ++ (gw_X cI cZ g h1 h2 q q2 u0))) G (c1_lift_none l D cI cZ cJ g h1 h2 q u0.1.1 u0.1.2 q2 u0.2.1 u0.2.2 M hl9 v wf hr hv h0) gL_lift_X1_lift rfl 1 (by decide +kernel) rfl rfl ⟨(Nat.le_of_ble_eq_true rfl), (Nat.le_of_ble_eq_true rfl)⟩ rfl (q0 := 0) rfl (T := TX1) (N := 2) rfl gn_ok hE.1 [⟨0, 9, 12, 21⟩] ⟨0, 9, 15, 15⟩ [] htb (fun z hz => by obtain rfl := List.mem_singleton.mp hz; exact Or.inr ⟨by decide, _, (G.2.2.2.2.1 (.classLink RL 21 "java/lang/IndexOutOfBoundsException") (List.mem_cons_of_mem _ (List.mem_append_left _ (List.mem_append_left _ (List.mem_append_left _ (List.mem_append_left _ (List.mem_of_getElem? (i := 0) rfl))))))), hE.2 _ (List.mem_of_getElem? (i := 5) rfl)⟩) rfl (by decide) (G.2.2.2.2.1 (.classLink RL 15 "java/lang/IllegalStateException") (List.mem_cons_of_mem _ (List.mem_append_left _ (List.mem_append_left _ (List.mem_append_left _ (List.mem_append_left _ (List.mem_of_getElem? (i := 1) rfl))))))) (gl_cISE hE.1) [1, 2, 3, 4, 5, 6, 7, 8, 9, 10, 11, 12, 13, 14, 15, 16, 17, 18, 19, 20, 21] rfl (by decide) [0] rfl (by decide) (by decide) [0, 1, 2, 3, 4, 5, 6, 7, 8, 9, 10, 11, 12, 13, 14, 15, 16, 17, 18, 19, 20, 21] rfl (by decide) rfl (Nat.le_of_ble_eq_true rfl) dL_lift_4 ⟨(Nat.le_of_ble_eq_true rfl), (Nat.le_of_ble_eq_true rfl)⟩ (fun x4 => ?_)
  show gk_C p l e ({ frames := 7, cells := 1, slots := 6, locals := 112 } : Room) s m ([.ref g, .int (nI v), .ref o] : List Value).toArray below meth c 4 D A Q (0 + 1) (0 + 6) (gw_O cJ o f ++ (gw_X cI cZ g h1 h2 q q2 u0)) [(0, .ref g), (1, .int (nI v)), (2, .ref o)] 15 [.ref x4]
  refine gk_astore_n (lv' := [(3, .ref x4), (0, .ref g), (1, .int (nI v)), (2, .ref o)]) G dL_lift_15 rfl (by decide) rfl ?_
  refine gk_iconst (v := nI 2) G dL_lift_16 (by decide) ?_
  exact RET _ _ _ _ _ _ (f, u0) dL_lift_17 rfl ⟨rfl, hr⟩ rfl (Nat.le_of_ble_eq_true rfl) (Nat.le_of_ble_eq_true rfl)
set_option maxRecDepth 100000 in
set_option maxHeartbeats 1000000 in
theorem cl_lift_ok (l : Launch) (D : va_G) (cI cZ cJ : ClassId) (o : Nat) (f : Nat → Int64) (g h1 h2 : Nat) (q q2 : Nat → Nat) (u0 : gw_U) (M : gm_M) (v : Nat) (wf : gm_wf M) (hr : gc_rep u0.1.1 u0.1.2 M) (hv : v < M 11 0) (h0 : M 7 v ≠ 0) : gk_I l yL_lift wsL_lift ({ frames := 2, cells := 0, slots := 0, locals := 44 } : Room) D (g_T cI cZ cJ) gl_F [.ref g, .int (nI v), .ref o] (gw_O cJ o f ++ (gw_X cI cZ g h1 h2 q q2 u0)) 0 0 (fun (r : Int32) (u : (Nat → Int64) × gw_U) => r = nI 0 ∧ u.1 0 = (gm_e (M 7 v)).toInt64 ∧ gc_rep u.2.1.1 u.2.1.2 (gm_set M 7 v 0)) (fun u => (gw_O cJ o u.1 ++ (gw_X cI cZ g h1 h2 q q2 u.2))) := by
  refine gk_IH_of (ty := .int) (cc := cL_lift) (nL := 4) (by decide +kernel) rfl (Nat.le_of_ble_eq_true rfl) ?_
  intro p e s m below meth c A Q htb hE G RET
  refine gk_aload_n G dL_lift_0 2 rfl ?_
  refine gk_iconst (v := nI 0) G dL_lift_1 (by decide) ?_
  refine gk_aload_n G dL_lift_2 0 rfl ?_
  refine gk_iload_n G dL_lift_3 1 rfl ?_
  refine gk_callIV (wr := gw_O cJ o f) G (c1_lift_ok l D cI cZ cJ g h1 h2 q u0.1.1 u0.1.2 q2 u0.2.1 u0.2.2 M v wf hr hv h0) gL_lift_X1_lift rfl 1 (by decide +kernel) rfl rfl ⟨(Nat.le_of_ble_eq_true rfl), (Nat.le_of_ble_eq_true rfl)⟩ rfl (q0 := 0) rfl (T := TX1) (N := 2) rfl gn_ok hE.1 [1, 2, 3, 4, 5, 6, 7, 8, 9, 10, 11, 12, 13, 14, 15, 16, 17, 18, 19, 20, 21] rfl (by decide) [0] rfl (by decide) (by decide) rfl (Nat.le_of_ble_eq_true rfl) dL_lift_4 ⟨(Nat.le_of_ble_eq_true rfl), (Nat.le_of_ble_eq_true rfl)⟩ (fun r4 u4 hp4 => ?_)
  show gk_C p l e ({ frames := 2, cells := 0, slots := 0, locals := 44 } : Room) s m ([.ref g, .int (nI v), .ref o] : List Value).toArray below meth c 4 D A Q 0 0 (gw_O cJ o f ++ (gw_X cI cZ g h1 h2 q q2 u4)) [(0, .ref g), (1, .int (nI v)), (2, .ref o)] 7 [.int r4, .int (nI 0), .ref o]
  refine gk_i2l (v := (r4).toInt64) G dL_lift_7 rfl ?_
  refine gk_last (w' := (gw_O cJ o (vp_updL f 0 ((r4).toInt64)) ++ (gw_X cI cZ g h1 h2 q q2 u4))) G (q0 := 0) (t0 := 2) rfl rfl 0 rfl (by decide) (by decide) rfl dL_lift_8 ?_
  refine gk_goto (tgt := 18) G dL_lift_9 (by decide) ?_
  refine gk_iconst (v := nI 0) G dL_lift_18 (by decide) ?_
  exact RET _ _ _ _ _ _ (vp_updL f 0 ((r4).toInt64), u4) dL_lift_19 rfl ⟨rfl, (gw_o0 f ((r4).toInt64)).trans (congrArg Int32.toInt64 hp4.1), hp4.2⟩ rfl (Nat.le_of_ble_eq_true rfl) (Nat.le_of_ble_eq_true rfl)
set_option maxRecDepth 100000 in
set_option maxHeartbeats 1000000 in
theorem cl_setUntil_no (l : Launch) (D : va_G) (cI cZ cJ : ClassId) (o : Nat) (f : Nat → Int64) (g h1 h2 : Nat) (q q2 : Nat → Nat) (u0 : gw_U) (M : gm_M) (hl9 : l.stackTraces = false) (p0 p1 : Int32) (wf : gm_wf M) (hr : gc_rep u0.1.1 u0.1.2 M) (hb : ¬ gm_rg p0 0 (M 11 0)) : gk_I l yL_setUntil wsL_setUntil ({ frames := 8, cells := 1, slots := 6, locals := 134 } : Room) D (g_T cI cZ cJ) gl_F [.ref g, .int p0, .int p1, .ref o] (gw_O cJ o f ++ (gw_X cI cZ g h1 h2 q q2 u0)) 1 6 (fun (r : Int32) (u : (Nat → Int64) × gw_U) => r = nI 1 ∧ gc_rep u.2.1.1 u.2.1.2 M) (fun u => (gw_O cJ o u.1 ++ (gw_X cI cZ g h1 h2 q q2 u.2))) := by
  refine gk_IH_of (ty := .int) (cc := cL_setUntil) (nL := 5) (by decide +kernel) rfl (Nat.le_of_ble_eq_true rfl) ?_
  intro p e s m below meth c A Q htb hE G RET
  refine gk_aload_n G dL_setUntil_0 3 rfl ?_
  refine gk_iconst (v := nI 0) G dL_setUntil_1 (by decide) ?_
  refine gk_aload_n G dL_setUntil_2 0 rfl ?_
  refine gk_iload_n G dL_setUntil_3 1 rfl ?_
  refine gk_iload_n G dL_setUntil_4 2 rfl ?_
  refine gk_callCV (wr := gw_O cJ o f) (w0 := (gw_O cJ o f ++ (gw_X cI cZ g h1 h2 q q2 u0))) G (c1_setUntil_no l D cI cZ cJ g h1 h2 q u0.1.1 u0.1.2 q2 u0.2.1 u0.2.2 M hl9 p0 p1 wf hr hb) gL_setUntil_X1_setUntil rfl 2 (by decide +kernel) rfl rfl ⟨(Nat.le_of_ble_eq_true rfl), (Nat.le_of_ble_eq_true rfl)⟩ rfl (q0 := 0) rfl (T := TX1) (N := 2) rfl gn_ok hE.1 [] ⟨0, 10, 13, 21⟩ [⟨0, 10, 17, 13⟩] htb (fun _ h9 => nomatch h9) rfl (by decide) (G.2.2.2.2.1 (.classLink RL 21 "java/lang/IndexOutOfBoundsException") (List.mem_cons_of_mem _ (List.mem_append_left _ (List.mem_append_left _ (List.mem_append_left _ (List.mem_append_left _ (List.mem_of_getElem? (i := 0) rfl))))))) (gl_cIOB hE.1) [1, 2, 3, 4, 5, 6, 7, 8, 9, 10, 11, 12, 13, 14, 15, 16, 17, 18, 19, 20, 21] rfl (by decide) [0] rfl (by decide) (by decide) [0, 1, 2, 3, 4, 5, 6, 7, 8, 9, 10, 11, 12, 13, 14, 15, 16, 17, 18, 19, 20, 21] rfl (by decide) rfl (Nat.le_of_ble_eq_true rfl) dL_setUntil_5 ⟨(Nat.le_of_ble_eq_true rfl), (Nat.le_of_ble_eq_true rfl)⟩ (fun x5 => ?_)
  show gk_C p l e ({ frames := 8, cells := 1, slots := 6, locals := 134 } : Room) s m ([.ref g, .int p0, .int p1, .ref o] : List Value).toArray below meth c 5 D A Q (0 + 1) (0 + 6) (gw_O cJ o f ++ (gw_X cI cZ g h1 h2 q q2 u0)) [(0, .ref g), (1, .int p0), (2, .int p1), (3, .ref o)] 13 [.ref x5]
  refine gk_astore (lv' := [(4, .ref x5), (0, .ref g), (1, .int p0), (2, .int p1), (3, .ref o)]) G dL_setUntil_13 (by decide) rfl ?_
  refine gk_iconst (v := nI 1) G dL_setUntil_15 (by decide) ?_
  exact RET _ _ _ _ _ _ (f, u0) dL_setUntil_16 rfl ⟨rfl, hr⟩ rfl (Nat.le_of_ble_eq_true rfl) (Nat.le_of_ble_eq_true rfl)
set_option maxRecDepth 100000 in
set_option maxHeartbeats 1000000 in
theorem cl_setUntil_no2 (l : Launch) (D : va_G) (cI cZ cJ : ClassId) (o : Nat) (f : Nat → Int64) (g h1 h2 : Nat) (q q2 : Nat → Nat) (u0 : gw_U) (M : gm_M) (hl9 : l.stackTraces = false) (v : Nat) (p1 : Int32) (wf : gm_wf M) (hr : gc_rep u0.1.1 u0.1.2 M) (hv : v < M 11 0) (hb : ¬ gm_rg p1 1 201) : gk_I l yL_setUntil wsL_setUntil ({ frames := 8, cells := 1, slots := 6, locals := 133 } : Room) D (g_T cI cZ cJ) gl_F [.ref g, .int (nI v), .int p1, .ref o] (gw_O cJ o f ++ (gw_X cI cZ g h1 h2 q q2 u0)) 1 6 (fun (r : Int32) (u : (Nat → Int64) × gw_U) => r = nI 2 ∧ gc_rep u.2.1.1 u.2.1.2 M) (fun u => (gw_O cJ o u.1 ++ (gw_X cI cZ g h1 h2 q q2 u.2))) := by
  refine gk_IH_of (ty := .int) (cc := cL_setUntil) (nL := 5) (by decide +kernel) rfl (Nat.le_of_ble_eq_true rfl) ?_
  intro p e s m below meth c A Q htb hE G RET
  refine gk_aload_n G dL_setUntil_0 3 rfl ?_
  refine gk_iconst (v := nI 0) G dL_setUntil_1 (by decide) ?_
  refine gk_aload_n G dL_setUntil_2 0 rfl ?_
  refine gk_iload_n G dL_setUntil_3 1 rfl ?_
  refine gk_iload_n G dL_setUntil_4 2 rfl ?_
  refine gk_callCV (wr := gw_O cJ o f) (w0 := (gw_O cJ o f ++ (gw_X cI cZ g h1 h2 q q2 u0))) G (c1_setUntil_no2 l D cI cZ cJ g h1 h2 q u0.1.1 u0.1.2 q2 u0.2.1 u0.2.2 M hl9 v p1 wf hr hv hb) gL_setUntil_X1_setUntil rfl 2 (by decide +kernel) rfl rfl ⟨(Nat.le_of_ble_eq_true rfl), (Nat.le_of_ble_eq_true rfl)⟩ rfl (q0 := 0) rfl (T := TX1) (N := 2) rfl gn_ok hE.1 [⟨0, 10, 13, 21⟩] ⟨0, 10, 17, 13⟩ [] htb (fun z hz => by obtain rfl := List.mem_singleton.mp hz; exact Or.inr ⟨by decide, _, (G.2.2.2.2.1 (.classLink RL 21 "java/lang/IndexOutOfBoundsException") (List.mem_cons_of_mem _ (List.mem_append_left _ (List.mem_append_left _ (List.mem_append_left _ (List.mem_append_left _ (List.mem_of_getElem? (i := 0) rfl))))))), hE.2 _ (List.mem_of_getElem? (i := 4) rfl)⟩) rfl (by decide) (G.2.2.2.2.1 (.classLink RL 13 "java/lang/IllegalArgumentException") (List.mem_cons_of_mem _ (List.mem_append_left _ (List.mem_append_left _ (List.mem_append_left _ (List.mem_append_left _ (List.mem_of_getElem? (i := 1) rfl))))))) (gl_cIAE hE.1) [1, 2, 3, 4, 5, 6, 7, 8, 9, 10, 11, 12, 13, 14, 15, 16, 17, 18, 19, 20, 21] rfl (by decide) [0] rfl (by decide) (by decide) [0, 1, 2, 3, 4, 5, 6, 7, 8, 9, 10, 11, 12, 13, 14, 15, 16, 17, 18, 19, 20, 21] rfl (by decide) rfl (Nat.le_of_ble_eq_true rfl) dL_setUntil_5 ⟨(Nat.le_of_ble_eq_true rfl), (Nat.le_of_ble_eq_true rfl)⟩ (fun x5 => ?_)
  show gk_C p l e ({ frames := 8, cells := 1, slots := 6, locals := 133 } : Room) s m ([.ref g, .int (nI v), .int p1, .ref o] : List Value).toArray below meth c 5 D A Q (0 + 1) (0 + 6) (gw_O cJ o f ++ (gw_X cI cZ g h1 h2 q q2 u0)) [(0, .ref g), (1, .int (nI v)), (2, .int p1), (3, .ref o)] 17 [.ref x5]
  refine gk_astore (lv' := [(4, .ref x5), (0, .ref g), (1, .int (nI v)), (2, .int p1), (3, .ref o)]) G dL_setUntil_17 (by decide) rfl ?_
  refine gk_iconst (v := nI 2) G dL_setUntil_19 (by decide) ?_
  exact RET _ _ _ _ _ _ (f, u0) dL_setUntil_20 rfl ⟨rfl, hr⟩ rfl (Nat.le_of_ble_eq_true rfl) (Nat.le_of_ble_eq_true rfl)
set_option maxRecDepth 100000 in
set_option maxHeartbeats 1000000 in
theorem cl_setUntil_ok (l : Launch) (D : va_G) (cI cZ cJ : ClassId) (o : Nat) (f : Nat → Int64) (g h1 h2 : Nat) (q q2 : Nat → Nat) (u0 : gw_U) (M : gm_M) (v x : Nat) (wf : gm_wf M) (hr : gc_rep u0.1.1 u0.1.2 M) (hv : v < M 11 0) (hx0 : 1 ≤ x) (hx : x < 201) : gk_I l yL_setUntil wsL_setUntil ({ frames := 2, cells := 0, slots := 0, locals := 44 } : Room) D (g_T cI cZ cJ) gl_F [.ref g, .int (nI v), .int (nI x), .ref o] (gw_O cJ o f ++ (gw_X cI cZ g h1 h2 q q2 u0)) 0 0 (fun (r : Int32) (u : (Nat → Int64) × gw_U) => r = nI 0 ∧ u.1 0 = (nI (M 6 v)).toInt64 ∧ gc_rep u.2.1.1 u.2.1.2 (gm_set M 6 v x)) (fun u => (gw_O cJ o u.1 ++ (gw_X cI cZ g h1 h2 q q2 u.2))) := by
  refine gk_IH_of (ty := .int) (cc := cL_setUntil) (nL := 5) (by decide +kernel) rfl (Nat.le_of_ble_eq_true rfl) ?_
  intro p e s m below meth c A Q htb hE G RET
  refine gk_aload_n G dL_setUntil_0 3 rfl ?_
  refine gk_iconst (v := nI 0) G dL_setUntil_1 (by decide) ?_
  refine gk_aload_n G dL_setUntil_2 0 rfl ?_
  refine gk_iload_n G dL_setUntil_3 1 rfl ?_
  refine gk_iload_n G dL_setUntil_4 2 rfl ?_
  refine gk_callIV (wr := gw_O cJ o f) G (c1_setUntil_ok l D cI cZ cJ g h1 h2 q u0.1.1 u0.1.2 q2 u0.2.1 u0.2.2 M v x wf hr hv hx0 hx) gL_setUntil_X1_setUntil rfl 2 (by decide +kernel) rfl rfl ⟨(Nat.le_of_ble_eq_true rfl), (Nat.le_of_ble_eq_true rfl)⟩ rfl (q0 := 0) rfl (T := TX1) (N := 2) rfl gn_ok hE.1 [1, 2, 3, 4, 5, 6, 7, 8, 9, 10, 11, 12, 13, 14, 15, 16, 17, 18, 19, 20, 21] rfl (by decide) [0] rfl (by decide) (by decide) rfl (Nat.le_of_ble_eq_true rfl) dL_setUntil_5 ⟨(Nat.le_of_ble_eq_true rfl), (Nat.le_of_ble_eq_true rfl)⟩ (fun r5 u5 hp5 => ?_)
  show gk_C p l e ({ frames := 2, cells := 0, slots := 0, locals := 44 } : Room) s m ([.ref g, .int (nI v), .int (nI x), .ref o] : List Value).toArray below meth c 5 D A Q 0 0 (gw_O cJ o f ++ (gw_X cI cZ g h1 h2 q q2 u5)) [(0, .ref g), (1, .int (nI v)), (2, .int (nI x)), (3, .ref o)] 8 [.int r5, .int (nI 0), .ref o]
  refine gk_i2l (v := (r5).toInt64) G dL_setUntil_8 rfl ?_
  refine gk_last (w' := (gw_O cJ o (vp_updL f 0 ((r5).toInt64)) ++ (gw_X cI cZ g h1 h2 q q2 u5))) G (q0 := 0) (t0 := 2) rfl rfl 0 rfl (by decide) (by decide) rfl dL_setUntil_9 ?_
  refine gk_goto (tgt := 21) G dL_setUntil_10 (by decide) ?_
  refine gk_iconst (v := nI 0) G dL_setUntil_21 (by decide) ?_
  exact RET _ _ _ _ _ _ (vp_updL f 0 ((r5).toInt64), u5) dL_setUntil_22 rfl ⟨rfl, (gw_o0 f ((r5).toInt64)).trans (congrArg Int32.toInt64 hp5.1), hp5.2⟩ rfl (Nat.le_of_ble_eq_true rfl) (Nat.le_of_ble_eq_true rfl)
set_option maxRecDepth 100000 in
set_option maxHeartbeats 1000000 in
theorem cl_pass_no (l : Launch) (D : va_G) (cI cZ cJ : ClassId) (o : Nat) (f : Nat → Int64) (g h1 h2 : Nat) (q q2 : Nat → Nat) (u0 : gw_U) (M : gm_M) (hl9 : l.stackTraces = false) (p0 : Int32) (wf : gm_wf M) (hr : gc_rep u0.1.1 u0.1.2 M) (hb : ¬ gm_rg p0 1 61) : gk_I l yL_pass wsL_pass ({ frames := 8, cells := 1, slots := 6, locals := 131 } : Room) D (g_T cI cZ cJ) gl_F [.ref g, .int p0, .ref o] (gw_O cJ o f ++ (gw_X cI cZ g h1 h2 q q2 u0)) 1 6 (fun (r : Int32) (u : (Nat → Int64) × gw_U) => r = nI 1 ∧ gc_rep u.2.1.1 u.2.1.2 M) (fun u => (gw_O cJ o u.1 ++ (gw_X cI cZ g h1 h2 q q2 u.2))) := by
  refine gk_IH_of (ty := .int) (cc := cL_pass) (nL := 4) (by decide +kernel) rfl (Nat.le_of_ble_eq_true rfl) ?_
  intro p e s m below meth c A Q htb hE G RET
  refine gk_aload_n G dL_pass_0 2 rfl ?_
  refine gk_iconst (v := nI 0) G dL_pass_1 (by decide) ?_
  refine gk_aload_n G dL_pass_2 0 rfl ?_
  refine gk_iload_n G dL_pass_3 1 rfl ?_
  refine gk_callCV (wr := gw_O cJ o f) (w0 := (gw_O cJ o f ++ (gw_X cI cZ g h1 h2 q q2 u0))) G (c1_pass_no l D cI cZ cJ g h1 h2 q u0.1.1 u0.1.2 q2 u0.2.1 u0.2.2 M hl9 p0 wf hr hb) gL_pass_X1_pass rfl 1 (by decide +kernel) rfl rfl ⟨(Nat.le_of_ble_eq_true rfl), (Nat.le_of_ble_eq_true rfl)⟩ rfl (q0 := 0) rfl (T := TX1) (N := 2) rfl gn_ok hE.1 [] ⟨0, 9, 12, 13⟩ [] htb (fun _ h9 => nomatch h9) rfl (by decide) (G.2.2.2.2.1 (.classLink RL 13 "java/lang/IllegalArgumentException") (List.mem_cons_of_mem _ (List.mem_append_left _ (List.mem_append_left _ (List.mem_append_left _ (List.mem_append_left _ (List.mem_of_getElem? (i := 0) rfl))))))) (gl_cIAE hE.1) [1, 2, 3, 4, 5, 6, 7, 8, 9, 10, 11, 12, 13, 14, 15, 16, 17, 18, 19, 20, 21] rfl (by decide) [0] rfl (by decide) (by decide) [0, 1, 2, 3, 4, 5, 6, 7, 8, 9, 10, 11, 12, 13, 14, 15, 16, 17, 18, 19, 20, 21] rfl (by decide) rfl (Nat.le_of_ble_eq_true rfl) dL_pass_4 ⟨(Nat.le_of_ble_eq_true rfl), (Nat.le_of_ble_eq_true rfl)⟩ (fun x4 => ?_)
  show gk_C p l e ({ frames := 8, cells := 1, slots := 6, locals := 131 } : Room) s m ([.ref g, .int p0, .ref o] : List Value).toArray below meth c 4 D A Q (0 + 1) (0 + 6) (gw_O cJ o f ++ (gw_X cI cZ g h1 h2 q q2 u0)) [(0, .ref g), (1, .int p0), (2, .ref o)] 12 [.ref x4]
  refine gk_astore_n (lv' := [(3, .ref x4), (0, .ref g), (1, .int p0), (2, .ref o)]) G dL_pass_12 rfl (by decide) rfl ?_
  refine gk_iconst (v := nI 1) G dL_pass_13 (by decide) ?_
  exact RET _ _ _ _ _ _ (f, u0) dL_pass_14 rfl ⟨rfl, hr⟩ rfl (Nat.le_of_ble_eq_true rfl) (Nat.le_of_ble_eq_true rfl)
set_option maxRecDepth 100000 in
set_option maxHeartbeats 1000000 in
theorem cl_pass_ok (l : Launch) (D : va_G) (cI cZ cJ : ClassId) (o : Nat) (f : Nat → Int64) (g h1 h2 : Nat) (q q2 : Nat → Nat) (u0 : gw_U) (M : gm_M) (v : Nat) (wf : gm_wf M) (hr : gc_rep u0.1.1 u0.1.2 M) (hrest : gm_rest M) (hh : M 9 0 < 1999000) (hv0 : 1 ≤ v) (hv : v < 61) : gk_I l yL_pass wsL_pass ({ frames := 5, cells := 0, slots := 0, locals := 114 } : Room) D (g_T cI cZ cJ) gl_F [.ref g, .int (nI v), .ref o] (gw_O cJ o f ++ (gw_X cI cZ g h1 h2 q q2 u0)) 0 0 (fun (r : Int32) (u : (Nat → Int64) × gw_U) => r = nI 0 ∧ u.1 0 = (nI (gm_hrs M v 16 0 - M 16 0)).toInt64 ∧ gc_rep u.2.1.1 u.2.1.2 (gm_hrs M v)) (fun u => (gw_O cJ o u.1 ++ (gw_X cI cZ g h1 h2 q q2 u.2))) := by
  refine gk_IH_of (ty := .int) (cc := cL_pass) (nL := 4) (by decide +kernel) rfl (Nat.le_of_ble_eq_true rfl) ?_
  intro p e s m below meth c A Q htb hE G RET
  refine gk_aload_n G dL_pass_0 2 rfl ?_
  refine gk_iconst (v := nI 0) G dL_pass_1 (by decide) ?_
  refine gk_aload_n G dL_pass_2 0 rfl ?_
  refine gk_iload_n G dL_pass_3 1 rfl ?_
  refine gk_callIV (wr := gw_O cJ o f) G (c1_pass_ok l D cI cZ cJ g h1 h2 q u0.1.1 u0.1.2 q2 u0.2.1 u0.2.2 M v wf hr hrest hh hv0 hv) gL_pass_X1_pass rfl 1 (by decide +kernel) rfl rfl ⟨(Nat.le_of_ble_eq_true rfl), (Nat.le_of_ble_eq_true rfl)⟩ rfl (q0 := 0) rfl (T := TX1) (N := 2) rfl gn_ok hE.1 [1, 2, 3, 4, 5, 6, 7, 8, 9, 10, 11, 12, 13, 14, 15, 16, 17, 18, 19, 20, 21] rfl (by decide) [0] rfl (by decide) (by decide) rfl (Nat.le_of_ble_eq_true rfl) dL_pass_4 ⟨(Nat.le_of_ble_eq_true rfl), (Nat.le_of_ble_eq_true rfl)⟩ (fun r4 u4 hp4 => ?_)
  show gk_C p l e ({ frames := 5, cells := 0, slots := 0, locals := 114 } : Room) s m ([.ref g, .int (nI v), .ref o] : List Value).toArray below meth c 4 D A Q 0 0 (gw_O cJ o f ++ (gw_X cI cZ g h1 h2 q q2 u4)) [(0, .ref g), (1, .int (nI v)), (2, .ref o)] 7 [.int r4, .int (nI 0), .ref o]
  refine gk_i2l (v := (r4).toInt64) G dL_pass_7 rfl ?_
  refine gk_last (w' := (gw_O cJ o (vp_updL f 0 ((r4).toInt64)) ++ (gw_X cI cZ g h1 h2 q q2 u4))) G (q0 := 0) (t0 := 2) rfl rfl 0 rfl (by decide) (by decide) rfl dL_pass_8 ?_
  refine gk_goto (tgt := 15) G dL_pass_9 (by decide) ?_
  refine gk_iconst (v := nI 0) G dL_pass_15 (by decide) ?_
  exact RET _ _ _ _ _ _ (vp_updL f 0 ((r4).toInt64), u4) dL_pass_16 rfl ⟨rfl, (gw_o0 f ((r4).toInt64)).trans (congrArg Int32.toInt64 hp4.1), hp4.2⟩ rfl (Nat.le_of_ble_eq_true rfl) (Nat.le_of_ble_eq_true rfl)
set_option maxRecDepth 100000 in
set_option maxHeartbeats 1000000 in
theorem cl_sackOn_no (l : Launch) (D : va_G) (cI cZ cJ : ClassId) (o : Nat) (f : Nat → Int64) (g h1 h2 : Nat) (q q2 : Nat → Nat) (u0 : gw_U) (M : gm_M) (hl9 : l.stackTraces = false) (p0 : Int32) (wf : gm_wf M) (hr : gc_rep u0.1.1 u0.1.2 M) (hb : ¬ gm_rg p0 0 (M 10 0)) : gk_I l yL_sackOn wsL_sackOn ({ frames := 7, cells := 1, slots := 6, locals := 111 } : Room) D (g_T cI cZ cJ) gl_F [.ref g, .int p0, .ref o] (gw_O cJ o f ++ (gw_X cI cZ g h1 h2 q q2 u0)) 1 6 (fun (r : Int32) (u : (Nat → Int64) × gw_U) => r = nI 1 ∧ gc_rep u.2.1.1 u.2.1.2 M) (fun u => (gw_O cJ o u.1 ++ (gw_X cI cZ g h1 h2 q q2 u.2))) := by
  refine gk_IH_of (ty := .int) (cc := cL_sackOn) (nL := 4) (by decide +kernel) rfl (Nat.le_of_ble_eq_true rfl) ?_
  intro p e s m below meth c A Q htb hE G RET
  refine gk_aload_n G dL_sackOn_0 2 rfl ?_
  refine gk_iconst (v := nI 0) G dL_sackOn_1 (by decide) ?_
  refine gk_aload_n G dL_sackOn_2 0 rfl ?_
  refine gk_iload_n G dL_sackOn_3 1 rfl ?_
  refine gk_callCV (wr := gw_O cJ o f) (w0 := (gw_O cJ o f ++ (gw_X cI cZ g h1 h2 q q2 u0))) G (c1_sackOn_no l D cI cZ cJ g h1 h2 q u0.1.1 u0.1.2 q2 u0.2.1 u0.2.2 M hl9 p0 wf hr hb) gL_sackOn_X1_sackOn rfl 1 (by decide +kernel) rfl rfl ⟨(Nat.le_of_ble_eq_true rfl), (Nat.le_of_ble_eq_true rfl)⟩ rfl (q0 := 0) rfl (T := TX1) (N := 2) rfl gn_ok hE.1 [] ⟨0, 9, 12, 21⟩ [] htb (fun _ h9 => nomatch h9) rfl (by decide) (G.2.2.2.2.1 (.classLink RL 21 "java/lang/IndexOutOfBoundsException") (List.mem_cons_of_mem _ (List.mem_append_left _ (List.mem_append_left _ (List.mem_append_left _ (List.mem_of_getElem? (i := 0) rfl)))))) (gl_cIOB hE.1) [1, 2, 3, 4, 5, 6, 7, 8, 9, 10, 11, 12, 13, 14, 15, 16, 17, 18, 19, 20, 21] rfl (by decide) [0] rfl (by decide) (by decide) [0, 1, 2, 3, 4, 5, 6, 7, 8, 9, 10, 11, 12, 13, 14, 15, 16, 17, 18, 19, 20, 21] rfl (by decide) rfl (Nat.le_of_ble_eq_true rfl) dL_sackOn_4 ⟨(Nat.le_of_ble_eq_true rfl), (Nat.le_of_ble_eq_true rfl)⟩ (fun x4 => ?_)
  show gk_C p l e ({ frames := 7, cells := 1, slots := 6, locals := 111 } : Room) s m ([.ref g, .int p0, .ref o] : List Value).toArray below meth c 4 D A Q (0 + 1) (0 + 6) (gw_O cJ o f ++ (gw_X cI cZ g h1 h2 q q2 u0)) [(0, .ref g), (1, .int p0), (2, .ref o)] 12 [.ref x4]
  refine gk_astore_n (lv' := [(3, .ref x4), (0, .ref g), (1, .int p0), (2, .ref o)]) G dL_sackOn_12 rfl (by decide) rfl ?_
  refine gk_iconst (v := nI 1) G dL_sackOn_13 (by decide) ?_
  exact RET _ _ _ _ _ _ (f, u0) dL_sackOn_14 rfl ⟨rfl, hr⟩ rfl (Nat.le_of_ble_eq_true rfl) (Nat.le_of_ble_eq_true rfl)
set_option maxRecDepth 100000 in
set_option maxHeartbeats 1000000 in
theorem cl_sackOn_ok (l : Launch) (D : va_G) (cI cZ cJ : ClassId) (o : Nat) (f : Nat → Int64) (g h1 h2 : Nat) (q q2 : Nat → Nat) (u0 : gw_U) (M : gm_M) (v : Nat) (wf : gm_wf M) (hr : gc_rep u0.1.1 u0.1.2 M) (hv : v < M 10 0) : gk_I l yL_sackOn wsL_sackOn ({ frames := 1, cells := 0, slots := 0, locals := 21 } : Room) D (g_T cI cZ cJ) gl_F [.ref g, .int (nI v), .ref o] (gw_O cJ o f ++ (gw_X cI cZ g h1 h2 q q2 u0)) 0 0 (fun (r : Int32) (u : (Nat → Int64) × gw_U) => r = nI 0 ∧ u.1 0 = (gm_e (gm_who M v (M 11 0))).toInt64 ∧ gc_rep u.2.1.1 u.2.1.2 M) (fun u => (gw_O cJ o u.1 ++ (gw_X cI cZ g h1 h2 q q2 u.2))) := by
  refine gk_IH_of (ty := .int) (cc := cL_sackOn) (nL := 4) (by decide +kernel) rfl (Nat.le_of_ble_eq_true rfl) ?_
  intro p e s m below meth c A Q htb hE G RET
  refine gk_aload_n G dL_sackOn_0 2 rfl ?_
  refine gk_iconst (v := nI 0) G dL_sackOn_1 (by decide) ?_
  refine gk_aload_n G dL_sackOn_2 0 rfl ?_
  refine gk_iload_n G dL_sackOn_3 1 rfl ?_
  refine gk_callIV (wr := gw_O cJ o f) G (c1_sackOn_ok l D cI cZ cJ g h1 h2 q u0.1.1 u0.1.2 q2 u0.2.1 u0.2.2 M v wf hr hv) gL_sackOn_X1_sackOn rfl 1 (by decide +kernel) rfl rfl ⟨(Nat.le_of_ble_eq_true rfl), (Nat.le_of_ble_eq_true rfl)⟩ rfl (q0 := 0) rfl (T := TX1) (N := 2) rfl gn_ok hE.1 [1, 2, 3, 4, 5, 6, 7, 8, 9, 10, 11, 12, 13, 14, 15, 16, 17, 18, 19, 20, 21] rfl (by decide) [0] rfl (by decide) (by decide) rfl (Nat.le_of_ble_eq_true rfl) dL_sackOn_4 ⟨(Nat.le_of_ble_eq_true rfl), (Nat.le_of_ble_eq_true rfl)⟩ (fun r4 u4 hp4 => ?_)
  show gk_C p l e ({ frames := 1, cells := 0, slots := 0, locals := 21 } : Room) s m ([.ref g, .int (nI v), .ref o] : List Value).toArray below meth c 4 D A Q 0 0 (gw_O cJ o f ++ (gw_X cI cZ g h1 h2 q q2 u4)) [(0, .ref g), (1, .int (nI v)), (2, .ref o)] 7 [.int r4, .int (nI 0), .ref o]
  refine gk_i2l (v := (r4).toInt64) G dL_sackOn_7 rfl ?_
  refine gk_last (w' := (gw_O cJ o (vp_updL f 0 ((r4).toInt64)) ++ (gw_X cI cZ g h1 h2 q q2 u4))) G (q0 := 0) (t0 := 2) rfl rfl 0 rfl (by decide) (by decide) rfl dL_sackOn_8 ?_
  refine gk_goto (tgt := 15) G dL_sackOn_9 (by decide) ?_
  refine gk_iconst (v := nI 0) G dL_sackOn_15 (by decide) ?_
  exact RET _ _ _ _ _ _ (vp_updL f 0 ((r4).toInt64), u4) dL_sackOn_16 rfl ⟨rfl, (gw_o0 f ((r4).toInt64)).trans (congrArg Int32.toInt64 hp4.1), hp4.2⟩ rfl (Nat.le_of_ble_eq_true rfl) (Nat.le_of_ble_eq_true rfl)
set_option maxRecDepth 100000 in
set_option maxHeartbeats 1000000 in
theorem cl_stoneOf_no (l : Launch) (D : va_G) (cI cZ cJ : ClassId) (o : Nat) (f : Nat → Int64) (g h1 h2 : Nat) (q q2 : Nat → Nat) (u0 : gw_U) (M : gm_M) (hl9 : l.stackTraces = false) (p0 : Int32) (wf : gm_wf M) (hr : gc_rep u0.1.1 u0.1.2 M) (hb : ¬ gm_rg p0 0 (M 11 0)) : gk_I l yL_stoneOf wsL_stoneOf ({ frames := 8, cells := 1, slots := 6, locals := 132 } : Room) D (g_T cI cZ cJ) gl_F [.ref g, .int p0, .ref o] (gw_O cJ o f ++ (gw_X cI cZ g h1 h2 q q2 u0)) 1 6 (fun (r : Int32) (u : (Nat → Int64) × gw_U) => r = nI 1 ∧ gc_rep u.2.1.1 u.2.1.2 M) (fun u => (gw_O cJ o u.1 ++ (gw_X cI cZ g h1 h2 q q2 u.2))) := by
  refine gk_IH_of (ty := .int) (cc := cL_stoneOf) (nL := 4) (by decide +kernel) rfl (Nat.le_of_ble_eq_true rfl) ?_
  intro p e s m below meth c A Q htb hE G RET
  refine gk_aload_n G dL_stoneOf_0 2 rfl ?_
  refine gk_iconst (v := nI 0) G dL_stoneOf_1 (by decide) ?_
  refine gk_aload_n G dL_stoneOf_2 0 rfl ?_
  refine gk_iload_n G dL_stoneOf_3 1 rfl ?_
  refine gk_callCV (wr := gw_O cJ o f) (w0 := (gw_O cJ o f ++ (gw_X cI cZ g h1 h2 q q2 u0))) G (c1_stoneOf_no l D cI cZ cJ g h1 h2 q u0.1.1 u0.1.2 q2 u0.2.1 u0.2.2 M hl9 p0 wf hr hb) gL_stoneOf_X1_stoneOf rfl 1 (by decide +kernel) rfl rfl ⟨(Nat.le_of_ble_eq_true rfl), (Nat.le_of_ble_eq_true rfl)⟩ rfl (q0 := 0) rfl (T := TX1) (N := 2) rfl gn_ok hE.1 [] ⟨0, 9, 12, 21⟩ [] htb (fun _ h9 => nomatch h9) rfl (by decide) (G.2.2.2.2.1 (.classLink RL 21 "java/lang/IndexOutOfBoundsException") (List.mem_cons_of_mem _ (List.mem_append_left _ (List.mem_append_left _ (List.mem_append_left _ (List.mem_of_getElem? (i := 0) rfl)))))) (gl_cIOB hE.1) [1, 2, 3, 4, 5, 6, 7, 8, 9, 10, 11, 12, 13, 14, 15, 16, 17, 18, 19, 20, 21] rfl (by decide) [0] rfl (by decide) (by decide) [0, 1, 2, 3, 4, 5, 6, 7, 8, 9, 10, 11, 12, 13, 14, 15, 16, 17, 18, 19, 20, 21] rfl (by decide) rfl (Nat.le_of_ble_eq_true rfl) dL_stoneOf_4 ⟨(Nat.le_of_ble_eq_true rfl), (Nat.le_of_ble_eq_true rfl)⟩ (fun x4 => ?_)
  show gk_C p l e ({ frames := 8, cells := 1, slots := 6, locals := 132 } : Room) s m ([.ref g, .int p0, .ref o] : List Value).toArray below meth c 4 D A Q (0 + 1) (0 + 6) (gw_O cJ o f ++ (gw_X cI cZ g h1 h2 q q2 u0)) [(0, .ref g), (1, .int p0), (2, .ref o)] 12 [.ref x4]
  refine gk_astore_n (lv' := [(3, .ref x4), (0, .ref g), (1, .int p0), (2, .ref o)]) G dL_stoneOf_12 rfl (by decide) rfl ?_
  refine gk_iconst (v := nI 1) G dL_stoneOf_13 (by decide) ?_
  exact RET _ _ _ _ _ _ (f, u0) dL_stoneOf_14 rfl ⟨rfl, hr⟩ rfl (Nat.le_of_ble_eq_true rfl) (Nat.le_of_ble_eq_true rfl)
set_option maxRecDepth 100000 in
set_option maxHeartbeats 1000000 in
theorem cl_stoneOf_ok (l : Launch) (D : va_G) (cI cZ cJ : ClassId) (o : Nat) (f : Nat → Int64) (g h1 h2 : Nat) (q q2 : Nat → Nat) (u0 : gw_U) (M : gm_M) (v : Nat) (wf : gm_wf M) (hr : gc_rep u0.1.1 u0.1.2 M) (hv : v < M 11 0) : gk_I l yL_stoneOf wsL_stoneOf ({ frames := 2, cells := 0, slots := 0, locals := 42 } : Room) D (g_T cI cZ cJ) gl_F [.ref g, .int (nI v), .ref o] (gw_O cJ o f ++ (gw_X cI cZ g h1 h2 q q2 u0)) 0 0 (fun (r : Int32) (u : (Nat → Int64) × gw_U) => r = nI 0 ∧ u.1 0 = (gm_e (M 7 v)).toInt64 ∧ gc_rep u.2.1.1 u.2.1.2 M) (fun u => (gw_O cJ o u.1 ++ (gw_X cI cZ g h1 h2 q q2 u.2))) := by
  refine gk_IH_of (ty := .int) (cc := cL_stoneOf) (nL := 4) (by decide +kernel) rfl (Nat.le_of_ble_eq_true rfl) ?_
  intro p e s m below meth c A Q htb hE G RET
  refine gk_aload_n G dL_stoneOf_0 2 rfl ?_
  refine gk_iconst (v := nI 0) G dL_stoneOf_1 (by decide) ?_
  refine gk_aload_n G dL_stoneOf_2 0 rfl ?_
  refine gk_iload_n G dL_stoneOf_3 1 rfl ?_
  refine gk_callIV (wr := gw_O cJ o f) G (c1_stoneOf_ok l D cI cZ cJ g h1 h2 q u0.1.1 u0.1.2 q2 u0.2.1 u0.2.2 M v wf hr hv) gL_stoneOf_X1_stoneOf rfl 1 (by decide +kernel) rfl rfl ⟨(Nat.le_of_ble_eq_true rfl), (Nat.le_of_ble_eq_true rfl)⟩ rfl (q0 := 0) rfl (T := TX1) (N := 2) rfl gn_ok hE.1 [1, 2, 3, 4, 5, 6, 7, 8, 9, 10, 11, 12, 13, 14, 15, 16, 17, 18, 19, 20, 21] rfl (by decide) [0] rfl (by decide) (by decide) rfl (Nat.le_of_ble_eq_true rfl) dL_stoneOf_4 ⟨(Nat.le_of_ble_eq_true rfl), (Nat.le_of_ble_eq_true rfl)⟩ (fun r4 u4 hp4 => ?_)
  show gk_C p l e ({ frames := 2, cells := 0, slots := 0, locals := 42 } : Room) s m ([.ref g, .int (nI v), .ref o] : List Value).toArray below meth c 4 D A Q 0 0 (gw_O cJ o f ++ (gw_X cI cZ g h1 h2 q q2 u4)) [(0, .ref g), (1, .int (nI v)), (2, .ref o)] 7 [.int r4, .int (nI 0), .ref o]
  refine gk_i2l (v := (r4).toInt64) G dL_stoneOf_7 rfl ?_
  refine gk_last (w' := (gw_O cJ o (vp_updL f 0 ((r4).toInt64)) ++ (gw_X cI cZ g h1 h2 q q2 u4))) G (q0 := 0) (t0 := 2) rfl rfl 0 rfl (by decide) (by decide) rfl dL_stoneOf_8 ?_
  refine gk_goto (tgt := 15) G dL_stoneOf_9 (by decide) ?_
  refine gk_iconst (v := nI 0) G dL_stoneOf_15 (by decide) ?_
  exact RET _ _ _ _ _ _ (vp_updL f 0 ((r4).toInt64), u4) dL_stoneOf_16 rfl ⟨rfl, (gw_o0 f ((r4).toInt64)).trans (congrArg Int32.toInt64 hp4.1), hp4.2⟩ rfl (Nat.le_of_ble_eq_true rfl) (Nat.le_of_ble_eq_true rfl)
set_option maxRecDepth 100000 in
set_option maxHeartbeats 1000000 in
theorem cl_leftOf_no (l : Launch) (D : va_G) (cI cZ cJ : ClassId) (o : Nat) (f : Nat → Int64) (g h1 h2 : Nat) (q q2 : Nat → Nat) (u0 : gw_U) (M : gm_M) (hl9 : l.stackTraces = false) (p0 : Int32) (wf : gm_wf M) (hr : gc_rep u0.1.1 u0.1.2 M) (hb : ¬ gm_rg p0 0 (M 11 0)) : gk_I l yL_leftOf wsL_leftOf ({ frames := 8, cells := 1, slots := 6, locals := 132 } : Room) D (g_T cI cZ cJ) gl_F [.ref g, .int p0, .ref o] (gw_O cJ o f ++ (gw_X cI cZ g h1 h2 q q2 u0)) 1 6 (fun (r : Int32) (u : (Nat → Int64) × gw_U) => r = nI 1 ∧ gc_rep u.2.1.1 u.2.1.2 M) (fun u => (gw_O cJ o u.1 ++ (gw_X cI cZ g h1 h2 q q2 u.2))) := by
  refine gk_IH_of (ty := .int) (cc := cL_leftOf) (nL := 4) (by decide +kernel) rfl (Nat.le_of_ble_eq_true rfl) ?_
  intro p e s m below meth c A Q htb hE G RET
  refine gk_aload_n G dL_leftOf_0 2 rfl ?_
  refine gk_iconst (v := nI 0) G dL_leftOf_1 (by decide) ?_
  refine gk_aload_n G dL_leftOf_2 0 rfl ?_
  refine gk_iload_n G dL_leftOf_3 1 rfl ?_
  refine gk_callCV (wr := gw_O cJ o f) (w0 := (gw_O cJ o f ++ (gw_X cI cZ g h1 h2 q q2 u0))) G (c1_leftOf_no l D cI cZ cJ g h1 h2 q u0.1.1 u0.1.2 q2 u0.2.1 u0.2.2 M hl9 p0 wf hr hb) gL_leftOf_X1_leftOf rfl 1 (by decide +kernel) rfl rfl ⟨(Nat.le_of_ble_eq_true rfl), (Nat.le_of_ble_eq_true rfl)⟩ rfl (q0 := 0) rfl (T := TX1) (N := 2) rfl gn_ok hE.1 [] ⟨0, 9, 12, 21⟩ [] htb (fun _ h9 => nomatch h9) rfl (by decide) (G.2.2.2.2.1 (.classLink RL 21 "java/lang/IndexOutOfBoundsException") (List.mem_cons_of_mem _ (List.mem_append_left _ (List.mem_append_left _ (List.mem_append_left _ (List.mem_of_getElem? (i := 0) rfl)))))) (gl_cIOB hE.1) [1, 2, 3, 4, 5, 6, 7, 8, 9, 10, 11, 12, 13, 14, 15, 16, 17, 18, 19, 20, 21] rfl (by decide) [0] rfl (by decide) (by decide) [0, 1, 2, 3, 4, 5, 6, 7, 8, 9, 10, 11, 12, 13, 14, 15, 16, 17, 18, 19, 20, 21] rfl (by decide) rfl (Nat.le_of_ble_eq_true rfl) dL_leftOf_4 ⟨(Nat.le_of_ble_eq_true rfl), (Nat.le_of_ble_eq_true rfl)⟩ (fun x4 => ?_)
  show gk_C p l e ({ frames := 8, cells := 1, slots := 6, locals := 132 } : Room) s m ([.ref g, .int p0, .ref o] : List Value).toArray below meth c 4 D A Q (0 + 1) (0 + 6) (gw_O cJ o f ++ (gw_X cI cZ g h1 h2 q q2 u0)) [(0, .ref g), (1, .int p0), (2, .ref o)] 12 [.ref x4]
  refine gk_astore_n (lv' := [(3, .ref x4), (0, .ref g), (1, .int p0), (2, .ref o)]) G dL_leftOf_12 rfl (by decide) rfl ?_
  refine gk_iconst (v := nI 1) G dL_leftOf_13 (by decide) ?_
  exact RET _ _ _ _ _ _ (f, u0) dL_leftOf_14 rfl ⟨rfl, hr⟩ rfl (Nat.le_of_ble_eq_true rfl) (Nat.le_of_ble_eq_true rfl)
set_option maxRecDepth 100000 in
set_option maxHeartbeats 1000000 in
theorem cl_leftOf_ok (l : Launch) (D : va_G) (cI cZ cJ : ClassId) (o : Nat) (f : Nat → Int64) (g h1 h2 : Nat) (q q2 : Nat → Nat) (u0 : gw_U) (M : gm_M) (v : Nat) (wf : gm_wf M) (hr : gc_rep u0.1.1 u0.1.2 M) (hv : v < M 11 0) : gk_I l yL_leftOf wsL_leftOf ({ frames := 2, cells := 0, slots := 0, locals := 42 } : Room) D (g_T cI cZ cJ) gl_F [.ref g, .int (nI v), .ref o] (gw_O cJ o f ++ (gw_X cI cZ g h1 h2 q q2 u0)) 0 0 (fun (r : Int32) (u : (Nat → Int64) × gw_U) => r = nI 0 ∧ u.1 0 = (nI (M 5 v)).toInt64 ∧ gc_rep u.2.1.1 u.2.1.2 M) (fun u => (gw_O cJ o u.1 ++ (gw_X cI cZ g h1 h2 q q2 u.2))) := by
  refine gk_IH_of (ty := .int) (cc := cL_leftOf) (nL := 4) (by decide +kernel) rfl (Nat.le_of_ble_eq_true rfl) ?_
  intro p e s m below meth c A Q htb hE G RET
  refine gk_aload_n G dL_leftOf_0 2 rfl ?_
  refine gk_iconst (v := nI 0) G dL_leftOf_1 (by decide) ?_
  refine gk_aload_n G dL_leftOf_2 0 rfl ?_
  refine gk_iload_n G dL_leftOf_3 1 rfl ?_
  refine gk_callIV (wr := gw_O cJ o f) G (c1_leftOf_ok l D cI cZ cJ g h1 h2 q u0.1.1 u0.1.2 q2 u0.2.1 u0.2.2 M v wf hr hv) gL_leftOf_X1_leftOf rfl 1 (by decide +kernel) rfl rfl ⟨(Nat.le_of_ble_eq_true rfl), (Nat.le_of_ble_eq_true rfl)⟩ rfl (q0 := 0) rfl (T := TX1) (N := 2) rfl gn_ok hE.1 [1, 2, 3, 4, 5, 6, 7, 8, 9, 10, 11, 12, 13, 14, 15, 16, 17, 18, 19, 20, 21] rfl (by decide) [0] rfl (by decide) (by decide) rfl (Nat.le_of_ble_eq_true rfl) dL_leftOf_4 ⟨(Nat.le_of_ble_eq_true rfl), (Nat.le_of_ble_eq_true rfl)⟩ (fun r4 u4 hp4 => ?_)
  show gk_C p l e ({ frames := 2, cells := 0, slots := 0, locals := 42 } : Room) s m ([.ref g, .int (nI v), .ref o] : List Value).toArray below meth c 4 D A Q 0 0 (gw_O cJ o f ++ (gw_X cI cZ g h1 h2 q q2 u4)) [(0, .ref g), (1, .int (nI v)), (2, .ref o)] 7 [.int r4, .int (nI 0), .ref o]
  refine gk_i2l (v := (r4).toInt64) G dL_leftOf_7 rfl ?_
  refine gk_last (w' := (gw_O cJ o (vp_updL f 0 ((r4).toInt64)) ++ (gw_X cI cZ g h1 h2 q q2 u4))) G (q0 := 0) (t0 := 2) rfl rfl 0 rfl (by decide) (by decide) rfl dL_leftOf_8 ?_
  refine gk_goto (tgt := 15) G dL_leftOf_9 (by decide) ?_
  refine gk_iconst (v := nI 0) G dL_leftOf_15 (by decide) ?_
  exact RET _ _ _ _ _ _ (vp_updL f 0 ((r4).toInt64), u4) dL_leftOf_16 rfl ⟨rfl, (gw_o0 f ((r4).toInt64)).trans (congrArg Int32.toInt64 hp4.1), hp4.2⟩ rfl (Nat.le_of_ble_eq_true rfl) (Nat.le_of_ble_eq_true rfl)
set_option maxRecDepth 100000 in
set_option maxHeartbeats 1000000 in
theorem cl_untilOf_no (l : Launch) (D : va_G) (cI cZ cJ : ClassId) (o : Nat) (f : Nat → Int64) (g h1 h2 : Nat) (q q2 : Nat → Nat) (u0 : gw_U) (M : gm_M) (hl9 : l.stackTraces = false) (p0 : Int32) (wf : gm_wf M) (hr : gc_rep u0.1.1 u0.1.2 M) (hb : ¬ gm_rg p0 0 (M 11 0)) : gk_I l yL_untilOf wsL_untilOf ({ frames := 8, cells := 1, slots := 6, locals := 132 } : Room) D (g_T cI cZ cJ) gl_F [.ref g, .int p0, .ref o] (gw_O cJ o f ++ (gw_X cI cZ g h1 h2 q q2 u0)) 1 6 (fun (r : Int32) (u : (Nat → Int64) × gw_U) => r = nI 1 ∧ gc_rep u.2.1.1 u.2.1.2 M) (fun u => (gw_O cJ o u.1 ++ (gw_X cI cZ g h1 h2 q q2 u.2))) := by
  refine gk_IH_of (ty := .int) (cc := cL_untilOf) (nL := 4) (by decide +kernel) rfl (Nat.le_of_ble_eq_true rfl) ?_
  intro p e s m below meth c A Q htb hE G RET
  refine gk_aload_n G dL_untilOf_0 2 rfl ?_
  refine gk_iconst (v := nI 0) G dL_untilOf_1 (by decide) ?_
  refine gk_aload_n G dL_untilOf_2 0 rfl ?_
  refine gk_iload_n G dL_untilOf_3 1 rfl ?_
  refine gk_callCV (wr := gw_O cJ o f) (w0 := (gw_O cJ o f ++ (gw_X cI cZ g h1 h2 q q2 u0))) G (c1_untilOf_no l D cI cZ cJ g h1 h2 q u0.1.1 u0.1.2 q2 u0.2.1 u0.2.2 M hl9 p0 wf hr hb) gL_untilOf_X1_untilOf rfl 1 (by decide +kernel) rfl rfl ⟨(Nat.le_of_ble_eq_true rfl), (Nat.le_of_ble_eq_true rfl)⟩ rfl (q0 := 0) rfl (T := TX1) (N := 2) rfl gn_ok hE.1 [] ⟨0, 9, 12, 21⟩ [] htb (fun _ h9 => nomatch h9) rfl (by decide) (G.2.2.2.2.1 (.classLink RL 21 "java/lang/IndexOutOfBoundsException") (List.mem_cons_of_mem _ (List.mem_append_left _ (List.mem_append_left _ (List.mem_append_left _ (List.mem_of_getElem? (i := 0) rfl)))))) (gl_cIOB hE.1) [1, 2, 3, 4, 5, 6, 7, 8, 9, 10, 11, 12, 13, 14, 15, 16, 17, 18, 19, 20, 21] rfl (by decide) [0] rfl (by decide) (by decide) [0, 1, 2, 3, 4, 5, 6, 7, 8, 9, 10, 11, 12, 13, 14, 15, 16, 17, 18, 19, 20, 21] rfl (by decide) rfl (Nat.le_of_ble_eq_true rfl) dL_untilOf_4 ⟨(Nat.le_of_ble_eq_true rfl), (Nat.le_of_ble_eq_true rfl)⟩ (fun x4 => ?_)
  show gk_C p l e ({ frames := 8, cells := 1, slots := 6, locals := 132 } : Room) s m ([.ref g, .int p0, .ref o] : List Value).toArray below meth c 4 D A Q (0 + 1) (0 + 6) (gw_O cJ o f ++ (gw_X cI cZ g h1 h2 q q2 u0)) [(0, .ref g), (1, .int p0), (2, .ref o)] 12 [.ref x4]
  refine gk_astore_n (lv' := [(3, .ref x4), (0, .ref g), (1, .int p0), (2, .ref o)]) G dL_untilOf_12 rfl (by decide) rfl ?_
  refine gk_iconst (v := nI 1) G dL_untilOf_13 (by decide) ?_
  exact RET _ _ _ _ _ _ (f, u0) dL_untilOf_14 rfl ⟨rfl, hr⟩ rfl (Nat.le_of_ble_eq_true rfl) (Nat.le_of_ble_eq_true rfl)
set_option maxRecDepth 100000 in
set_option maxHeartbeats 1000000 in
theorem cl_untilOf_ok (l : Launch) (D : va_G) (cI cZ cJ : ClassId) (o : Nat) (f : Nat → Int64) (g h1 h2 : Nat) (q q2 : Nat → Nat) (u0 : gw_U) (M : gm_M) (v : Nat) (wf : gm_wf M) (hr : gc_rep u0.1.1 u0.1.2 M) (hv : v < M 11 0) : gk_I l yL_untilOf wsL_untilOf ({ frames := 2, cells := 0, slots := 0, locals := 42 } : Room) D (g_T cI cZ cJ) gl_F [.ref g, .int (nI v), .ref o] (gw_O cJ o f ++ (gw_X cI cZ g h1 h2 q q2 u0)) 0 0 (fun (r : Int32) (u : (Nat → Int64) × gw_U) => r = nI 0 ∧ u.1 0 = (nI (M 6 v)).toInt64 ∧ gc_rep u.2.1.1 u.2.1.2 M) (fun u => (gw_O cJ o u.1 ++ (gw_X cI cZ g h1 h2 q q2 u.2))) := by
  refine gk_IH_of (ty := .int) (cc := cL_untilOf) (nL := 4) (by decide +kernel) rfl (Nat.le_of_ble_eq_true rfl) ?_
  intro p e s m below meth c A Q htb hE G RET
  refine gk_aload_n G dL_untilOf_0 2 rfl ?_
  refine gk_iconst (v := nI 0) G dL_untilOf_1 (by decide) ?_
  refine gk_aload_n G dL_untilOf_2 0 rfl ?_
  refine gk_iload_n G dL_untilOf_3 1 rfl ?_
  refine gk_callIV (wr := gw_O cJ o f) G (c1_untilOf_ok l D cI cZ cJ g h1 h2 q u0.1.1 u0.1.2 q2 u0.2.1 u0.2.2 M v wf hr hv) gL_untilOf_X1_untilOf rfl 1 (by decide +kernel) rfl rfl ⟨(Nat.le_of_ble_eq_true rfl), (Nat.le_of_ble_eq_true rfl)⟩ rfl (q0 := 0) rfl (T := TX1) (N := 2) rfl gn_ok hE.1 [1, 2, 3, 4, 5, 6, 7, 8, 9, 10, 11, 12, 13, 14, 15, 16, 17, 18, 19, 20, 21] rfl (by decide) [0] rfl (by decide) (by decide) rfl (Nat.le_of_ble_eq_true rfl) dL_untilOf_4 ⟨(Nat.le_of_ble_eq_true rfl), (Nat.le_of_ble_eq_true rfl)⟩ (fun r4 u4 hp4 => ?_)
  show gk_C p l e ({ frames := 2, cells := 0, slots := 0, locals := 42 } : Room) s m ([.ref g, .int (nI v), .ref o] : List Value).toArray below meth c 4 D A Q 0 0 (gw_O cJ o f ++ (gw_X cI cZ g h1 h2 q q2 u4)) [(0, .ref g), (1, .int (nI v)), (2, .ref o)] 7 [.int r4, .int (nI 0), .ref o]
  refine gk_i2l (v := (r4).toInt64) G dL_untilOf_7 rfl ?_
  refine gk_last (w' := (gw_O cJ o (vp_updL f 0 ((r4).toInt64)) ++ (gw_X cI cZ g h1 h2 q q2 u4))) G (q0 := 0) (t0 := 2) rfl rfl 0 rfl (by decide) (by decide) rfl dL_untilOf_8 ?_
  refine gk_goto (tgt := 15) G dL_untilOf_9 (by decide) ?_
  refine gk_iconst (v := nI 0) G dL_untilOf_15 (by decide) ?_
  exact RET _ _ _ _ _ _ (vp_updL f 0 ((r4).toInt64), u4) dL_untilOf_16 rfl ⟨rfl, (gw_o0 f ((r4).toInt64)).trans (congrArg Int32.toInt64 hp4.1), hp4.2⟩ rfl (Nat.le_of_ble_eq_true rfl) (Nat.le_of_ble_eq_true rfl)
set_option maxRecDepth 100000 in
set_option maxHeartbeats 1000000 in
theorem cl_groundAt_no (l : Launch) (D : va_G) (cI cZ cJ : ClassId) (o : Nat) (f : Nat → Int64) (g h1 h2 : Nat) (q q2 : Nat → Nat) (u0 : gw_U) (M : gm_M) (hl9 : l.stackTraces = false) (p0 : Int32) (wf : gm_wf M) (hr : gc_rep u0.1.1 u0.1.2 M) (hb : ¬ gm_rg p0 0 (M 11 0)) : gk_I l yL_groundAt wsL_groundAt ({ frames := 8, cells := 1, slots := 6, locals := 132 } : Room) D (g_T cI cZ cJ) gl_F [.ref g, .int p0, .ref o] (gw_O cJ o f ++ (gw_X cI cZ g h1 h2 q q2 u0)) 1 6 (fun (r : Int32) (u : (Nat → Int64) × gw_U) => r = nI 1 ∧ gc_rep u.2.1.1 u.2.1.2 M) (fun u => (gw_O cJ o u.1 ++ (gw_X cI cZ g h1 h2 q q2 u.2))) := by
  refine gk_IH_of (ty := .int) (cc := cL_groundAt) (nL := 4) (by decide +kernel) rfl (Nat.le_of_ble_eq_true rfl) ?_
  intro p e s m below meth c A Q htb hE G RET
  refine gk_aload_n G dL_groundAt_0 2 rfl ?_
  refine gk_iconst (v := nI 0) G dL_groundAt_1 (by decide) ?_
  refine gk_aload_n G dL_groundAt_2 0 rfl ?_
  refine gk_iload_n G dL_groundAt_3 1 rfl ?_
  refine gk_callCV (wr := gw_O cJ o f) (w0 := (gw_O cJ o f ++ (gw_X cI cZ g h1 h2 q q2 u0))) G (c1_groundAt_no l D cI cZ cJ g h1 h2 q u0.1.1 u0.1.2 q2 u0.2.1 u0.2.2 M hl9 p0 wf hr hb) gL_groundAt_X1_groundAt rfl 1 (by decide +kernel) rfl rfl ⟨(Nat.le_of_ble_eq_true rfl), (Nat.le_of_ble_eq_true rfl)⟩ rfl (q0 := 0) rfl (T := TX1) (N := 2) rfl gn_ok hE.1 [] ⟨0, 9, 12, 21⟩ [] htb (fun _ h9 => nomatch h9) rfl (by decide) (G.2.2.2.2.1 (.classLink RL 21 "java/lang/IndexOutOfBoundsException") (List.mem_cons_of_mem _ (List.mem_append_left _ (List.mem_append_left _ (List.mem_append_left _ (List.mem_of_getElem? (i := 0) rfl)))))) (gl_cIOB hE.1) [1, 2, 3, 4, 5, 6, 7, 8, 9, 10, 11, 12, 13, 14, 15, 16, 17, 18, 19, 20, 21] rfl (by decide) [0] rfl (by decide) (by decide) [0, 1, 2, 3, 4, 5, 6, 7, 8, 9, 10, 11, 12, 13, 14, 15, 16, 17, 18, 19, 20, 21] rfl (by decide) rfl (Nat.le_of_ble_eq_true rfl) dL_groundAt_4 ⟨(Nat.le_of_ble_eq_true rfl), (Nat.le_of_ble_eq_true rfl)⟩ (fun x4 => ?_)
  show gk_C p l e ({ frames := 8, cells := 1, slots := 6, locals := 132 } : Room) s m ([.ref g, .int p0, .ref o] : List Value).toArray below meth c 4 D A Q (0 + 1) (0 + 6) (gw_O cJ o f ++ (gw_X cI cZ g h1 h2 q q2 u0)) [(0, .ref g), (1, .int p0), (2, .ref o)] 12 [.ref x4]
  refine gk_astore_n (lv' := [(3, .ref x4), (0, .ref g), (1, .int p0), (2, .ref o)]) G dL_groundAt_12 rfl (by decide) rfl ?_
  refine gk_iconst (v := nI 1) G dL_groundAt_13 (by decide) ?_
  exact RET _ _ _ _ _ _ (f, u0) dL_groundAt_14 rfl ⟨rfl, hr⟩ rfl (Nat.le_of_ble_eq_true rfl) (Nat.le_of_ble_eq_true rfl)
set_option maxRecDepth 100000 in
set_option maxHeartbeats 1000000 in
theorem cl_groundAt_ok (l : Launch) (D : va_G) (cI cZ cJ : ClassId) (o : Nat) (f : Nat → Int64) (g h1 h2 : Nat) (q q2 : Nat → Nat) (u0 : gw_U) (M : gm_M) (v : Nat) (wf : gm_wf M) (hr : gc_rep u0.1.1 u0.1.2 M) (hv : v < M 11 0) : gk_I l yL_groundAt wsL_groundAt ({ frames := 2, cells := 0, slots := 0, locals := 42 } : Room) D (g_T cI cZ cJ) gl_F [.ref g, .int (nI v), .ref o] (gw_O cJ o f ++ (gw_X cI cZ g h1 h2 q q2 u0)) 0 0 (fun (r : Int32) (u : (Nat → Int64) × gw_U) => r = nI 0 ∧ u.1 0 = (gm_e (M 8 v)).toInt64 ∧ gc_rep u.2.1.1 u.2.1.2 M) (fun u => (gw_O cJ o u.1 ++ (gw_X cI cZ g h1 h2 q q2 u.2))) := by
  refine gk_IH_of (ty := .int) (cc := cL_groundAt) (nL := 4) (by decide +kernel) rfl (Nat.le_of_ble_eq_true rfl) ?_
  intro p e s m below meth c A Q htb hE G RET
  refine gk_aload_n G dL_groundAt_0 2 rfl ?_
  refine gk_iconst (v := nI 0) G dL_groundAt_1 (by decide) ?_
  refine gk_aload_n G dL_groundAt_2 0 rfl ?_
  refine gk_iload_n G dL_groundAt_3 1 rfl ?_
  refine gk_callIV (wr := gw_O cJ o f) G (c1_groundAt_ok l D cI cZ cJ g h1 h2 q u0.1.1 u0.1.2 q2 u0.2.1 u0.2.2 M v wf hr hv) gL_groundAt_X1_groundAt rfl 1 (by decide +kernel) rfl rfl ⟨(Nat.le_of_ble_eq_true rfl), (Nat.le_of_ble_eq_true rfl)⟩ rfl (q0 := 0) rfl (T := TX1) (N := 2) rfl gn_ok hE.1 [1, 2, 3, 4, 5, 6, 7, 8, 9, 10, 11, 12, 13, 14, 15, 16, 17, 18, 19, 20, 21] rfl (by decide) [0] rfl (by decide) (by decide) rfl (Nat.le_of_ble_eq_true rfl) dL_groundAt_4 ⟨(Nat.le_of_ble_eq_true rfl), (Nat.le_of_ble_eq_true rfl)⟩ (fun r4 u4 hp4 => ?_)
  show gk_C p l e ({ frames := 2, cells := 0, slots := 0, locals := 42 } : Room) s m ([.ref g, .int (nI v), .ref o] : List Value).toArray below meth c 4 D A Q 0 0 (gw_O cJ o f ++ (gw_X cI cZ g h1 h2 q q2 u4)) [(0, .ref g), (1, .int (nI v)), (2, .ref o)] 7 [.int r4, .int (nI 0), .ref o]
  refine gk_i2l (v := (r4).toInt64) G dL_groundAt_7 rfl ?_
  refine gk_last (w' := (gw_O cJ o (vp_updL f 0 ((r4).toInt64)) ++ (gw_X cI cZ g h1 h2 q q2 u4))) G (q0 := 0) (t0 := 2) rfl rfl 0 rfl (by decide) (by decide) rfl dL_groundAt_8 ?_
  refine gk_goto (tgt := 15) G dL_groundAt_9 (by decide) ?_
  refine gk_iconst (v := nI 0) G dL_groundAt_15 (by decide) ?_
  exact RET _ _ _ _ _ _ (vp_updL f 0 ((r4).toInt64), u4) dL_groundAt_16 rfl ⟨rfl, (gw_o0 f ((r4).toInt64)).trans (congrArg Int32.toInt64 hp4.1), hp4.2⟩ rfl (Nat.le_of_ble_eq_true rfl) (Nat.le_of_ble_eq_true rfl)
set_option maxRecDepth 100000 in
set_option maxHeartbeats 1000000 in
theorem cl_placeOf_no (l : Launch) (D : va_G) (cI cZ cJ : ClassId) (o : Nat) (f : Nat → Int64) (g h1 h2 : Nat) (q q2 : Nat → Nat) (u0 : gw_U) (M : gm_M) (hl9 : l.stackTraces = false) (p0 : Int32) (wf : gm_wf M) (hr : gc_rep u0.1.1 u0.1.2 M) (hb : ¬ gm_rg p0 0 (M 11 0)) : gk_I l yL_placeOf wsL_placeOf ({ frames := 8, cells := 1, slots := 6, locals := 132 } : Room) D (g_T cI cZ cJ) gl_F [.ref g, .int p0, .ref o] (gw_O cJ o f ++ (gw_X cI cZ g h1 h2 q q2 u0)) 1 6 (fun (r : Int32) (u : (Nat → Int64) × gw_U) => r = nI 1 ∧ gc_rep u.2.1.1 u.2.1.2 M) (fun u => (gw_O cJ o u.1 ++ (gw_X cI cZ g h1 h2 q q2 u.2))) := by
  refine gk_IH_of (ty := .int) (cc := cL_placeOf) (nL := 4) (by decide +kernel) rfl (Nat.le_of_ble_eq_true rfl) ?_
  intro p e s m below meth c A Q htb hE G RET
  refine gk_aload_n G dL_placeOf_0 2 rfl ?_
  refine gk_iconst (v := nI 0) G dL_placeOf_1 (by decide) ?_
  refine gk_aload_n G dL_placeOf_2 0 rfl ?_
  refine gk_iload_n G dL_placeOf_3 1 rfl ?_
  refine gk_callCV (wr := gw_O cJ o f) (w0 := (gw_O cJ o f ++ (gw_X cI cZ g h1 h2 q q2 u0))) G (c1_placeOf_no l D cI cZ cJ g h1 h2 q u0.1.1 u0.1.2 q2 u0.2.1 u0.2.2 M hl9 p0 wf hr hb) gL_placeOf_X1_placeOf rfl 1 (by decide +kernel) rfl rfl ⟨(Nat.le_of_ble_eq_true rfl), (Nat.le_of_ble_eq_true rfl)⟩ rfl (q0 := 0) rfl (T := TX1) (N := 2) rfl gn_ok hE.1 [] ⟨0, 9, 12, 21⟩ [] htb (fun _ h9 => nomatch h9) rfl (by decide) (G.2.2.2.2.1 (.classLink RL 21 "java/lang/IndexOutOfBoundsException") (List.mem_cons_of_mem _ (List.mem_append_left _ (List.mem_append_left _ (List.mem_append_left _ (List.mem_append_left _ (List.mem_of_getElem? (i := 0) rfl))))))) (gl_cIOB hE.1) [1, 2, 3, 4, 5, 6, 7, 8, 9, 10, 11, 12, 13, 14, 15, 16, 17, 18, 19, 20, 21] rfl (by decide) [0] rfl (by decide) (by decide) [0, 1, 2, 3, 4, 5, 6, 7, 8, 9, 10, 11, 12, 13, 14, 15, 16, 17, 18, 19, 20, 21] rfl (by decide) rfl (Nat.le_of_ble_eq_true rfl) dL_placeOf_4 ⟨(Nat.le_of_ble_eq_true rfl), (Nat.le_of_ble_eq_true rfl)⟩ (fun x4 => ?_)
  show gk_C p l e ({ frames := 8, cells := 1, slots := 6, locals := 132 } : Room) s m ([.ref g, .int p0, .ref o] : List Value).toArray below meth c 4 D A Q (0 + 1) (0 + 6) (gw_O cJ o f ++ (gw_X cI cZ g h1 h2 q q2 u0)) [(0, .ref g), (1, .int p0), (2, .ref o)] 12 [.ref x4]
  refine gk_astore_n (lv' := [(3, .ref x4), (0, .ref g), (1, .int p0), (2, .ref o)]) G dL_placeOf_12 rfl (by decide) rfl ?_
  refine gk_iconst (v := nI 1) G dL_placeOf_13 (by decide) ?_
  exact RET _ _ _ _ _ _ (f, u0) dL_placeOf_14 rfl ⟨rfl, hr⟩ rfl (Nat.le_of_ble_eq_true rfl) (Nat.le_of_ble_eq_true rfl)
set_option maxRecDepth 100000 in
set_option maxHeartbeats 1000000 in
theorem cl_placeOf_ok (l : Launch) (D : va_G) (cI cZ cJ : ClassId) (o : Nat) (f : Nat → Int64) (g h1 h2 : Nat) (q q2 : Nat → Nat) (u0 : gw_U) (M : gm_M) (v : Nat) (wf : gm_wf M) (hr : gc_rep u0.1.1 u0.1.2 M) (hrest : gm_rest M) (hv : v < M 11 0) : gk_I l yL_placeOf wsL_placeOf ({ frames := 3, cells := 0, slots := 0, locals := 67 } : Room) D (g_T cI cZ cJ) gl_F [.ref g, .int (nI v), .ref o] (gw_O cJ o f ++ (gw_X cI cZ g h1 h2 q q2 u0)) 0 0 (fun (r : Int32) (u : (Nat → Int64) × gw_U) => r = nI 0 ∧ u.1 0 = (gm_plc M v).toInt64 ∧ gc_rep u.2.1.1 u.2.1.2 M) (fun u => (gw_O cJ o u.1 ++ (gw_X cI cZ g h1 h2 q q2 u.2))) := by
  refine gk_IH_of (ty := .int) (cc := cL_placeOf) (nL := 4) (by decide +kernel) rfl (Nat.le_of_ble_eq_true rfl) ?_
  intro p e s m below meth c A Q htb hE G RET
  refine gk_aload_n G dL_placeOf_0 2 rfl ?_
  refine gk_iconst (v := nI 0) G dL_placeOf_1 (by decide) ?_
  refine gk_aload_n G dL_placeOf_2 0 rfl ?_
  refine gk_iload_n G dL_placeOf_3 1 rfl ?_
  refine gk_callIV (wr := gw_O cJ o f) G (c1_placeOf_ok l D cI cZ cJ g h1 h2 q u0.1.1 u0.1.2 q2 u0.2.1 u0.2.2 M v wf hr hrest hv) gL_placeOf_X1_placeOf rfl 1 (by decide +kernel) rfl rfl ⟨(Nat.le_of_ble_eq_true rfl), (Nat.le_of_ble_eq_true rfl)⟩ rfl (q0 := 0) rfl (T := TX1) (N := 2) rfl gn_ok hE.1 [1, 2, 3, 4, 5, 6, 7, 8, 9, 10, 11, 12, 13, 14, 15, 16, 17, 18, 19, 20, 21] rfl (by decide) [0] rfl (by decide) (by decide) rfl (Nat.le_of_ble_eq_true rfl) dL_placeOf_4 ⟨(Nat.le_of_ble_eq_true rfl), (Nat.le_of_ble_eq_true rfl)⟩ (fun r4 u4 hp4 => ?_)
  show gk_C p l e ({ frames := 3, cells := 0, slots := 0, locals := 67 } : Room) s m ([.ref g, .int (nI v), .ref o] : List Value).toArray below meth c 4 D A Q 0 0 (gw_O cJ o f ++ (gw_X cI cZ g h1 h2 q q2 u4)) [(0, .ref g), (1, .int (nI v)), (2, .ref o)] 7 [.int r4, .int (nI 0), .ref o]
  refine gk_i2l (v := (r4).toInt64) G dL_placeOf_7 rfl ?_
  refine gk_last (w' := (gw_O cJ o (vp_updL f 0 ((r4).toInt64)) ++ (gw_X cI cZ g h1 h2 q q2 u4))) G (q0 := 0) (t0 := 2) rfl rfl 0 rfl (by decide) (by decide) rfl dL_placeOf_8 ?_
  refine gk_goto (tgt := 15) G dL_placeOf_9 (by decide) ?_
  refine gk_iconst (v := nI 0) G dL_placeOf_15 (by decide) ?_
  exact RET _ _ _ _ _ _ (vp_updL f 0 ((r4).toInt64), u4) dL_placeOf_16 rfl ⟨rfl, (gw_o0 f ((r4).toInt64)).trans (congrArg Int32.toInt64 hp4.1), hp4.2⟩ rfl (Nat.le_of_ble_eq_true rfl) (Nat.le_of_ble_eq_true rfl)
set_option maxRecDepth 100000 in
set_option maxHeartbeats 1000000 in
theorem cl_leftFor_no (l : Launch) (D : va_G) (cI cZ cJ : ClassId) (o : Nat) (f : Nat → Int64) (g h1 h2 : Nat) (q q2 : Nat → Nat) (u0 : gw_U) (M : gm_M) (hl9 : l.stackTraces = false) (p0 : Int32) (wf : gm_wf M) (hr : gc_rep u0.1.1 u0.1.2 M) (hb : ¬ gm_rg p0 0 8) : gk_I l yL_leftFor wsL_leftFor ({ frames := 8, cells := 1, slots := 6, locals := 133 } : Room) D (g_T cI cZ cJ) gl_F [.ref g, .int p0, .ref o] (gw_O cJ o f ++ (gw_X cI cZ g h1 h2 q q2 u0)) 1 6 (fun (r : Int32) (u : (Nat → Int64) × gw_U) => r = nI 1 ∧ gc_rep u.2.1.1 u.2.1.2 M) (fun u => (gw_O cJ o u.1 ++ (gw_X cI cZ g h1 h2 q q2 u.2))) := by
  refine gk_IH_of (ty := .int) (cc := cL_leftFor) (nL := 4) (by decide +kernel) rfl (Nat.le_of_ble_eq_true rfl) ?_
  intro p e s m below meth c A Q htb hE G RET
  refine gk_aload_n G dL_leftFor_0 2 rfl ?_
  refine gk_iconst (v := nI 0) G dL_leftFor_1 (by decide) ?_
  refine gk_aload_n G dL_leftFor_2 0 rfl ?_
  refine gk_iload_n G dL_leftFor_3 1 rfl ?_
  refine gk_callCV (wr := gw_O cJ o f) (w0 := (gw_O cJ o f ++ (gw_X cI cZ g h1 h2 q q2 u0))) G (c1_leftFor_no l D cI cZ cJ g h1 h2 q u0.1.1 u0.1.2 q2 u0.2.1 u0.2.2 M hl9 p0 wf hr hb) gL_leftFor_X1_leftFor rfl 1 (by decide +kernel) rfl rfl ⟨(Nat.le_of_ble_eq_true rfl), (Nat.le_of_ble_eq_true rfl)⟩ rfl (q0 := 0) rfl (T := TX1) (N := 2) rfl gn_ok hE.1 [] ⟨0, 9, 12, 13⟩ [] htb (fun _ h9 => nomatch h9) rfl (by decide) (G.2.2.2.2.1 (.classLink RL 13 "java/lang/IllegalArgumentException") (List.mem_cons_of_mem _ (List.mem_append_left _ (List.mem_append_left _ (List.mem_append_left _ (List.mem_of_getElem? (i := 0) rfl)))))) (gl_cIAE hE.1) [1, 2, 3, 4, 5, 6, 7, 8, 9, 10, 11, 12, 13, 14, 15, 16, 17, 18, 19, 20, 21] rfl (by decide) [0] rfl (by decide) (by decide) [0, 1, 2, 3, 4, 5, 6, 7, 8, 9, 10, 11, 12, 13, 14, 15, 16, 17, 18, 19, 20, 21] rfl (by decide) rfl (Nat.le_of_ble_eq_true rfl) dL_leftFor_4 ⟨(Nat.le_of_ble_eq_true rfl), (Nat.le_of_ble_eq_true rfl)⟩ (fun x4 => ?_)
  show gk_C p l e ({ frames := 8, cells := 1, slots := 6, locals := 133 } : Room) s m ([.ref g, .int p0, .ref o] : List Value).toArray below meth c 4 D A Q (0 + 1) (0 + 6) (gw_O cJ o f ++ (gw_X cI cZ g h1 h2 q q2 u0)) [(0, .ref g), (1, .int p0), (2, .ref o)] 12 [.ref x4]
  refine gk_astore_n (lv' := [(3, .ref x4), (0, .ref g), (1, .int p0), (2, .ref o)]) G dL_leftFor_12 rfl (by decide) rfl ?_
  refine gk_iconst (v := nI 1) G dL_leftFor_13 (by decide) ?_
  exact RET _ _ _ _ _ _ (f, u0) dL_leftFor_14 rfl ⟨rfl, hr⟩ rfl (Nat.le_of_ble_eq_true rfl) (Nat.le_of_ble_eq_true rfl)
set_option maxRecDepth 100000 in
set_option maxHeartbeats 1000000 in
theorem cl_leftFor_ok (l : Launch) (D : va_G) (cI cZ cJ : ClassId) (o : Nat) (f : Nat → Int64) (g h1 h2 : Nat) (q q2 : Nat → Nat) (u0 : gw_U) (M : gm_M) (v : Nat) (wf : gm_wf M) (hr : gc_rep u0.1.1 u0.1.2 M) (hv : v < 8) : gk_I l yL_leftFor wsL_leftFor ({ frames := 2, cells := 0, slots := 0, locals := 43 } : Room) D (g_T cI cZ cJ) gl_F [.ref g, .int (nI v), .ref o] (gw_O cJ o f ++ (gw_X cI cZ g h1 h2 q q2 u0)) 0 0 (fun (r : Int32) (u : (Nat → Int64) × gw_U) => r = nI 0 ∧ u.1 0 = (nI (gm_rst M v (M 11 0))).toInt64 ∧ gc_rep u.2.1.1 u.2.1.2 M) (fun u => (gw_O cJ o u.1 ++ (gw_X cI cZ g h1 h2 q q2 u.2))) := by
  refine gk_IH_of (ty := .int) (cc := cL_leftFor) (nL := 4) (by decide +kernel) rfl (Nat.le_of_ble_eq_true rfl) ?_
  intro p e s m below meth c A Q htb hE G RET
  refine gk_aload_n G dL_leftFor_0 2 rfl ?_
  refine gk_iconst (v := nI 0) G dL_leftFor_1 (by decide) ?_
  refine gk_aload_n G dL_leftFor_2 0 rfl ?_
  refine gk_iload_n G dL_leftFor_3 1 rfl ?_
  refine gk_callIV (wr := gw_O cJ o f) G (c1_leftFor_ok l D cI cZ cJ g h1 h2 q u0.1.1 u0.1.2 q2 u0.2.1 u0.2.2 M v wf hr hv) gL_leftFor_X1_leftFor rfl 1 (by decide +kernel) rfl rfl ⟨(Nat.le_of_ble_eq_true rfl), (Nat.le_of_ble_eq_true rfl)⟩ rfl (q0 := 0) rfl (T := TX1) (N := 2) rfl gn_ok hE.1 [1, 2, 3, 4, 5, 6, 7, 8, 9, 10, 11, 12, 13, 14, 15, 16, 17, 18, 19, 20, 21] rfl (by decide) [0] rfl (by decide) (by decide) rfl (Nat.le_of_ble_eq_true rfl) dL_leftFor_4 ⟨(Nat.le_of_ble_eq_true rfl), (Nat.le_of_ble_eq_true rfl)⟩ (fun r4 u4 hp4 => ?_)
  show gk_C p l e ({ frames := 2, cells := 0, slots := 0, locals := 43 } : Room) s m ([.ref g, .int (nI v), .ref o] : List Value).toArray below meth c 4 D A Q 0 0 (gw_O cJ o f ++ (gw_X cI cZ g h1 h2 q q2 u4)) [(0, .ref g), (1, .int (nI v)), (2, .ref o)] 7 [.int r4, .int (nI 0), .ref o]
  refine gk_i2l (v := (r4).toInt64) G dL_leftFor_7 rfl ?_
  refine gk_last (w' := (gw_O cJ o (vp_updL f 0 ((r4).toInt64)) ++ (gw_X cI cZ g h1 h2 q q2 u4))) G (q0 := 0) (t0 := 2) rfl rfl 0 rfl (by decide) (by decide) rfl dL_leftFor_8 ?_
  refine gk_goto (tgt := 15) G dL_leftFor_9 (by decide) ?_
  refine gk_iconst (v := nI 0) G dL_leftFor_15 (by decide) ?_
  exact RET _ _ _ _ _ _ (vp_updL f 0 ((r4).toInt64), u4) dL_leftFor_16 rfl ⟨rfl, (gw_o0 f ((r4).toInt64)).trans (congrArg Int32.toInt64 hp4.1), hp4.2⟩ rfl (Nat.le_of_ble_eq_true rfl) (Nat.le_of_ble_eq_true rfl)
set_option maxRecDepth 100000 in
set_option maxHeartbeats 1000000 in
theorem cl_willBeGroundAt_no (l : Launch) (D : va_G) (cI cZ cJ : ClassId) (o : Nat) (f : Nat → Int64) (g h1 h2 : Nat) (q q2 : Nat → Nat) (u0 : gw_U) (M : gm_M) (hl9 : l.stackTraces = false) (p0 : Int32) (wf : gm_wf M) (hr : gc_rep u0.1.1 u0.1.2 M) (hb : ¬ gm_rg p0 0 (M 11 0)) : gk_I l yL_willBeGroundAt wsL_willBeGroundAt ({ frames := 8, cells := 1, slots := 6, locals := 132 } : Room) D (g_T cI cZ cJ) gl_F [.ref g, .int p0, .ref o] (gw_O cJ o f ++ (gw_X cI cZ g h1 h2 q q2 u0)) 1 6 (fun (r : Int32) (u : (Nat → Int64) × gw_U) => r = nI 1 ∧ gc_rep u.2.1.1 u.2.1.2 M) (fun u => (gw_O cJ o u.1 ++ (gw_X cI cZ g h1 h2 q q2 u.2))) := by
  refine gk_IH_of (ty := .int) (cc := cL_willBeGroundAt) (nL := 4) (by decide +kernel) rfl (Nat.le_of_ble_eq_true rfl) ?_
  intro p e s m below meth c A Q htb hE G RET
  refine gk_aload_n G dL_willBeGroundAt_0 2 rfl ?_
  refine gk_iconst (v := nI 0) G dL_willBeGroundAt_1 (by decide) ?_
  refine gk_aload_n G dL_willBeGroundAt_2 0 rfl ?_
  refine gk_iload_n G dL_willBeGroundAt_3 1 rfl ?_
  refine gk_callCV (wr := gw_O cJ o f) (w0 := (gw_O cJ o f ++ (gw_X cI cZ g h1 h2 q q2 u0))) G (c1_willBeGroundAt_no l D cI cZ cJ g h1 h2 q u0.1.1 u0.1.2 q2 u0.2.1 u0.2.2 M hl9 p0 wf hr hb) gL_willBeGroundAt_X1_willBeGroundAt rfl 1 (by decide +kernel) rfl rfl ⟨(Nat.le_of_ble_eq_true rfl), (Nat.le_of_ble_eq_true rfl)⟩ rfl (q0 := 0) rfl (T := TX1) (N := 2) rfl gn_ok hE.1 [] ⟨0, 9, 12, 21⟩ [] htb (fun _ h9 => nomatch h9) rfl (by decide) (G.2.2.2.2.1 (.classLink RL 21 "java/lang/IndexOutOfBoundsException") (List.mem_cons_of_mem _ (List.mem_append_left _ (List.mem_append_left _ (List.mem_append_left _ (List.mem_append_left _ (List.mem_of_getElem? (i := 0) rfl))))))) (gl_cIOB hE.1) [1, 2, 3, 4, 5, 6, 7, 8, 9, 10, 11, 12, 13, 14, 15, 16, 17, 18, 19, 20, 21] rfl (by decide) [0] rfl (by decide) (by decide) [0, 1, 2, 3, 4, 5, 6, 7, 8, 9, 10, 11, 12, 13, 14, 15, 16, 17, 18, 19, 20, 21] rfl (by decide) rfl (Nat.le_of_ble_eq_true rfl) dL_willBeGroundAt_4 ⟨(Nat.le_of_ble_eq_true rfl), (Nat.le_of_ble_eq_true rfl)⟩ (fun x4 => ?_)
  show gk_C p l e ({ frames := 8, cells := 1, slots := 6, locals := 132 } : Room) s m ([.ref g, .int p0, .ref o] : List Value).toArray below meth c 4 D A Q (0 + 1) (0 + 6) (gw_O cJ o f ++ (gw_X cI cZ g h1 h2 q q2 u0)) [(0, .ref g), (1, .int p0), (2, .ref o)] 12 [.ref x4]
  refine gk_astore_n (lv' := [(3, .ref x4), (0, .ref g), (1, .int p0), (2, .ref o)]) G dL_willBeGroundAt_12 rfl (by decide) rfl ?_
  refine gk_iconst (v := nI 1) G dL_willBeGroundAt_13 (by decide) ?_
  exact RET _ _ _ _ _ _ (f, u0) dL_willBeGroundAt_14 rfl ⟨rfl, hr⟩ rfl (Nat.le_of_ble_eq_true rfl) (Nat.le_of_ble_eq_true rfl)
set_option maxRecDepth 100000 in
set_option maxHeartbeats 1000000 in
theorem cl_willBeGroundAt_ok (l : Launch) (D : va_G) (cI cZ cJ : ClassId) (o : Nat) (f : Nat → Int64) (g h1 h2 : Nat) (q q2 : Nat → Nat) (u0 : gw_U) (M : gm_M) (v : Nat) (wf : gm_wf M) (hr : gc_rep u0.1.1 u0.1.2 M) (hrest : gm_rest M) (hh : M 9 0 < 1999000) (hv : v < M 11 0) : gk_I l yL_willBeGroundAt wsL_willBeGroundAt ({ frames := 6, cells := 0, slots := 0, locals := 134 } : Room) D (g_T cI cZ cJ) gl_F [.ref g, .int (nI v), .ref o] (gw_O cJ o f ++ (gw_X cI cZ g h1 h2 q q2 u0)) 0 0 (fun (r : Int32) (u : (Nat → Int64) × gw_U) => r = nI 0 ∧ u.1 0 = (gm_e (gm_hrs M 200 8 v)).toInt64 ∧ gc_rep u.2.1.1 u.2.1.2 M) (fun u => (gw_O cJ o u.1 ++ (gw_X cI cZ g h1 h2 q q2 u.2))) := by
  refine gk_IH_of (ty := .int) (cc := cL_willBeGroundAt) (nL := 4) (by decide +kernel) rfl (Nat.le_of_ble_eq_true rfl) ?_
  intro p e s m below meth c A Q htb hE G RET
  refine gk_aload_n G dL_willBeGroundAt_0 2 rfl ?_
  refine gk_iconst (v := nI 0) G dL_willBeGroundAt_1 (by decide) ?_
  refine gk_aload_n G dL_willBeGroundAt_2 0 rfl ?_
  refine gk_iload_n G dL_willBeGroundAt_3 1 rfl ?_
  refine gk_callIV (wr := gw_O cJ o f) G (c1_willBeGroundAt_ok l D cI cZ cJ g h1 h2 q u0.1.1 u0.1.2 q2 u0.2.1 u0.2.2 M v wf hr hrest hh hv) gL_willBeGroundAt_X1_willBeGroundAt rfl 1 (by decide +kernel) rfl rfl ⟨(Nat.le_of_ble_eq_true rfl), (Nat.le_of_ble_eq_true rfl)⟩ rfl (q0 := 0) rfl (T := TX1) (N := 2) rfl gn_ok hE.1 [1, 2, 3, 4, 5, 6, 7, 8, 9, 10, 11, 12, 13, 14, 15, 16, 17, 18, 19, 20, 21] rfl (by decide) [0] rfl (by decide) (by decide) rfl (Nat.le_of_ble_eq_true rfl) dL_willBeGroundAt_4 ⟨(Nat.le_of_ble_eq_true rfl), (Nat.le_of_ble_eq_true rfl)⟩ (fun r4 u4 hp4 => ?_)
  show gk_C p l e ({ frames := 6, cells := 0, slots := 0, locals := 134 } : Room) s m ([.ref g, .int (nI v), .ref o] : List Value).toArray below meth c 4 D A Q 0 0 (gw_O cJ o f ++ (gw_X cI cZ g h1 h2 q q2 u4)) [(0, .ref g), (1, .int (nI v)), (2, .ref o)] 7 [.int r4, .int (nI 0), .ref o]
  refine gk_i2l (v := (r4).toInt64) G dL_willBeGroundAt_7 rfl ?_
  refine gk_last (w' := (gw_O cJ o (vp_updL f 0 ((r4).toInt64)) ++ (gw_X cI cZ g h1 h2 q q2 u4))) G (q0 := 0) (t0 := 2) rfl rfl 0 rfl (by decide) (by decide) rfl dL_willBeGroundAt_8 ?_
  refine gk_goto (tgt := 15) G dL_willBeGroundAt_9 (by decide) ?_
  refine gk_iconst (v := nI 0) G dL_willBeGroundAt_15 (by decide) ?_
  exact RET _ _ _ _ _ _ (vp_updL f 0 ((r4).toInt64), u4) dL_willBeGroundAt_16 rfl ⟨rfl, (gw_o0 f ((r4).toInt64)).trans (congrArg Int32.toInt64 hp4.1), hp4.2⟩ rfl (Nat.le_of_ble_eq_true rfl) (Nat.le_of_ble_eq_true rfl)
set_option maxRecDepth 100000 in
set_option maxHeartbeats 1000000 in
theorem cl_spareOf_no (l : Launch) (D : va_G) (cI cZ cJ : ClassId) (o : Nat) (f : Nat → Int64) (g h1 h2 : Nat) (q q2 : Nat → Nat) (u0 : gw_U) (M : gm_M) (hl9 : l.stackTraces = false) (p0 : Int32) (wf : gm_wf M) (hr : gc_rep u0.1.1 u0.1.2 M) (hb : ¬ gm_rg p0 0 (M 11 0)) : gk_I l yL_spareOf wsL_spareOf ({ frames := 8, cells := 1, slots := 6, locals := 132 } : Room) D (g_T cI cZ cJ) gl_F [.ref g, .int p0, .ref o] (gw_O cJ o f ++ (gw_X cI cZ g h1 h2 q q2 u0)) 1 6 (fun (r : Int32) (u : (Nat → Int64) × gw_U) => r = nI 1 ∧ gc_rep u.2.1.1 u.2.1.2 M) (fun u => (gw_O cJ o u.1 ++ (gw_X cI cZ g h1 h2 q q2 u.2))) := by
  refine gk_IH_of (ty := .int) (cc := cL_spareOf) (nL := 4) (by decide +kernel) rfl (Nat.le_of_ble_eq_true rfl) ?_
  intro p e s m below meth c A Q htb hE G RET
  refine gk_aload_n G dL_spareOf_0 2 rfl ?_
  refine gk_iconst (v := nI 0) G dL_spareOf_1 (by decide) ?_
  refine gk_aload_n G dL_spareOf_2 0 rfl ?_
  refine gk_iload_n G dL_spareOf_3 1 rfl ?_
  refine gk_callCV (wr := gw_O cJ o f) (w0 := (gw_O cJ o f ++ (gw_X cI cZ g h1 h2 q q2 u0))) G (c1_spareOf_no l D cI cZ cJ g h1 h2 q u0.1.1 u0.1.2 q2 u0.2.1 u0.2.2 M hl9 p0 wf hr hb) gL_spareOf_X1_spareOf rfl 1 (by decide +kernel) rfl rfl ⟨(Nat.le_of_ble_eq_true rfl), (Nat.le_of_ble_eq_true rfl)⟩ rfl (q0 := 0) rfl (T := TX1) (N := 2) rfl gn_ok hE.1 [] ⟨0, 9, 12, 21⟩ [] htb (fun _ h9 => nomatch h9) rfl (by decide) (G.2.2.2.2.1 (.classLink RL 21 "java/lang/IndexOutOfBoundsException") (List.mem_cons_of_mem _ (List.mem_append_left _ (List.mem_append_left _ (List.mem_append_left _ (List.mem_append_left _ (List.mem_of_getElem? (i := 0) rfl))))))) (gl_cIOB hE.1) [1, 2, 3, 4, 5, 6, 7, 8, 9, 10, 11, 12, 13, 14, 15, 16, 17, 18, 19, 20, 21] rfl (by decide) [0] rfl (by decide) (by decide) [0, 1, 2, 3, 4, 5, 6, 7, 8, 9, 10, 11, 12, 13, 14, 15, 16, 17, 18, 19, 20, 21] rfl (by decide) rfl (Nat.le_of_ble_eq_true rfl) dL_spareOf_4 ⟨(Nat.le_of_ble_eq_true rfl), (Nat.le_of_ble_eq_true rfl)⟩ (fun x4 => ?_)
  show gk_C p l e ({ frames := 8, cells := 1, slots := 6, locals := 132 } : Room) s m ([.ref g, .int p0, .ref o] : List Value).toArray below meth c 4 D A Q (0 + 1) (0 + 6) (gw_O cJ o f ++ (gw_X cI cZ g h1 h2 q q2 u0)) [(0, .ref g), (1, .int p0), (2, .ref o)] 12 [.ref x4]
  refine gk_astore_n (lv' := [(3, .ref x4), (0, .ref g), (1, .int p0), (2, .ref o)]) G dL_spareOf_12 rfl (by decide) rfl ?_
  refine gk_iconst (v := nI 1) G dL_spareOf_13 (by decide) ?_
  exact RET _ _ _ _ _ _ (f, u0) dL_spareOf_14 rfl ⟨rfl, hr⟩ rfl (Nat.le_of_ble_eq_true rfl) (Nat.le_of_ble_eq_true rfl)
set_option maxRecDepth 100000 in
set_option maxHeartbeats 1000000 in
theorem cl_spareOf_ok (l : Launch) (D : va_G) (cI cZ cJ : ClassId) (o : Nat) (f : Nat → Int64) (g h1 h2 : Nat) (q q2 : Nat → Nat) (u0 : gw_U) (M : gm_M) (v : Nat) (wf : gm_wf M) (hr : gc_rep u0.1.1 u0.1.2 M) (hrest : gm_rest M) (hh : M 9 0 < 1999000) (hv : v < M 11 0) : gk_I l yL_spareOf wsL_spareOf ({ frames := 6, cells := 0, slots := 0, locals := 134 } : Room) D (g_T cI cZ cJ) gl_F [.ref g, .int (nI v), .ref o] (gw_O cJ o f ++ (gw_X cI cZ g h1 h2 q q2 u0)) 0 0 (fun (r : Int32) (u : (Nat → Int64) × gw_U) => r = nI 0 ∧ u.1 0 = (gm_spr M v).toInt64 ∧ gc_rep u.2.1.1 u.2.1.2 M) (fun u => (gw_O cJ o u.1 ++ (gw_X cI cZ g h1 h2 q q2 u.2))) := by
  refine gk_IH_of (ty := .int) (cc := cL_spareOf) (nL := 4) (by decide +kernel) rfl (Nat.le_of_ble_eq_true rfl) ?_
  intro p e s m below meth c A Q htb hE G RET
  refine gk_aload_n G dL_spareOf_0 2 rfl ?_
  refine gk_iconst (v := nI 0) G dL_spareOf_1 (by decide) ?_
  refine gk_aload_n G dL_spareOf_2 0 rfl ?_
  refine gk_iload_n G dL_spareOf_3 1 rfl ?_
  refine gk_callIV (wr := gw_O cJ o f) G (c1_spareOf_ok l D cI cZ cJ g h1 h2 q u0.1.1 u0.1.2 q2 u0.2.1 u0.2.2 M v wf hr hrest hh hv) gL_spareOf_X1_spareOf rfl 1 (by decide +kernel) rfl rfl ⟨(Nat.le_of_ble_eq_true rfl), (Nat.le_of_ble_eq_true rfl)⟩ rfl (q0 := 0) rfl (T := TX1) (N := 2) rfl gn_ok hE.1 [1, 2, 3, 4, 5, 6, 7, 8, 9, 10, 11, 12, 13, 14, 15, 16, 17, 18, 19, 20, 21] rfl (by decide) [0] rfl (by decide) (by decide) rfl (Nat.le_of_ble_eq_true rfl) dL_spareOf_4 ⟨(Nat.le_of_ble_eq_true rfl), (Nat.le_of_ble_eq_true rfl)⟩ (fun r4 u4 hp4 => ?_)
  show gk_C p l e ({ frames := 6, cells := 0, slots := 0, locals := 134 } : Room) s m ([.ref g, .int (nI v), .ref o] : List Value).toArray below meth c 4 D A Q 0 0 (gw_O cJ o f ++ (gw_X cI cZ g h1 h2 q q2 u4)) [(0, .ref g), (1, .int (nI v)), (2, .ref o)] 7 [.int r4, .int (nI 0), .ref o]
  refine gk_i2l (v := (r4).toInt64) G dL_spareOf_7 rfl ?_
  refine gk_last (w' := (gw_O cJ o (vp_updL f 0 ((r4).toInt64)) ++ (gw_X cI cZ g h1 h2 q q2 u4))) G (q0 := 0) (t0 := 2) rfl rfl 0 rfl (by decide) (by decide) rfl dL_spareOf_8 ?_
  refine gk_goto (tgt := 15) G dL_spareOf_9 (by decide) ?_
  refine gk_iconst (v := nI 0) G dL_spareOf_15 (by decide) ?_
  exact RET _ _ _ _ _ _ (vp_updL f 0 ((r4).toInt64), u4) dL_spareOf_16 rfl ⟨rfl, (gw_o0 f ((r4).toInt64)).trans (congrArg Int32.toInt64 hp4.1), hp4.2⟩ rfl (Nat.le_of_ble_eq_true rfl) (Nat.le_of_ble_eq_true rfl)
set_option maxRecDepth 100000 in
set_option maxHeartbeats 1000000 in
theorem cl_lateWith_no (l : Launch) (D : va_G) (cI cZ cJ : ClassId) (o : Nat) (f : Nat → Int64) (g h1 h2 : Nat) (q q2 : Nat → Nat) (u0 : gw_U) (M : gm_M) (hl9 : l.stackTraces = false) (p0 p1 : Int32) (wf : gm_wf M) (hr : gc_rep u0.1.1 u0.1.2 M) (hb : ¬ gm_rg p0 0 3) : gk_I l yL_lateWith wsL_lateWith ({ frames := 8, cells := 1, slots := 6, locals := 132 } : Room) D (g_T cI cZ cJ) gl_F [.ref g, .int p0, .int p1, .ref o] (gw_O cJ o f ++ (gw_X cI cZ g h1 h2 q q2 u0)) 1 6 (fun (r : Int32) (u : (Nat → Int64) × gw_U) => r = nI 1 ∧ gc_rep u.2.1.1 u.2.1.2 M) (fun u => (gw_O cJ o u.1 ++ (gw_X cI cZ g h1 h2 q q2 u.2))) := by
  refine gk_IH_of (ty := .int) (cc := cL_lateWith) (nL := 5) (by decide +kernel) rfl (Nat.le_of_ble_eq_true rfl) ?_
  intro p e s m below meth c A Q htb hE G RET
  refine gk_aload_n G dL_lateWith_0 3 rfl ?_
  refine gk_iconst (v := nI 0) G dL_lateWith_1 (by decide) ?_
  refine gk_aload_n G dL_lateWith_2 0 rfl ?_
  refine gk_iload_n G dL_lateWith_3 1 rfl ?_
  refine gk_iload_n G dL_lateWith_4 2 rfl ?_
  refine gk_callCV (wr := gw_O cJ o f) (w0 := (gw_O cJ o f ++ (gw_X cI cZ g h1 h2 q q2 u0))) G (c1_lateWith_no l D cI cZ cJ g h1 h2 q u0.1.1 u0.1.2 q2 u0.2.1 u0.2.2 M hl9 p0 p1 wf hr hb) gL_lateWith_X1_lateWith rfl 2 (by decide +kernel) rfl rfl ⟨(Nat.le_of_ble_eq_true rfl), (Nat.le_of_ble_eq_true rfl)⟩ rfl (q0 := 0) rfl (T := TX1) (N := 2) rfl gn_ok hE.1 [] ⟨0, 10, 13, 13⟩ [] htb (fun _ h9 => nomatch h9) rfl (by decide) (G.2.2.2.2.1 (.classLink RL 13 "java/lang/IllegalArgumentException") (List.mem_cons_of_mem _ (List.mem_append_left _ (List.mem_append_left _ (List.mem_append_left _ (List.mem_append_left _ (List.mem_of_getElem? (i := 0) rfl))))))) (gl_cIAE hE.1) [1, 2, 3, 4, 5, 6, 7, 8, 9, 10, 11, 12, 13, 14, 15, 16, 17, 18, 19, 20, 21] rfl (by decide) [0] rfl (by decide) (by decide) [0, 1, 2, 3, 4, 5, 6, 7, 8, 9, 10, 11, 12, 13, 14, 15, 16, 17, 18, 19, 20, 21] rfl (by decide) rfl (Nat.le_of_ble_eq_true rfl) dL_lateWith_5 ⟨(Nat.le_of_ble_eq_true rfl), (Nat.le_of_ble_eq_true rfl)⟩ (fun x5 => ?_)
  show gk_C p l e ({ frames := 8, cells := 1, slots := 6, locals := 132 } : Room) s m ([.ref g, .int p0, .int p1, .ref o] : List Value).toArray below meth c 5 D A Q (0 + 1) (0 + 6) (gw_O cJ o f ++ (gw_X cI cZ g h1 h2 q q2 u0)) [(0, .ref g), (1, .int p0), (2, .int p1), (3, .ref o)] 13 [.ref x5]
  refine gk_astore (lv' := [(4, .ref x5), (0, .ref g), (1, .int p0), (2, .int p1), (3, .ref o)]) G dL_lateWith_13 (by decide) rfl ?_
  refine gk_iconst (v := nI 1) G dL_lateWith_15 (by decide) ?_
  exact RET _ _ _ _ _ _ (f, u0) dL_lateWith_16 rfl ⟨rfl, hr⟩ rfl (Nat.le_of_ble_eq_true rfl) (Nat.le_of_ble_eq_true rfl)
set_option maxRecDepth 100000 in
set_option maxHeartbeats 1000000 in
theorem cl_lateWith_ok (l : Launch) (D : va_G) (cI cZ cJ : ClassId) (o : Nat) (f : Nat → Int64) (g h1 h2 : Nat) (q q2 : Nat → Nat) (u0 : gw_U) (M : gm_M) (v vo : Nat) (wf : gm_wf M) (hr : gc_rep u0.1.1 u0.1.2 M) (hrest : gm_rest M) (hh : M 9 0 < 1999000) (hv : v < 3) (hvo : vo ≤ 1) : gk_I l yL_lateWith wsL_lateWith ({ frames := 5, cells := 0, slots := 0, locals := 115 } : Room) D (g_T cI cZ cJ) gl_F [.ref g, .int (nI v), .int (nI vo), .ref o] (gw_O cJ o f ++ (gw_X cI cZ g h1 h2 q q2 u0)) 0 0 (fun (r : Int32) (u : (Nat → Int64) × gw_U) => r = nI 0 ∧ u.1 0 = (nI (gm_lw M v vo)).toInt64 ∧ gc_rep u.2.1.1 u.2.1.2 M) (fun u => (gw_O cJ o u.1 ++ (gw_X cI cZ g h1 h2 q q2 u.2))) := by
  refine gk_IH_of (ty := .int) (cc := cL_lateWith) (nL := 5) (by decide +kernel) rfl (Nat.le_of_ble_eq_true rfl) ?_
  intro p e s m below meth c A Q htb hE G RET
  refine gk_aload_n G dL_lateWith_0 3 rfl ?_
  refine gk_iconst (v := nI 0) G dL_lateWith_1 (by decide) ?_
  refine gk_aload_n G dL_lateWith_2 0 rfl ?_
  refine gk_iload_n G dL_lateWith_3 1 rfl ?_
  refine gk_iload_n G dL_lateWith_4 2 rfl ?_
  refine gk_callIV (wr := gw_O cJ o f) G (c1_lateWith_ok l D cI cZ cJ g h1 h2 q u0.1.1 u0.1.2 q2 u0.2.1 u0.2.2 M v vo wf hr hrest hh hv hvo) gL_lateWith_X1_lateWith rfl 2 (by decide +kernel) rfl rfl ⟨(Nat.le_of_ble_eq_true rfl), (Nat.le_of_ble_eq_true rfl)⟩ rfl (q0 := 0) rfl (T := TX1) (N := 2) rfl gn_ok hE.1 [1, 2, 3, 4, 5, 6, 7, 8, 9, 10, 11, 12, 13, 14, 15, 16, 17, 18, 19, 20, 21] rfl (by decide) [0] rfl (by decide) (by decide) rfl (Nat.le_of_ble_eq_true rfl) dL_lateWith_5 ⟨(Nat.le_of_ble_eq_true rfl), (Nat.le_of_ble_eq_true rfl)⟩ (fun r5 u5 hp5 => ?_)
  show gk_C p l e ({ frames := 5, cells := 0, slots := 0, locals := 115 } : Room) s m ([.ref g, .int (nI v), .int (nI vo), .ref o] : List Value).toArray below meth c 5 D A Q 0 0 (gw_O cJ o f ++ (gw_X cI cZ g h1 h2 q q2 u5)) [(0, .ref g), (1, .int (nI v)), (2, .int (nI vo)), (3, .ref o)] 8 [.int r5, .int (nI 0), .ref o]
  refine gk_i2l (v := (r5).toInt64) G dL_lateWith_8 rfl ?_
  refine gk_last (w' := (gw_O cJ o (vp_updL f 0 ((r5).toInt64)) ++ (gw_X cI cZ g h1 h2 q q2 u5))) G (q0 := 0) (t0 := 2) rfl rfl 0 rfl (by decide) (by decide) rfl dL_lateWith_9 ?_
  refine gk_goto (tgt := 17) G dL_lateWith_10 (by decide) ?_
  refine gk_iconst (v := nI 0) G dL_lateWith_17 (by decide) ?_
  exact RET _ _ _ _ _ _ (vp_updL f 0 ((r5).toInt64), u5) dL_lateWith_18 rfl ⟨rfl, (gw_o0 f ((r5).toInt64)).trans (congrArg Int32.toInt64 hp5.1), hp5.2⟩ rfl (Nat.le_of_ble_eq_true rfl) (Nat.le_of_ble_eq_true rfl)
set_option maxRecDepth 100000 in
set_option maxHeartbeats 1000000 in
theorem cl_wouldBeInTime_no1 (l : Launch) (D : va_G) (cI cZ cJ : ClassId) (o : Nat) (f : Nat → Int64) (g h1 h2 : Nat) (q q2 : Nat → Nat) (u0 : gw_U) (M : gm_M) (hl9 : l.stackTraces = false) (p0 p1 : Int32) (wf : gm_wf M) (hr : gc_rep u0.1.1 u0.1.2 M) (hb : ¬ gm_rg p0 1 61) : gk_I l yL_wouldBeInTime wsL_wouldBeInTime ({ frames := 8, cells := 1, slots := 6, locals := 133 } : Room) D (g_T cI cZ cJ) gl_F [.ref g, .int p0, .int p1, .ref o] (gw_O cJ o f ++ (gw_X cI cZ g h1 h2 q q2 u0)) 1 6 (fun (r : Int32) (u : (Nat → Int64) × gw_U) => r = nI 1 ∧ gc_rep u.2.1.1 u.2.1.2 M) (fun u => (gw_O cJ o u.1 ++ (gw_X cI cZ g h1 h2 q q2 u.2))) := by
  refine gk_IH_of (ty := .int) (cc := cL_wouldBeInTime) (nL := 5) (by decide +kernel) rfl (Nat.le_of_ble_eq_true rfl) ?_
  intro p e s m below meth c A Q htb hE G RET
  refine gk_aload_n G dL_wouldBeInTime_0 3 rfl ?_
  refine gk_iconst (v := nI 0) G dL_wouldBeInTime_1 (by decide) ?_
  refine gk_aload_n G dL_wouldBeInTime_2 0 rfl ?_
  refine gk_iload_n G dL_wouldBeInTime_3 1 rfl ?_
  refine gk_iload_n G dL_wouldBeInTime_4 2 rfl ?_
  refine gk_callCV (wr := gw_O cJ o f) (w0 := (gw_O cJ o f ++ (gw_X cI cZ g h1 h2 q q2 u0))) G (c1_wouldBeInTime_no1 l D cI cZ cJ g h1 h2 q u0.1.1 u0.1.2 q2 u0.2.1 u0.2.2 M hl9 p0 p1 wf hr hb) gL_wouldBeInTime_X1_wouldBeInTime rfl 2 (by decide +kernel) rfl rfl ⟨(Nat.le_of_ble_eq_true rfl), (Nat.le_of_ble_eq_true rfl)⟩ rfl (q0 := 0) rfl (T := TX1) (N := 2) rfl gn_ok hE.1 [] ⟨0, 17, 20, 13⟩ [] htb (fun _ h9 => nomatch h9) rfl (by decide) (G.2.2.2.2.1 (.classLink RL 13 "java/lang/IllegalArgumentException") (List.mem_cons_of_mem _ (List.mem_append_left _ (List.mem_append_left _ (List.mem_append_left _ (List.mem_append_left _ (List.mem_of_getElem? (i := 0) rfl))))))) (gl_cIAE hE.1) [1, 2, 3, 4, 5, 6, 7, 8, 9, 10, 11, 12, 13, 14, 15, 16, 17, 18, 19, 20, 21] rfl (by decide) [0] rfl (by decide) (by decide) [0, 1, 2, 3, 4, 5, 6, 7, 8, 9, 10, 11, 12, 13, 14, 15, 16, 17, 18, 19, 20, 21] rfl (by decide) rfl (Nat.le_of_ble_eq_true rfl) dL_wouldBeInTime_5 ⟨(Nat.le_of_ble_eq_true rfl), (Nat.le_of_ble_eq_true rfl)⟩ (fun x5 => ?_)
  show gk_C p l e ({ frames := 8, cells := 1, slots := 6, locals := 133 } : Room) s m ([.ref g, .int p0, .int p1, .ref o] : List Value).toArray below meth c 5 D A Q (0 + 1) (0 + 6) (gw_O cJ o f ++ (gw_X cI cZ g h1 h2 q q2 u0)) [(0, .ref g), (1, .int p0), (2, .int p1), (3, .ref o)] 20 [.ref x5]
  refine gk_astore (lv' := [(4, .ref x5), (0, .ref g), (1, .int p0), (2, .int p1), (3, .ref o)]) G dL_wouldBeInTime_20 (by decide) rfl ?_
  refine gk_iconst (v := nI 1) G dL_wouldBeInTime_22 (by decide) ?_
  exact RET _ _ _ _ _ _ (f, u0) dL_wouldBeInTime_23 rfl ⟨rfl, hr⟩ rfl (Nat.le_of_ble_eq_true rfl) (Nat.le_of_ble_eq_true rfl)
set_option maxRecDepth 100000 in
set_option maxHeartbeats 1000000 in
theorem cl_wouldBeInTime_no2 (l : Launch) (D : va_G) (cI cZ cJ : ClassId) (o : Nat) (f : Nat → Int64) (g h1 h2 : Nat) (q q2 : Nat → Nat) (u0 : gw_U) (M : gm_M) (hl9 : l.stackTraces = false) (vg : Nat) (p1 : Int32) (wf : gm_wf M) (hr : gc_rep u0.1.1 u0.1.2 M) (hg0 : 1 ≤ vg) (hg1 : vg < 61) (hb : ¬ gm_rg p1 1 201) : gk_I l yL_wouldBeInTime wsL_wouldBeInTime ({ frames := 8, cells := 1, slots := 6, locals := 133 } : Room) D (g_T cI cZ cJ) gl_F [.ref g, .int (nI vg), .int p1, .ref o] (gw_O cJ o f ++ (gw_X cI cZ g h1 h2 q q2 u0)) 1 6 (fun (r : Int32) (u : (Nat → Int64) × gw_U) => r = nI 1 ∧ gc_rep u.2.1.1 u.2.1.2 M) (fun u => (gw_O cJ o u.1 ++ (gw_X cI cZ g h1 h2 q q2 u.2))) := by
  refine gk_IH_of (ty := .int) (cc := cL_wouldBeInTime) (nL := 5) (by decide +kernel) rfl (Nat.le_of_ble_eq_true rfl) ?_
  intro p e s m below meth c A Q htb hE G RET
  refine gk_aload_n G dL_wouldBeInTime_0 3 rfl ?_
  refine gk_iconst (v := nI 0) G dL_wouldBeInTime_1 (by decide) ?_
  refine gk_aload_n G dL_wouldBeInTime_2 0 rfl ?_
  refine gk_iload_n G dL_wouldBeInTime_3 1 rfl ?_
  refine gk_iload_n G dL_wouldBeInTime_4 2 rfl ?_
  refine gk_callCV (wr := gw_O cJ o f) (w0 := (gw_O cJ o f ++ (gw_X cI cZ g h1 h2 q q2 u0))) G (c1_wouldBeInTime_no2 l D cI cZ cJ g h1 h2 q u0.1.1 u0.1.2 q2 u0.2.1 u0.2.2 M hl9 vg p1 wf hr hg0 hg1 hb) gL_wouldBeInTime_X1_wouldBeInTime rfl 2 (by decide +kernel) rfl rfl ⟨(Nat.le_of_ble_eq_true rfl), (Nat.le_of_ble_eq_true rfl)⟩ rfl (q0 := 0) rfl (T := TX1) (N := 2) rfl gn_ok hE.1 [] ⟨0, 17, 20, 13⟩ [] htb (fun _ h9 => nomatch h9) rfl (by decide) (G.2.2.2.2.1 (.classLink RL 13 "java/lang/IllegalArgumentException") (List.mem_cons_of_mem _ (List.mem_append_left _ (List.mem_append_left _ (List.mem_append_left _ (List.mem_append_left _ (List.mem_of_getElem? (i := 0) rfl))))))) (gl_cIAE hE.1) [1, 2, 3, 4, 5, 6, 7, 8, 9, 10, 11, 12, 13, 14, 15, 16, 17, 18, 19, 20, 21] rfl (by decide) [0] rfl (by decide) (by decide) [0, 1, 2, 3, 4, 5, 6, 7, 8, 9, 10, 11, 12, 13, 14, 15, 16, 17, 18, 19, 20, 21] rfl (by decide) rfl (Nat.le_of_ble_eq_true rfl) dL_wouldBeInTime_5 ⟨(Nat.le_of_ble_eq_true rfl), (Nat.le_of_ble_eq_true rfl)⟩ (fun x5 => ?_)
  show gk_C p l e ({ frames := 8, cells := 1, slots := 6, locals := 133 } : Room) s m ([.ref g, .int (nI vg), .int p1, .ref o] : List Value).toArray below meth c 5 D A Q (0 + 1) (0 + 6) (gw_O cJ o f ++ (gw_X cI cZ g h1 h2 q q2 u0)) [(0, .ref g), (1, .int (nI vg)), (2, .int p1), (3, .ref o)] 20 [.ref x5]
  refine gk_astore (lv' := [(4, .ref x5), (0, .ref g), (1, .int (nI vg)), (2, .int p1), (3, .ref o)]) G dL_wouldBeInTime_20 (by decide) rfl ?_
  refine gk_iconst (v := nI 1) G dL_wouldBeInTime_22 (by decide) ?_
  exact RET _ _ _ _ _ _ (f, u0) dL_wouldBeInTime_23 rfl ⟨rfl, hr⟩ rfl (Nat.le_of_ble_eq_true rfl) (Nat.le_of_ble_eq_true rfl)
set_option maxRecDepth 100000 in
set_option maxHeartbeats 1000000 in
theorem cl_wouldBeInTime_full (l : Launch) (D : va_G) (cI cZ cJ : ClassId) (o : Nat) (f : Nat → Int64) (g h1 h2 : Nat) (q q2 : Nat → Nat) (u0 : gw_U) (M : gm_M) (vg vt : Nat) (wf : gm_wf M) (hr : gc_rep u0.1.1 u0.1.2 M) (hg0 : 1 ≤ vg) (hg1 : vg < 61) (ht0 : 1 ≤ vt) (ht1 : vt < 201) (h16 : M 11 0 = 16) : gk_I l yL_wouldBeInTime wsL_wouldBeInTime ({ frames := 2, cells := 0, slots := 0, locals := 43 } : Room) D (g_T cI cZ cJ) gl_F [.ref g, .int (nI vg), .int (nI vt), .ref o] (gw_O cJ o f ++ (gw_X cI cZ g h1 h2 q q2 u0)) 0 0 (fun (r : Int32) (u : (Nat → Int64) × gw_U) => r = nI 0 ∧ u.1 0 = (nI 0).toInt64 ∧ gc_rep u.2.1.1 u.2.1.2 M) (fun u => (gw_O cJ o u.1 ++ (gw_X cI cZ g h1 h2 q q2 u.2))) := by
  refine gk_IH_of (ty := .int) (cc := cL_wouldBeInTime) (nL := 5) (by decide +kernel) rfl (Nat.le_of_ble_eq_true rfl) ?_
  intro p e s m below meth c A Q htb hE G RET
  refine gk_aload_n G dL_wouldBeInTime_0 3 rfl ?_
  refine gk_iconst (v := nI 0) G dL_wouldBeInTime_1 (by decide) ?_
  refine gk_aload_n G dL_wouldBeInTime_2 0 rfl ?_
  refine gk_iload_n G dL_wouldBeInTime_3 1 rfl ?_
  refine gk_iload_n G dL_wouldBeInTime_4 2 rfl ?_
  refine gk_callIV (wr := gw_O cJ o f) G (c1_wouldBeInTime_full l D cI cZ cJ g h1 h2 q u0.1.1 u0.1.2 q2 u0.2.1 u0.2.2 M vg vt wf hr hg0 hg1 ht0 ht1 h16) gL_wouldBeInTime_X1_wouldBeInTime rfl 2 (by decide +kernel) rfl rfl ⟨(Nat.le_of_ble_eq_true rfl), (Nat.le_of_ble_eq_true rfl)⟩ rfl (q0 := 0) rfl (T := TX1) (N := 2) rfl gn_ok hE.1 [1, 2, 3, 4, 5, 6, 7, 8, 9, 10, 11, 12, 13, 14, 15, 16, 17, 18, 19, 20, 21] rfl (by decide) [0] rfl (by decide) (by decide) rfl (Nat.le_of_ble_eq_true rfl) dL_wouldBeInTime_5 ⟨(Nat.le_of_ble_eq_true rfl), (Nat.le_of_ble_eq_true rfl)⟩ (fun r5 u5 hp5 => ?_)
  show gk_C p l e ({ frames := 2, cells := 0, slots := 0, locals := 43 } : Room) s m ([.ref g, .int (nI vg), .int (nI vt), .ref o] : List Value).toArray below meth c 5 D A Q 0 0 (gw_O cJ o f ++ (gw_X cI cZ g h1 h2 q q2 u5)) [(0, .ref g), (1, .int (nI vg)), (2, .int (nI vt)), (3, .ref o)] 8 [.int r5, .int (nI 0), .ref o]
  refine gk_if_eq (tgt := 15) G dL_wouldBeInTime_8 (by decide) (fun c_8 => ?_) (fun c_8 => ?_)
  · refine gk_lconst (v := 0) G dL_wouldBeInTime_15 rfl ?_
    refine gk_last (w' := (gw_O cJ o (vp_updL f 0 0) ++ (gw_X cI cZ g h1 h2 q q2 u5))) G (q0 := 0) (t0 := 2) rfl rfl 0 rfl (by decide) (by decide) rfl dL_wouldBeInTime_16 ?_
    refine gk_goto (tgt := 24) G dL_wouldBeInTime_17 (by decide) ?_
    refine gk_iconst (v := nI 0) G dL_wouldBeInTime_24 (by decide) ?_
    exact RET _ _ _ _ _ _ (vp_updL f 0 0, u5) dL_wouldBeInTime_25 rfl ⟨rfl, (gw_o0 f 0), hp5.2⟩ rfl (Nat.le_of_ble_eq_true rfl) (Nat.le_of_ble_eq_true rfl)
  · exact absurd hp5.1 c_8
set_option maxRecDepth 100000 in
set_option maxHeartbeats 1000000 in
theorem cl_wouldBeInTime_ok (l : Launch) (D : va_G) (cI cZ cJ : ClassId) (o : Nat) (f : Nat → Int64) (g h1 h2 : Nat) (q q2 : Nat → Nat) (u0 : gw_U) (M : gm_M) (vg vt : Nat) (wf : gm_wf M) (hr : gc_rep u0.1.1 u0.1.2 M) (hrest : gm_rest M) (hh : M 9 0 < 1999000) (hg0 : 1 ≤ vg) (hg1 : vg < 61) (ht0 : 1 ≤ vt) (ht1 : vt < 201) (h16 : M 11 0 < 16) : gk_I l yL_wouldBeInTime wsL_wouldBeInTime ({ frames := 5, cells := 0, slots := 0, locals := 116 } : Room) D (g_T cI cZ cJ) gl_F [.ref g, .int (nI vg), .int (nI vt), .ref o] (gw_O cJ o f ++ (gw_X cI cZ g h1 h2 q q2 u0)) 0 0 (fun (r : Int32) (u : (Nat → Int64) × gw_U) => r = nI 0 ∧ u.1 0 = (gm_b (gm_wbt M vg vt)).toInt64 ∧ gc_rep u.2.1.1 u.2.1.2 M) (fun u => (gw_O cJ o u.1 ++ (gw_X cI cZ g h1 h2 q q2 u.2))) := by
  refine gk_IH_of (ty := .int) (cc := cL_wouldBeInTime) (nL := 5) (by decide +kernel) rfl (Nat.le_of_ble_eq_true rfl) ?_
  intro p e s m below meth c A Q htb hE G RET
  refine gk_aload_n G dL_wouldBeInTime_0 3 rfl ?_
  refine gk_iconst (v := nI 0) G dL_wouldBeInTime_1 (by decide) ?_
  refine gk_aload_n G dL_wouldBeInTime_2 0 rfl ?_
  refine gk_iload_n G dL_wouldBeInTime_3 1 rfl ?_
  refine gk_iload_n G dL_wouldBeInTime_4 2 rfl ?_
  refine gk_callIV (wr := gw_O cJ o f) G (c1_wouldBeInTime_ok l D cI cZ cJ g h1 h2 q u0.1.1 u0.1.2 q2 u0.2.1 u0.2.2 M vg vt wf hr hrest hh hg0 hg1 ht0 ht1 h16) gL_wouldBeInTime_X1_wouldBeInTime rfl 2 (by decide +kernel) rfl rfl ⟨(Nat.le_of_ble_eq_true rfl), (Nat.le_of_ble_eq_true rfl)⟩ rfl (q0 := 0) rfl (T := TX1) (N := 2) rfl gn_ok hE.1 [1, 2, 3, 4, 5, 6, 7, 8, 9, 10, 11, 12, 13, 14, 15, 16, 17, 18, 19, 20, 21] rfl (by decide) [0] rfl (by decide) (by decide) rfl (Nat.le_of_ble_eq_true rfl) dL_wouldBeInTime_5 ⟨(Nat.le_of_ble_eq_true rfl), (Nat.le_of_ble_eq_true rfl)⟩ (fun r5 u5 hp5 => ?_)
  show gk_C p l e ({ frames := 5, cells := 0, slots := 0, locals := 116 } : Room) s m ([.ref g, .int (nI vg), .int (nI vt), .ref o] : List Value).toArray below meth c 5 D A Q 0 0 (gw_O cJ o f ++ (gw_X cI cZ g h1 h2 q q2 u5)) [(0, .ref g), (1, .int (nI vg)), (2, .int (nI vt)), (3, .ref o)] 8 [.int r5, .int (nI 0), .ref o]
  refine gk_if_eq (tgt := 15) G dL_wouldBeInTime_8 (by decide) (fun c_8 => ?_) (fun c_8 => ?_)
  · refine gk_lconst (v := 0) G dL_wouldBeInTime_15 rfl ?_
    refine gk_last (w' := (gw_O cJ o (vp_updL f 0 0) ++ (gw_X cI cZ g h1 h2 q q2 u5))) G (q0 := 0) (t0 := 2) rfl rfl 0 rfl (by decide) (by decide) rfl dL_wouldBeInTime_16 ?_
    refine gk_goto (tgt := 24) G dL_wouldBeInTime_17 (by decide) ?_
    refine gk_iconst (v := nI 0) G dL_wouldBeInTime_24 (by decide) ?_
    exact RET _ _ _ _ _ _ (vp_updL f 0 0, u5) dL_wouldBeInTime_25 rfl ⟨rfl, ((gw_o0 f 0).trans (gw_b0 (by rw [← hp5.1]; exact c_8))), hp5.2⟩ rfl (Nat.le_of_ble_eq_true rfl) (Nat.le_of_ble_eq_true rfl)
  · refine gk_lconst (v := 1) G dL_wouldBeInTime_11 rfl ?_
    refine gk_goto (tgt := 16) G dL_wouldBeInTime_12 (by decide) ?_
    refine gk_last (w' := (gw_O cJ o (vp_updL f 0 1) ++ (gw_X cI cZ g h1 h2 q q2 u5))) G (q0 := 0) (t0 := 2) rfl rfl 0 rfl (by decide) (by decide) rfl dL_wouldBeInTime_16 ?_
    refine gk_goto (tgt := 24) G dL_wouldBeInTime_17 (by decide) ?_
    refine gk_iconst (v := nI 0) G dL_wouldBeInTime_24 (by decide) ?_
    exact RET _ _ _ _ _ _ (vp_updL f 0 1, u5) dL_wouldBeInTime_25 rfl ⟨rfl, ((gw_o0 f 1).trans (gw_b1 (by rw [← hp5.1]; exact c_8))), hp5.2⟩ rfl (Nat.le_of_ble_eq_true rfl) (Nat.le_of_ble_eq_true rfl)
set_option maxRecDepth 100000 in
set_option maxHeartbeats 1000000 in
theorem cl_groundIn_no (l : Launch) (D : va_G) (cI cZ cJ : ClassId) (o : Nat) (f : Nat → Int64) (g h1 h2 : Nat) (q q2 : Nat → Nat) (u0 : gw_U) (M : gm_M) (hl9 : l.stackTraces = false) (p0 : Int32) (wf : gm_wf M) (hr : gc_rep u0.1.1 u0.1.2 M) (hb : ¬ gm_rg p0 1 61) : gk_I l yL_groundIn wsL_groundIn ({ frames := 8, cells := 1, slots := 6, locals := 131 } : Room) D (g_T cI cZ cJ) gl_F [.ref g, .int p0, .ref o] (gw_O cJ o f ++ (gw_X cI cZ g h1 h2 q q2 u0)) 1 6 (fun (r : Int32) (u : (Nat → Int64) × gw_U) => r = nI 1 ∧ gc_rep u.2.1.1 u.2.1.2 M) (fun u => (gw_O cJ o u.1 ++ (gw_X cI cZ g h1 h2 q q2 u.2))) := by
  refine gk_IH_of (ty := .int) (cc := cL_groundIn) (nL := 4) (by decide +kernel) rfl (Nat.le_of_ble_eq_true rfl) ?_
  intro p e s m below meth c A Q htb hE G RET
  refine gk_aload_n G dL_groundIn_0 2 rfl ?_
  refine gk_iconst (v := nI 0) G dL_groundIn_1 (by decide) ?_
  refine gk_aload_n G dL_groundIn_2 0 rfl ?_
  refine gk_iload_n G dL_groundIn_3 1 rfl ?_
  refine gk_callCV (wr := gw_O cJ o f) (w0 := (gw_O cJ o f ++ (gw_X cI cZ g h1 h2 q q2 u0))) G (c1_groundIn_no l D cI cZ cJ g h1 h2 q u0.1.1 u0.1.2 q2 u0.2.1 u0.2.2 M hl9 p0 wf hr hb) gL_groundIn_X1_groundIn rfl 1 (by decide +kernel) rfl rfl ⟨(Nat.le_of_ble_eq_true rfl), (Nat.le_of_ble_eq_true rfl)⟩ rfl (q0 := 0) rfl (T := TX1) (N := 2) rfl gn_ok hE.1 [] ⟨0, 9, 12, 13⟩ [] htb (fun _ h9 => nomatch h9) rfl (by decide) (G.2.2.2.2.1 (.classLink RL 13 "java/lang/IllegalArgumentException") (List.mem_cons_of_mem _ (List.mem_append_left _ (List.mem_append_left _ (List.mem_append_left _ (List.mem_append_left _ (List.mem_of_getElem? (i := 0) rfl))))))) (gl_cIAE hE.1) [1, 2, 3, 4, 5, 6, 7, 8, 9, 10, 11, 12, 13, 14, 15, 16, 17, 18, 19, 20, 21] rfl (by decide) [0] rfl (by decide) (by decide) [0, 1, 2, 3, 4, 5, 6, 7, 8, 9, 10, 11, 12, 13, 14, 15, 16, 17, 18, 19, 20, 21] rfl (by decide) rfl (Nat.le_of_ble_eq_true rfl) dL_groundIn_4 ⟨(Nat.le_of_ble_eq_true rfl), (Nat.le_of_ble_eq_true rfl)⟩ (fun x4 => ?_)
  show gk_C p l e ({ frames := 8, cells := 1, slots := 6, locals := 131 } : Room) s m ([.ref g, .int p0, .ref o] : List Value).toArray below meth c 4 D A Q (0 + 1) (0 + 6) (gw_O cJ o f ++ (gw_X cI cZ g h1 h2 q q2 u0)) [(0, .ref g), (1, .int p0), (2, .ref o)] 12 [.ref x4]
  refine gk_astore_n (lv' := [(3, .ref x4), (0, .ref g), (1, .int p0), (2, .ref o)]) G dL_groundIn_12 rfl (by decide) rfl ?_
  refine gk_iconst (v := nI 1) G dL_groundIn_13 (by decide) ?_
  exact RET _ _ _ _ _ _ (f, u0) dL_groundIn_14 rfl ⟨rfl, hr⟩ rfl (Nat.le_of_ble_eq_true rfl) (Nat.le_of_ble_eq_true rfl)
set_option maxRecDepth 100000 in
set_option maxHeartbeats 1000000 in
theorem cl_groundIn_ok (l : Launch) (D : va_G) (cI cZ cJ : ClassId) (o : Nat) (f : Nat → Int64) (g h1 h2 : Nat) (q q2 : Nat → Nat) (u0 : gw_U) (M : gm_M) (v : Nat) (wf : gm_wf M) (hr : gc_rep u0.1.1 u0.1.2 M) (hrest : gm_rest M) (hh : M 9 0 < 1999000) (hv0 : 1 ≤ v) (hv : v < 61) : gk_I l yL_groundIn wsL_groundIn ({ frames := 5, cells := 0, slots := 0, locals := 114 } : Room) D (g_T cI cZ cJ) gl_F [.ref g, .int (nI v), .ref o] (gw_O cJ o f ++ (gw_X cI cZ g h1 h2 q q2 u0)) 0 0 (fun (r : Int32) (u : (Nat → Int64) × gw_U) => r = nI 0 ∧ u.1 0 = (nI (gm_hrs M v 16 0 - M 16 0)).toInt64 ∧ gc_rep u.2.1.1 u.2.1.2 M) (fun u => (gw_O cJ o u.1 ++ (gw_X cI cZ g h1 h2 q q2 u.2))) := by
  refine gk_IH_of (ty := .int) (cc := cL_groundIn) (nL := 4) (by decide +kernel) rfl (Nat.le_of_ble_eq_true rfl) ?_
  intro p e s m below meth c A Q htb hE G RET
  refine gk_aload_n G dL_groundIn_0 2 rfl ?_
  refine gk_iconst (v := nI 0) G dL_groundIn_1 (by decide) ?_
  refine gk_aload_n G dL_groundIn_2 0 rfl ?_
  refine gk_iload_n G dL_groundIn_3 1 rfl ?_
  refine gk_callIV (wr := gw_O cJ o f) G (c1_groundIn_ok l D cI cZ cJ g h1 h2 q u0.1.1 u0.1.2 q2 u0.2.1 u0.2.2 M v wf hr hrest hh hv0 hv) gL_groundIn_X1_groundIn rfl 1 (by decide +kernel) rfl rfl ⟨(Nat.le_of_ble_eq_true rfl), (Nat.le_of_ble_eq_true rfl)⟩ rfl (q0 := 0) rfl (T := TX1) (N := 2) rfl gn_ok hE.1 [1, 2, 3, 4, 5, 6, 7, 8, 9, 10, 11, 12, 13, 14, 15, 16, 17, 18, 19, 20, 21] rfl (by decide) [0] rfl (by decide) (by decide) rfl (Nat.le_of_ble_eq_true rfl) dL_groundIn_4 ⟨(Nat.le_of_ble_eq_true rfl), (Nat.le_of_ble_eq_true rfl)⟩ (fun r4 u4 hp4 => ?_)
  show gk_C p l e ({ frames := 5, cells := 0, slots := 0, locals := 114 } : Room) s m ([.ref g, .int (nI v), .ref o] : List Value).toArray below meth c 4 D A Q 0 0 (gw_O cJ o f ++ (gw_X cI cZ g h1 h2 q q2 u4)) [(0, .ref g), (1, .int (nI v)), (2, .ref o)] 7 [.int r4, .int (nI 0), .ref o]
  refine gk_i2l (v := (r4).toInt64) G dL_groundIn_7 rfl ?_
  refine gk_last (w' := (gw_O cJ o (vp_updL f 0 ((r4).toInt64)) ++ (gw_X cI cZ g h1 h2 q q2 u4))) G (q0 := 0) (t0 := 2) rfl rfl 0 rfl (by decide) (by decide) rfl dL_groundIn_8 ?_
  refine gk_goto (tgt := 15) G dL_groundIn_9 (by decide) ?_
  refine gk_iconst (v := nI 0) G dL_groundIn_15 (by decide) ?_
  exact RET _ _ _ _ _ _ (vp_updL f 0 ((r4).toInt64), u4) dL_groundIn_16 rfl ⟨rfl, (gw_o0 f ((r4).toInt64)).trans (congrArg Int32.toInt64 hp4.1), hp4.2⟩ rfl (Nat.le_of_ble_eq_true rfl) (Nat.le_of_ble_eq_true rfl)
