set_option maxRecDepth 100000 in
set_option maxHeartbeats 1000000 in
theorem cl_addStone_no (l : Launch) (D : va_G) (cI cZ cJ : ClassId) (o : Nat) (f : Nat → Int64) (g h1 h2 : Nat) (q q2 : Nat → Nat) (u0 : gw_U) (M : gm_M) (hl9 : l.stackTraces = false) (p0 : Int32) (wf : gm_wf M) (hr : gc_rep u0.1.1 u0.1.2 M) (hb : ¬ gm_rg p0 1 10) : gk_I l yL_addStone wsL_addStone ({ frames := 7, cells := 1, slots := 6, locals := 111 } : Room) D (g_T cI cZ cJ) gl_F [.ref g, .int p0, .ref o] (gw_O cJ o f ++ (gw_X cI cZ g h1 h2 q q2 u0)) 1 6 (fun (r : Int32) (u : (Nat → Int64) × gw_U) => r = nI 1 ∧ gc_rep u.2.1.1 u.2.1.2 M) (fun u => (gw_O cJ o u.1 ++ (gw_X cI cZ g h1 h2 q q2 u.2))) := by
  refine gk_IH_of (ty := .int) (cc := cL_addStone) (nL := 4) (by decide +kernel) rfl (Nat.le_of_ble_eq_true rfl) ?_
  intro p e s m below meth c A Q htb hE G RET
  refine gk_aload_n G dL_addStone_0 2 rfl ?_
  refine gk_iconst (v := nI 0) G dL_addStone_1 (by decide) ?_
  refine gk_aload_n G dL_addStone_2 0 rfl ?_
  refine gk_iload_n G dL_addStone_3 1 rfl ?_
  refine gk_callCV (wr := gw_O cJ o f) (w0 := (gw_O cJ o f ++ (gw_X cI cZ g h1 h2 q q2 u0))) G (c1_addStone_no l D cI cZ cJ g h1 h2 q u0.1.1 u0.1.2 q2 u0.2.1 u0.2.2 M hl9 p0 wf hr hb) gL_addStone_X1_addStone rfl 1 (by decide +kernel) rfl rfl ⟨(Nat.le_of_ble_eq_true rfl), (Nat.le_of_ble_eq_true rfl)⟩ rfl (q0 := 0) rfl (T := TX1) (N := 2) rfl gn_ok hE.1 [] ⟨0, 9, 12, 13⟩ [⟨0, 9, 15, 15⟩] htb (fun _ h9 => nomatch h9) rfl (by decide) (G.2.2.2.2.1 (.classLink RL 13 "java/lang/IllegalArgumentException") (List.mem_cons_of_mem _ (List.mem_append_left _ (List.mem_append_left _ (List.mem_append_left _ (List.mem_append_left _ (List.mem_of_getElem? (i := 0) rfl))))))) (gl_cIAE hE.1) [1, 2, 3, 4, 5, 6, 7, 8, 9, 10, 11, 12, 13, 14, 15, 16, 17, 18, 19, 20, 21] rfl (by decide) [0] rfl (by decide) (by decide) [0, 1, 2, 3, 4, 5, 6, 7, 8, 9, 10, 11, 12, 13, 14, 15, 16, 17, 18, 19, 20, 21] rfl (by decide) rfl (Nat.le_of_ble_eq_true rfl) dL_addStone_4 ⟨(Nat.le_of_ble_eq_true rfl), (Nat.le_of_ble_eq_true rfl)⟩ (fun x4 => ?_)
  show gk_C p l e ({ frames := 7, cells := 1, slots := 6, locals := 111 } : Room) s m ([.ref g, .int p0, .ref o] : List Value).toArray below meth c 4 D A Q (0 + 1) (0 + 6) (gw_O cJ o f ++ (gw_X cI cZ g h1 h2 q q2 u0)) [(0, .ref g), (1, .int p0), (2, .ref o)] 12 [.ref x4]
  refine gk_astore_n (lv' := [(3, .ref x4), (0, .ref g), (1, .int p0), (2, .ref o)]) G dL_addStone_12 rfl (by decide) rfl ?_
  refine gk_iconst (v := nI 1) G dL_addStone_13 (by decide) ?_
  exact RET _ _ _ _ _ _ (f, u0) dL_addStone_14 rfl ⟨rfl, hr⟩ rfl (Nat.le_of_ble_eq_true rfl) (Nat.le_of_ble_eq_true rfl)
set_option maxRecDepth 100000 in
set_option maxHeartbeats 1000000 in
theorem cl_addStone_full (l : Launch) (D : va_G) (cI cZ cJ : ClassId) (o : Nat) (f : Nat → Int64) (g h1 h2 : Nat) (q q2 : Nat → Nat) (u0 : gw_U) (M : gm_M) (hl9 : l.stackTraces = false) (v : Nat) (wf : gm_wf M) (hr : gc_rep u0.1.1 u0.1.2 M) (hv0 : 1 ≤ v) (hv : v < 10) (h4 : M 10 0 = 4) : gk_I l yL_addStone wsL_addStone ({ frames := 7, cells := 1, slots := 6, locals := 111 } : Room) D (g_T cI cZ cJ) gl_F [.ref g, .int (nI v), .ref o] (gw_O cJ o f ++ (gw_X cI cZ g h1 h2 q q2 u0)) 1 6 (fun (r : Int32) (u : (Nat → Int64) × gw_U) => r = nI 2 ∧ gc_rep u.2.1.1 u.2.1.2 M) (fun u => (gw_O cJ o u.1 ++ (gw_X cI cZ g h1 h2 q q2 u.2))) := by
  refine gk_IH_of (ty := .int) (cc := cL_addStone) (nL := 4) (by decide +kernel) rfl (Nat.le_of_ble_eq_true rfl) ?_
  intro p e s m below meth c A Q htb hE G RET
  refine gk_aload_n G dL_addStone_0 2 rfl ?_
  refine gk_iconst (v := nI 0) G dL_addStone_1 (by decide) ?_
  refine gk_aload_n G dL_addStone_2 0 rfl ?_
  refine gk_iload_n G dL_addStone_3 1 rfl ?_
  refine gk_callCV (wr := gw_O cJ o f) (w0 := (gw_O cJ o f ++ (gw_X cI cZ g h1 h2 q q2 u0))) G (c1_addStone_full l D cI cZ cJ g h1 h2 q u0.1.1 u0.1.2 q2 u0.2.1 u0.2.2 M hl9 v wf hr hv0 hv h4) gL_addStone_X1_addStone rfl 1 (by decide +kernel) rfl rfl ⟨(Nat.le_of_ble_eq_true rfl), (Nat.le_of_ble_eq_true rfl)⟩ rfl (q0 := 0) rfl (T := TX1) (N := 2) rfl gn_ok hE.1 [⟨0, 9, 12, 13⟩] ⟨0, 9, 15, 15⟩ [] htb (fun z hz => by obtain rfl := List.mem_singleton.mp hz; exact Or.inr ⟨by decide, _, (G.2.2.2.2.1 (.classLink RL 13 "java/lang/IllegalArgumentException") (List.mem_cons_of_mem _ (List.mem_append_left _ (List.mem_append_left _ (List.mem_append_left _ (List.mem_append_left _ (List.mem_of_getElem? (i := 0) rfl))))))), hE.2 _ (List.mem_of_getElem? (i := 0) rfl)⟩) rfl (by decide) (G.2.2.2.2.1 (.classLink RL 15 "java/lang/IllegalStateException") (List.mem_cons_of_mem _ (List.mem_append_left _ (List.mem_append_left _ (List.mem_append_left _ (List.mem_append_left _ (List.mem_of_getElem? (i := 1) rfl))))))) (gl_cISE hE.1) [1, 2, 3, 4, 5, 6, 7, 8, 9, 10, 11, 12, 13, 14, 15, 16, 17, 18, 19, 20, 21] rfl (by decide) [0] rfl (by decide) (by decide) [0, 1, 2, 3, 4, 5, 6, 7, 8, 9, 10, 11, 12, 13, 14, 15, 16, 17, 18, 19, 20, 21] rfl (by decide) rfl (Nat.le_of_ble_eq_true rfl) dL_addStone_4 ⟨(Nat.le_of_ble_eq_true rfl), (Nat.le_of_ble_eq_true rfl)⟩ (fun x4 => ?_)
  show gk_C p l e ({ frames := 7, cells := 1, slots := 6, locals := 111 } : Room) s m ([.ref g, .int (nI v), .ref o] : List Value).toArray below meth c 4 D A Q (0 + 1) (0 + 6) (gw_O cJ o f ++ (gw_X cI cZ g h1 h2 q q2 u0)) [(0, .ref g), (1, .int (nI v)), (2, .ref o)] 15 [.ref x4]
  refine gk_astore_n (lv' := [(3, .ref x4), (0, .ref g), (1, .int (nI v)), (2, .ref o)]) G dL_addStone_15 rfl (by decide) rfl ?_
  refine gk_iconst (v := nI 2) G dL_addStone_16 (by decide) ?_
  exact RET _ _ _ _ _ _ (f, u0) dL_addStone_17 rfl ⟨rfl, hr⟩ rfl (Nat.le_of_ble_eq_true rfl) (Nat.le_of_ble_eq_true rfl)
set_option maxRecDepth 100000 in
set_option maxHeartbeats 1000000 in
theorem cl_addStone_ok (l : Launch) (D : va_G) (cI cZ cJ : ClassId) (o : Nat) (f : Nat → Int64) (g h1 h2 : Nat) (q q2 : Nat → Nat) (u0 : gw_U) (M : gm_M) (v : Nat) (wf : gm_wf M) (hr : gc_rep u0.1.1 u0.1.2 M) (hv0 : 1 ≤ v) (hv : v < 10) (h4 : M 10 0 < 4) : gk_I l yL_addStone wsL_addStone ({ frames := 2, cells := 0, slots := 0, locals := 43 } : Room) D (g_T cI cZ cJ) gl_F [.ref g, .int (nI v), .ref o] (gw_O cJ o f ++ (gw_X cI cZ g h1 h2 q q2 u0)) 0 0 (fun (r : Int32) (u : (Nat → Int64) × gw_U) => r = nI 0 ∧ u.1 0 = (nI (M 10 0)).toInt64 ∧ gc_rep u.2.1.1 u.2.1.2 (gm_adds M v)) (fun u => (gw_O cJ o u.1 ++ (gw_X cI cZ g h1 h2 q q2 u.2))) := by
  refine gk_IH_of (ty := .int) (cc := cL_addStone) (nL := 4) (by decide +kernel) rfl (Nat.le_of_ble_eq_true rfl) ?_
  intro p e s m below meth c A Q htb hE G RET
  refine gk_aload_n G dL_addStone_0 2 rfl ?_
  refine gk_iconst (v := nI 0) G dL_addStone_1 (by decide) ?_
  refine gk_aload_n G dL_addStone_2 0 rfl ?_
  refine gk_iload_n G dL_addStone_3 1 rfl ?_
  refine gk_callIV (wr := gw_O cJ o f) G (c1_addStone_ok l D cI cZ cJ g h1 h2 q u0.1.1 u0.1.2 q2 u0.2.1 u0.2.2 M v wf hr hv0 hv h4) gL_addStone_X1_addStone rfl 1 (by decide +kernel) rfl rfl ⟨(Nat.le_of_ble_eq_true rfl), (Nat.le_of_ble_eq_true rfl)⟩ rfl (q0 := 0) rfl (T := TX1) (N := 2) rfl gn_ok hE.1 [1, 2, 3, 4, 5, 6, 7, 8, 9, 10, 11, 12, 13, 14, 15, 16, 17, 18, 19, 20, 21] rfl (by decide) [0] rfl (by decide) (by decide) rfl (Nat.le_of_ble_eq_true rfl) dL_addStone_4 ⟨(Nat.le_of_ble_eq_true rfl), (Nat.le_of_ble_eq_true rfl)⟩ (fun r4 u4 hp4 => ?_)
  show gk_C p l e ({ frames := 2, cells := 0, slots := 0, locals := 43 } : Room) s m ([.ref g, .int (nI v), .ref o] : List Value).toArray below meth c 4 D A Q 0 0 (gw_O cJ o f ++ (gw_X cI cZ g h1 h2 q q2 u4)) [(0, .ref g), (1, .int (nI v)), (2, .ref o)] 7 [.int r4, .int (nI 0), .ref o]
  refine gk_i2l (v := (r4).toInt64) G dL_addStone_7 rfl ?_
  refine gk_last (w' := (gw_O cJ o (vp_updL f 0 ((r4).toInt64)) ++ (gw_X cI cZ g h1 h2 q q2 u4))) G (q0 := 0) (t0 := 2) rfl rfl 0 rfl (by decide) (by decide) rfl dL_addStone_8 ?_
  refine gk_goto (tgt := 18) G dL_addStone_9 (by decide) ?_
  refine gk_iconst (v := nI 0) G dL_addStone_18 (by decide) ?_
  exact RET _ _ _ _ _ _ (vp_updL f 0 ((r4).toInt64), u4) dL_addStone_19 rfl ⟨rfl, (gw_o0 _ _).trans (congrArg Int32.toInt64 hp4.1), hp4.2⟩ rfl (Nat.le_of_ble_eq_true rfl) (Nat.le_of_ble_eq_true rfl)
set_option maxRecDepth 100000 in
set_option maxHeartbeats 1000000 in
theorem cl_wouldBeInTime_no1 (l : Launch) (D : va_G) (cI cZ cJ : ClassId) (o : Nat) (f : Nat → Int64) (g h1 h2 : Nat) (q q2 : Nat → Nat) (u0 : gw_U) (M : gm_M) (hl9 : l.stackTraces = false) (p0 p1 : Int32) (wf : gm_wf M) (hr : gc_rep u0.1.1 u0.1.2 M) (hb : ¬ gm_rg p0 1 61) : gk_I l yL_wouldBeInTime wsL_wouldBeInTime ({ frames := 8, cells := 1, slots := 6, locals := 133 } : Room) D (g_T cI cZ cJ) gl_F [.ref g, .int p0, .int p1, .ref o] (gw_O cJ o f ++ (gw_X cI cZ g h1 h2 q q2 u0)) 1 6 (fun (r : Int32) (u : (Nat → Int64) × gw_U) => r = nI 1 ∧ gc_rep u.2.1.1 u.2.1.2 M) (fun u => (gw_O cJ o u.1 ++ (gw_X cI cZ g h1 h2 q q2 u.2))) := by
  refine gk_IH_of (ty := .int) (cc := cL_wouldBeInTime) (nL := 5) (by decide +kernel) rfl (Nat.le_of_ble_eq_true rfl) ?_
  intro p e s m below meth c A Q htb hE G RET
  refine gk_aload_n G dL_wouldBeInTime_0 3 rfl ?_
  refine gk_iconst (v := nI 0) G dL_wouldBeInTime_1 (by decide) ?_
  refine gk_aload_n G dL_wouldBeInTime_2 0 rfl ?_
  refine gk_iload_n G dL_wouldBeInTime_3 1 rfl ?_
  refine gk_iload_n G dL_wouldBeInTime_4 2 rfl ?_
  refine gk_callCV (wr := gw_O cJ o f) (w0 := (gw_O cJ o f ++ (gw_X cI cZ g h1 h2 q q2 u0))) G (c1_wouldBeInTime_no1 l D cI cZ cJ g h1 h2 q u0.1.1 u0.1.2 q2 u0.2.1 u0.2.2 M hl9 p0 p1 wf hr hb) gL_wouldBeInTime_X1_wouldBeInTime rfl 2 (by decide +kernel) rfl rfl ⟨(Nat.le_of_ble_eq_true rfl), (Nat.le_of_ble_eq_true rfl)⟩ rfl (q0 := 0) rfl (T := TX1) (N := 2) rfl gn_ok hE.1 [] ⟨0, 17, 20, 13⟩ [] htb (fun _ h9 => nomatch h9) rfl (by decide) (G.2.2.2.2.1 (.classLink RL 13 "java/lang/IllegalArgumentException") (List.mem_cons_of_mem _ (List.mem_append_left _ (List.mem_append_left _ (List.mem_append_left _ (List.mem_append_left _ (List.mem_of_getElem? (i := 0) rfl))))))) (gl_cIAE hE.1) [1, 2, 3, 4, 5, 6, 7, 8, 9, 10, 11, 12, 13, 14, 15, 16, 17, 18, 19, 20, 21] rfl (by decide) [0] rfl (by decide) (by decide) [0, 1, 2, 3, 4, 5, 6, 7, 8, 9, 10, 11, 12, 13, 14, 15, 16, 17, 18, 19, 20, 21] rfl (by decide) rfl (Nat.le_of_ble_eq_true rfl) dL_wouldBeInTime_5 ⟨(Nat.le_of_ble_eq_true rfl), (Nat.le_of_ble_eq_true rfl)⟩ (fun x5 => ?_)
  show gk_C p l e ({ frames := 8, cells := 1, slots := 6, locals := 133 } : Room) s m ([.ref g, .int p0, .int p1, .ref o] : List Value).toArray below meth c 5 D A Q (0 + 1) (0 + 6) (gw_O cJ o f ++ (gw_X cI cZ g h1 h2 q q2 u0)) [(0, .ref g), (1, .int p0), (2, .int p1), (3, .ref o)] 20 [.ref x5]
  refine gk_astore (lv' := [(4, .ref x5), (0, .ref g), (1, .int p0), (2, .int p1), (3, .ref o)]) G dL_wouldBeInTime_20 (by decide) rfl ?_
  refine gk_iconst (v := nI 1) G dL_wouldBeInTime_22 (by decide) ?_
  exact RET _ _ _ _ _ _ (f, u0) dL_wouldBeInTime_23 rfl ⟨rfl, hr⟩ rfl (Nat.le_of_ble_eq_true rfl) (Nat.le_of_ble_eq_true rfl)
set_option maxRecDepth 100000 in
set_option maxHeartbeats 1000000 in
theorem cl_wouldBeInTime_no2 (l : Launch) (D : va_G) (cI cZ cJ : ClassId) (o : Nat) (f : Nat → Int64) (g h1 h2 : Nat) (q q2 : Nat → Nat) (u0 : gw_U) (M : gm_M) (hl9 : l.stackTraces = false) (vg : Nat) (p1 : Int32) (wf : gm_wf M) (hr : gc_rep u0.1.1 u0.1.2 M) (hg0 : 1 ≤ vg) (hg1 : vg < 61) (hb : ¬ gm_rg p1 1 201) : gk_I l yL_wouldBeInTime wsL_wouldBeInTime ({ frames := 8, cells := 1, slots := 6, locals := 133 } : Room) D (g_T cI cZ cJ) gl_F [.ref g, .int (nI vg), .int p1, .ref o] (gw_O cJ o f ++ (gw_X cI cZ g h1 h2 q q2 u0)) 1 6 (fun (r : Int32) (u : (Nat → Int64) × gw_U) => r = nI 1 ∧ gc_rep u.2.1.1 u.2.1.2 M) (fun u => (gw_O cJ o u.1 ++ (gw_X cI cZ g h1 h2 q q2 u.2))) := by
  refine gk_IH_of (ty := .int) (cc := cL_wouldBeInTime) (nL := 5) (by decide +kernel) rfl (Nat.le_of_ble_eq_true rfl) ?_
  intro p e s m below meth c A Q htb hE G RET
  refine gk_aload_n G dL_wouldBeInTime_0 3 rfl ?_
  refine gk_iconst (v := nI 0) G dL_wouldBeInTime_1 (by decide) ?_
  refine gk_aload_n G dL_wouldBeInTime_2 0 rfl ?_
  refine gk_iload_n G dL_wouldBeInTime_3 1 rfl ?_
  refine gk_iload_n G dL_wouldBeInTime_4 2 rfl ?_
  refine gk_callCV (wr := gw_O cJ o f) (w0 := (gw_O cJ o f ++ (gw_X cI cZ g h1 h2 q q2 u0))) G (c1_wouldBeInTime_no2 l D cI cZ cJ g h1 h2 q u0.1.1 u0.1.2 q2 u0.2.1 u0.2.2 M hl9 vg p1 wf hr hg0 hg1 hb) gL_wouldBeInTime_X1_wouldBeInTime rfl 2 (by decide +kernel) rfl rfl ⟨(Nat.le_of_ble_eq_true rfl), (Nat.le_of_ble_eq_true rfl)⟩ rfl (q0 := 0) rfl (T := TX1) (N := 2) rfl gn_ok hE.1 [] ⟨0, 17, 20, 13⟩ [] htb (fun _ h9 => nomatch h9) rfl (by decide) (G.2.2.2.2.1 (.classLink RL 13 "java/lang/IllegalArgumentException") (List.mem_cons_of_mem _ (List.mem_append_left _ (List.mem_append_left _ (List.mem_append_left _ (List.mem_append_left _ (List.mem_of_getElem? (i := 0) rfl))))))) (gl_cIAE hE.1) [1, 2, 3, 4, 5, 6, 7, 8, 9, 10, 11, 12, 13, 14, 15, 16, 17, 18, 19, 20, 21] rfl (by decide) [0] rfl (by decide) (by decide) [0, 1, 2, 3, 4, 5, 6, 7, 8, 9, 10, 11, 12, 13, 14, 15, 16, 17, 18, 19, 20, 21] rfl (by decide) rfl (Nat.le_of_ble_eq_true rfl) dL_wouldBeInTime_5 ⟨(Nat.le_of_ble_eq_true rfl), (Nat.le_of_ble_eq_true rfl)⟩ (fun x5 => ?_)
  show gk_C p l e ({ frames := 8, cells := 1, slots := 6, locals := 133 } : Room) s m ([.ref g, .int (nI vg), .int p1, .ref o] : List Value).toArray below meth c 5 D A Q (0 + 1) (0 + 6) (gw_O cJ o f ++ (gw_X cI cZ g h1 h2 q q2 u0)) [(0, .ref g), (1, .int (nI vg)), (2, .int p1), (3, .ref o)] 20 [.ref x5]
  refine gk_astore (lv' := [(4, .ref x5), (0, .ref g), (1, .int (nI vg)), (2, .int p1), (3, .ref o)]) G dL_wouldBeInTime_20 (by decide) rfl ?_
  refine gk_iconst (v := nI 1) G dL_wouldBeInTime_22 (by decide) ?_
  exact RET _ _ _ _ _ _ (f, u0) dL_wouldBeInTime_23 rfl ⟨rfl, hr⟩ rfl (Nat.le_of_ble_eq_true rfl) (Nat.le_of_ble_eq_true rfl)
set_option maxRecDepth 100000 in
set_option maxHeartbeats 1000000 in
theorem cl_wouldBeInTime_full (l : Launch) (D : va_G) (cI cZ cJ : ClassId) (o : Nat) (f : Nat → Int64) (g h1 h2 : Nat) (q q2 : Nat → Nat) (u0 : gw_U) (M : gm_M) (vg vt : Nat) (wf : gm_wf M) (hr : gc_rep u0.1.1 u0.1.2 M) (hg0 : 1 ≤ vg) (hg1 : vg < 61) (ht0 : 1 ≤ vt) (ht1 : vt < 201) (h16 : M 11 0 = 16) : gk_I l yL_wouldBeInTime wsL_wouldBeInTime ({ frames := 2, cells := 0, slots := 0, locals := 43 } : Room) D (g_T cI cZ cJ) gl_F [.ref g, .int (nI vg), .int (nI vt), .ref o] (gw_O cJ o f ++ (gw_X cI cZ g h1 h2 q q2 u0)) 0 0 (fun (r : Int32) (u : (Nat → Int64) × gw_U) => r = nI 0 ∧ u.1 0 = (nI 0).toInt64 ∧ gc_rep u.2.1.1 u.2.1.2 M) (fun u => (gw_O cJ o u.1 ++ (gw_X cI cZ g h1 h2 q q2 u.2))) := by
  refine gk_IH_of (ty := .int) (cc := cL_wouldBeInTime) (nL := 5) (by decide +kernel) rfl (Nat.le_of_ble_eq_true rfl) ?_
  intro p e s m below meth c A Q htb hE G RET
  refine gk_aload_n G dL_wouldBeInTime_0 3 rfl ?_
  refine gk_iconst (v := nI 0) G dL_wouldBeInTime_1 (by decide) ?_
  refine gk_aload_n G dL_wouldBeInTime_2 0 rfl ?_
  refine gk_iload_n G dL_wouldBeInTime_3 1 rfl ?_
  refine gk_iload_n G dL_wouldBeInTime_4 2 rfl ?_
  refine gk_callIV (wr := gw_O cJ o f) G (c1_wouldBeInTime_full l D cI cZ cJ g h1 h2 q u0.1.1 u0.1.2 q2 u0.2.1 u0.2.2 M vg vt wf hr hg0 hg1 ht0 ht1 h16) gL_wouldBeInTime_X1_wouldBeInTime rfl 2 (by decide +kernel) rfl rfl ⟨(Nat.le_of_ble_eq_true rfl), (Nat.le_of_ble_eq_true rfl)⟩ rfl (q0 := 0) rfl (T := TX1) (N := 2) rfl gn_ok hE.1 [1, 2, 3, 4, 5, 6, 7, 8, 9, 10, 11, 12, 13, 14, 15, 16, 17, 18, 19, 20, 21] rfl (by decide) [0] rfl (by decide) (by decide) rfl (Nat.le_of_ble_eq_true rfl) dL_wouldBeInTime_5 ⟨(Nat.le_of_ble_eq_true rfl), (Nat.le_of_ble_eq_true rfl)⟩ (fun r5 u5 hp5 => ?_)
  show gk_C p l e ({ frames := 2, cells := 0, slots := 0, locals := 43 } : Room) s m ([.ref g, .int (nI vg), .int (nI vt), .ref o] : List Value).toArray below meth c 5 D A Q 0 0 (gw_O cJ o f ++ (gw_X cI cZ g h1 h2 q q2 u5)) [(0, .ref g), (1, .int (nI vg)), (2, .int (nI vt)), (3, .ref o)] 8 [.int r5, .int (nI 0), .ref o]
  refine gk_if_eq (tgt := 15) G dL_wouldBeInTime_8 (by decide) (fun c_8 => ?_) (fun c_8 => ?_)
  · refine gk_lconst (v := 0) G dL_wouldBeInTime_15 rfl ?_
    refine gk_last (w' := (gw_O cJ o (vp_updL f 0 0) ++ (gw_X cI cZ g h1 h2 q q2 u5))) G (q0 := 0) (t0 := 2) rfl rfl 0 rfl (by decide) (by decide) rfl dL_wouldBeInTime_16 ?_
    refine gk_goto (tgt := 24) G dL_wouldBeInTime_17 (by decide) ?_
    refine gk_iconst (v := nI 0) G dL_wouldBeInTime_24 (by decide) ?_
    exact RET _ _ _ _ _ _ (vp_updL f 0 0, u5) dL_wouldBeInTime_25 rfl ⟨rfl, (gw_o0 _ _), hp5.2⟩ rfl (Nat.le_of_ble_eq_true rfl) (Nat.le_of_ble_eq_true rfl)
  · exact absurd hp5.1 c_8
set_option maxRecDepth 100000 in
set_option maxHeartbeats 1000000 in
theorem cl_wouldBeInTime_ok (l : Launch) (D : va_G) (cI cZ cJ : ClassId) (o : Nat) (f : Nat → Int64) (g h1 h2 : Nat) (q q2 : Nat → Nat) (u0 : gw_U) (M : gm_M) (vg vt : Nat) (wf : gm_wf M) (hr : gc_rep u0.1.1 u0.1.2 M) (hrest : gm_rest M) (hh : M 9 0 < 1999000) (hg0 : 1 ≤ vg) (hg1 : vg < 61) (ht0 : 1 ≤ vt) (ht1 : vt < 201) (h16 : M 11 0 < 16) : gk_I l yL_wouldBeInTime wsL_wouldBeInTime ({ frames := 5, cells := 0, slots := 0, locals := 116 } : Room) D (g_T cI cZ cJ) gl_F [.ref g, .int (nI vg), .int (nI vt), .ref o] (gw_O cJ o f ++ (gw_X cI cZ g h1 h2 q q2 u0)) 0 0 (fun (r : Int32) (u : (Nat → Int64) × gw_U) => r = nI 0 ∧ u.1 0 = (gm_b (gm_wbt M vg vt)).toInt64 ∧ gc_rep u.2.1.1 u.2.1.2 M) (fun u => (gw_O cJ o u.1 ++ (gw_X cI cZ g h1 h2 q q2 u.2))) := by
  refine gk_IH_of (ty := .int) (cc := cL_wouldBeInTime) (nL := 5) (by decide +kernel) rfl (Nat.le_of_ble_eq_true rfl) ?_
  intro p e s m below meth c A Q htb hE G RET
  refine gk_aload_n G dL_wouldBeInTime_0 3 rfl ?_
  refine gk_iconst (v := nI 0) G dL_wouldBeInTime_1 (by decide) ?_
  refine gk_aload_n G dL_wouldBeInTime_2 0 rfl ?_
  refine gk_iload_n G dL_wouldBeInTime_3 1 rfl ?_
  refine gk_iload_n G dL_wouldBeInTime_4 2 rfl ?_
  refine gk_callIV (wr := gw_O cJ o f) G (c1_wouldBeInTime_ok l D cI cZ cJ g h1 h2 q u0.1.1 u0.1.2 q2 u0.2.1 u0.2.2 M vg vt wf hr hrest hh hg0 hg1 ht0 ht1 h16) gL_wouldBeInTime_X1_wouldBeInTime rfl 2 (by decide +kernel) rfl rfl ⟨(Nat.le_of_ble_eq_true rfl), (Nat.le_of_ble_eq_true rfl)⟩ rfl (q0 := 0) rfl (T := TX1) (N := 2) rfl gn_ok hE.1 [1, 2, 3, 4, 5, 6, 7, 8, 9, 10, 11, 12, 13, 14, 15, 16, 17, 18, 19, 20, 21] rfl (by decide) [0] rfl (by decide) (by decide) rfl (Nat.le_of_ble_eq_true rfl) dL_wouldBeInTime_5 ⟨(Nat.le_of_ble_eq_true rfl), (Nat.le_of_ble_eq_true rfl)⟩ (fun r5 u5 hp5 => ?_)
  show gk_C p l e ({ frames := 5, cells := 0, slots := 0, locals := 116 } : Room) s m ([.ref g, .int (nI vg), .int (nI vt), .ref o] : List Value).toArray below meth c 5 D A Q 0 0 (gw_O cJ o f ++ (gw_X cI cZ g h1 h2 q q2 u5)) [(0, .ref g), (1, .int (nI vg)), (2, .int (nI vt)), (3, .ref o)] 8 [.int r5, .int (nI 0), .ref o]
  refine gk_if_eq (tgt := 15) G dL_wouldBeInTime_8 (by decide) (fun c_8 => ?_) (fun c_8 => ?_)
  · refine gk_lconst (v := 0) G dL_wouldBeInTime_15 rfl ?_
    refine gk_last (w' := (gw_O cJ o (vp_updL f 0 0) ++ (gw_X cI cZ g h1 h2 q q2 u5))) G (q0 := 0) (t0 := 2) rfl rfl 0 rfl (by decide) (by decide) rfl dL_wouldBeInTime_16 ?_
    refine gk_goto (tgt := 24) G dL_wouldBeInTime_17 (by decide) ?_
    refine gk_iconst (v := nI 0) G dL_wouldBeInTime_24 (by decide) ?_
    exact RET _ _ _ _ _ _ (vp_updL f 0 0, u5) dL_wouldBeInTime_25 rfl ⟨rfl, ((gw_o0 _ _).trans (gw_b0 (by rw [← hp5.1]; exact c_8))), hp5.2⟩ rfl (Nat.le_of_ble_eq_true rfl) (Nat.le_of_ble_eq_true rfl)
  · refine gk_lconst (v := 1) G dL_wouldBeInTime_11 rfl ?_
    refine gk_goto (tgt := 16) G dL_wouldBeInTime_12 (by decide) ?_
    refine gk_last (w' := (gw_O cJ o (vp_updL f 0 1) ++ (gw_X cI cZ g h1 h2 q q2 u5))) G (q0 := 0) (t0 := 2) rfl rfl 0 rfl (by decide) (by decide) rfl dL_wouldBeInTime_16 ?_
    refine gk_goto (tgt := 24) G dL_wouldBeInTime_17 (by decide) ?_
    refine gk_iconst (v := nI 0) G dL_wouldBeInTime_24 (by decide) ?_
    exact RET _ _ _ _ _ _ (vp_updL f 0 1, u5) dL_wouldBeInTime_25 rfl ⟨rfl, ((gw_o0 _ _).trans (gw_b1 (by rw [← hp5.1]; exact c_8))), hp5.2⟩ rfl (Nat.le_of_ble_eq_true rfl) (Nat.le_of_ble_eq_true rfl)
