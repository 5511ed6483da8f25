/-! CALLS OF THE CLASS, with other cells before and behind; written by wip/p35/gen_q.py -/
theorem gk_pc {α : Type} {l1 l2 : List α} (h : ∀ (d : DecidableEq α) (x : α), l1.count x = l2.count x) : l1.Perm l2 := by
  haveI : DecidableEq α := fun a b => Classical.propDecidable (a = b)
  exact List.perm_iff_count.mpr (h _)
theorem gk_pY (Y X U : va_W) : (Y ++ (X ++ U)).Perm ((Y ++ U) ++ X) := gk_pc (fun _ x => by simp only [List.count_append]; omega)
theorem gk_pYb (Y X U : va_W) : ((Y ++ U) ++ X).Perm (Y ++ (X ++ U)) := gk_pc (fun _ x => by simp only [List.count_append]; omega)
section GQ
variable {p : Program} {l : Launch} {e : Env} {R : Room} {s : State} {m : MethodId} {args : Array Value} {below : List Frame} {meth : Method} {c : Code}
variable {own : String} {nL : Nat} {cc : ByteArray} {Ts : List Cond} {D : va_G} {cI cZ cJ : ClassId} {A : Nat → Prop} {cells slots pc idx : Nat} {Q : State → Prop} {Y U : va_W} {lv : List (Nat × Value)} {st : List Value} {ret : Option FieldType} {g h1 h2 : Nat} {q1 q2 : Nat → Nat} {u : gw_U} {M : gm_M}
set_option maxHeartbeats 1000000 in
theorem gq_addStone_ok (G : gk_G p s m args meth c own nL cc ret Ts D (g_T cI cZ cJ) A) (hT : GoodIn Ts (wsV own idx RX1 yX1_addStone wsX1_addStone)) (hE : gn_E A s s.heap) (hR : 1 + 1 ≤ R.frames ∧ 8 + (2 + 11) + 22 ≤ R.locals) (hcs : cells ≤ R.cells ∧ slots ≤ R.slots) (v : Nat) (wf : gm_wf M) (hr : gc_rep u.1.1 u.1.2 M) (hv0 : 1 ≤ v) (hv : v < 10) (h4 : M 10 0 < 4) (hroom : (st.map fun v => v.category).sum ≤ 8) (d : decode cc pc = .ok (.invokevirtual idx, 3))
    (K : ∀ u' : gw_U, gc_rep u'.1.1 u'.1.2 (gm_adds M v) → gk_C p l e R s m args below meth c nL D A Q cells slots (Y ++ (gw_X cI cZ g h1 h2 q1 q2 u' ++ U)) lv (pc + 3) (.int (nI (M 10 0)) :: st)) : gk_C p l e R s m args below meth c nL D A Q cells slots (Y ++ (gw_X cI cZ g h1 h2 q1 q2 u ++ U)) lv pc (.int (nI v) :: .ref g :: st) := by
  refine gp_callIV (wr := Y ++ U) G (c1_addStone_ok l D cI cZ cJ g h1 h2 q1 u.1.1 u.1.2 q2 u.2.1 u.2.2 M v wf hr hv0 hv h4) hT rfl 1 (by decide +kernel) rfl rfl hR rfl (q0 := 0) rfl (T := TX1) (N := 2) rfl gn_ok hE (gk_pY _ _ _) rfl hroom d hcs (fun r u' hp => ?_)
  refine gk_perm (gk_pYb _ _ _) ?_
  rw [hp.1]
  exact K u' hp.2
set_option maxHeartbeats 1000000 in
theorem gq_setWind_ok (G : gk_G p s m args meth c own nL cc ret Ts D (g_T cI cZ cJ) A) (hT : GoodIn Ts (wsV own idx RX1 yX1_setWind wsX1_setWind)) (hE : gn_E A s s.heap) (hR : 0 + 1 ≤ R.frames ∧ 8 + (4 + 11) + 0 ≤ R.locals) (hcs : cells ≤ R.cells ∧ slots ≤ R.slots) (v x : Nat) (wf : gm_wf M) (hr : gc_rep u.1.1 u.1.2 M) (hv : v < 12) (hx : x < 21) (hroom : (st.map fun v => v.category).sum ≤ 8) (d : decode cc pc = .ok (.invokevirtual idx, 3))
    (K : ∀ u' : gw_U, gc_rep u'.1.1 u'.1.2 (gm_set M 0 v x) → gk_C p l e R s m args below meth c nL D A Q cells slots (Y ++ (gw_X cI cZ g h1 h2 q1 q2 u' ++ U)) lv (pc + 3) (.int (nI (M 0 v)) :: st)) : gk_C p l e R s m args below meth c nL D A Q cells slots (Y ++ (gw_X cI cZ g h1 h2 q1 q2 u ++ U)) lv pc (.int (nI x) :: .int (nI v) :: .ref g :: st) := by
  refine gp_callIV (wr := Y ++ U) G (c1_setWind_ok l D cI cZ cJ g h1 h2 q1 u.1.1 u.1.2 q2 u.2.1 u.2.2 M v x wf hr hv hx) hT rfl 2 (by decide +kernel) rfl rfl hR rfl (q0 := 0) rfl (T := TX1) (N := 2) rfl gn_ok hE (gk_pY _ _ _) rfl hroom d hcs (fun r u' hp => ?_)
  refine gk_perm (gk_pYb _ _ _) ?_
  rw [hp.1]
  exact K u' hp.2
set_option maxHeartbeats 1000000 in
theorem gq_setRule_ok (G : gk_G p s m args meth c own nL cc ret Ts D (g_T cI cZ cJ) A) (hT : GoodIn Ts (wsV own idx RX1 yX1_setRule wsX1_setRule)) (hE : gn_E A s s.heap) (hR : 1 + 1 ≤ R.frames ∧ 8 + (3 + 11) + 20 ≤ R.locals) (hcs : cells ≤ R.cells ∧ slots ≤ R.slots) (v : Nat) (wf : gm_wf M) (hr : gc_rep u.1.1 u.1.2 M) (hv : v < 3) (hroom : (st.map fun v => v.category).sum ≤ 8) (d : decode cc pc = .ok (.invokevirtual idx, 3))
    (K : ∀ u' : gw_U, gc_rep u'.1.1 u'.1.2 (gm_set M 14 0 v) → gk_C p l e R s m args below meth c nL D A Q cells slots (Y ++ (gw_X cI cZ g h1 h2 q1 q2 u' ++ U)) lv (pc + 3) (.int (nI (M 14 0)) :: st)) : gk_C p l e R s m args below meth c nL D A Q cells slots (Y ++ (gw_X cI cZ g h1 h2 q1 q2 u ++ U)) lv pc (.int (nI v) :: .ref g :: st) := by
  refine gp_callIV (wr := Y ++ U) G (c1_setRule_ok l D cI cZ cJ g h1 h2 q1 u.1.1 u.1.2 q2 u.2.1 u.2.2 M v wf hr hv) hT rfl 1 (by decide +kernel) rfl rfl hR rfl (q0 := 0) rfl (T := TX1) (N := 2) rfl gn_ok hE (gk_pY _ _ _) rfl hroom d hcs (fun r u' hp => ?_)
  refine gk_perm (gk_pYb _ _ _) ?_
  rw [hp.1]
  exact K u' hp.2
set_option maxHeartbeats 1000000 in
theorem gq_setTakingOff (G : gk_G p s m args meth c own nL cc ret Ts D (g_T cI cZ cJ) A) (hT : GoodIn Ts (wsV own idx RX1 yX1_setTakingOff wsX1_setTakingOff)) (hE : gn_E A s s.heap) (hR : 0 + 1 ≤ R.frames ∧ 8 + (3 + 11) + 0 ≤ R.locals) (hcs : cells ≤ R.cells ∧ slots ≤ R.slots) (v : Nat) (wf : gm_wf M) (hr : gc_rep u.1.1 u.1.2 M) (hv1 : v ≤ 1) (hroom : (st.map fun v => v.category).sum ≤ 8) (d : decode cc pc = .ok (.invokevirtual idx, 3))
    (K : ∀ u' : gw_U, gc_rep u'.1.1 u'.1.2 (gm_set M 15 0 v) → gk_C p l e R s m args below meth c nL D A Q cells slots (Y ++ (gw_X cI cZ g h1 h2 q1 q2 u' ++ U)) lv (pc + 3) (.int (nI (M 15 0)) :: st)) : gk_C p l e R s m args below meth c nL D A Q cells slots (Y ++ (gw_X cI cZ g h1 h2 q1 q2 u ++ U)) lv pc (.int (nI v) :: .ref g :: st) := by
  refine gp_callIV (wr := Y ++ U) G (c1_setTakingOff l D cI cZ cJ g h1 h2 q1 u.1.1 u.1.2 q2 u.2.1 u.2.2 M v wf hr hv1) hT rfl 1 (by decide +kernel) rfl rfl hR rfl (q0 := 0) rfl (T := TX1) (N := 2) rfl gn_ok hE (gk_pY _ _ _) rfl hroom d hcs (fun r u' hp => ?_)
  refine gk_perm (gk_pYb _ _ _) ?_
  rw [hp.1]
  exact K u' hp.2
set_option maxHeartbeats 1000000 in
theorem gq_bring_ok (G : gk_G p s m args meth c own nL cc ret Ts D (g_T cI cZ cJ) A) (hT : GoodIn Ts (wsV own idx RX1 yX1_bring wsX1_bring)) (hE : gn_E A s s.heap) (hR : 1 + 1 ≤ R.frames ∧ 8 + (4 + 11) + 24 ≤ R.locals) (hcs : cells ≤ R.cells ∧ slots ≤ R.slots) (vb vg vt : Nat) (wf : gm_wf M) (hr : gc_rep u.1.1 u.1.2 M) (hb0 : vb < 8) (hg0 : 1 ≤ vg) (hg1 : vg < 61) (ht0 : 1 ≤ vt) (ht1 : vt < 201) (h16 : M 11 0 < 16) (hroom : (st.map fun v => v.category).sum ≤ 8) (d : decode cc pc = .ok (.invokevirtual idx, 3))
    (K : ∀ u' : gw_U, gc_rep u'.1.1 u'.1.2 (gm_add M vb vg vt) → gk_C p l e R s m args below meth c nL D A Q cells slots (Y ++ (gw_X cI cZ g h1 h2 q1 q2 u' ++ U)) lv (pc + 3) (.int (nI (M 11 0)) :: st)) : gk_C p l e R s m args below meth c nL D A Q cells slots (Y ++ (gw_X cI cZ g h1 h2 q1 q2 u ++ U)) lv pc (.int (nI vt) :: .int (nI vg) :: .int (nI vb) :: .ref g :: st) := by
  refine gp_callIV (wr := Y ++ U) G (c1_bring_ok l D cI cZ cJ g h1 h2 q1 u.1.1 u.1.2 q2 u.2.1 u.2.2 M vb vg vt wf hr hb0 hg0 hg1 ht0 ht1 h16) hT rfl 3 (by decide +kernel) rfl rfl hR rfl (q0 := 0) rfl (T := TX1) (N := 2) rfl gn_ok hE (gk_pY _ _ _) rfl hroom d hcs (fun r u' hp => ?_)
  refine gk_perm (gk_pYb _ _ _) ?_
  rw [hp.1]
  exact K u' hp.2
set_option maxHeartbeats 1000000 in
theorem gq_lift_ok (G : gk_G p s m args meth c own nL cc ret Ts D (g_T cI cZ cJ) A) (hT : GoodIn Ts (wsV own idx RX1 yX1_lift wsX1_lift)) (hE : gn_E A s s.heap) (hR : 1 + 1 ≤ R.frames ∧ 8 + (3 + 11) + 22 ≤ R.locals) (hcs : cells ≤ R.cells ∧ slots ≤ R.slots) (v : Nat) (wf : gm_wf M) (hr : gc_rep u.1.1 u.1.2 M) (hv : v < M 11 0) (h0 : M 7 v ≠ 0) (hroom : (st.map fun v => v.category).sum ≤ 8) (d : decode cc pc = .ok (.invokevirtual idx, 3))
    (K : ∀ u' : gw_U, gc_rep u'.1.1 u'.1.2 (gm_set M 7 v 0) → gk_C p l e R s m args below meth c nL D A Q cells slots (Y ++ (gw_X cI cZ g h1 h2 q1 q2 u' ++ U)) lv (pc + 3) (.int (gm_e (M 7 v)) :: st)) : gk_C p l e R s m args below meth c nL D A Q cells slots (Y ++ (gw_X cI cZ g h1 h2 q1 q2 u ++ U)) lv pc (.int (nI v) :: .ref g :: st) := by
  refine gp_callIV (wr := Y ++ U) G (c1_lift_ok l D cI cZ cJ g h1 h2 q1 u.1.1 u.1.2 q2 u.2.1 u.2.2 M v wf hr hv h0) hT rfl 1 (by decide +kernel) rfl rfl hR rfl (q0 := 0) rfl (T := TX1) (N := 2) rfl gn_ok hE (gk_pY _ _ _) rfl hroom d hcs (fun r u' hp => ?_)
  refine gk_perm (gk_pYb _ _ _) ?_
  rw [hp.1]
  exact K u' hp.2
set_option maxHeartbeats 1000000 in
theorem gq_setUntil_ok (G : gk_G p s m args meth c own nL cc ret Ts D (g_T cI cZ cJ) A) (hT : GoodIn Ts (wsV own idx RX1 yX1_setUntil wsX1_setUntil)) (hE : gn_E A s s.heap) (hR : 1 + 1 ≤ R.frames ∧ 8 + (4 + 11) + 21 ≤ R.locals) (hcs : cells ≤ R.cells ∧ slots ≤ R.slots) (v x : Nat) (wf : gm_wf M) (hr : gc_rep u.1.1 u.1.2 M) (hv : v < M 11 0) (hx0 : 1 ≤ x) (hx : x < 201) (hroom : (st.map fun v => v.category).sum ≤ 8) (d : decode cc pc = .ok (.invokevirtual idx, 3))
    (K : ∀ u' : gw_U, gc_rep u'.1.1 u'.1.2 (gm_set M 6 v x) → gk_C p l e R s m args below meth c nL D A Q cells slots (Y ++ (gw_X cI cZ g h1 h2 q1 q2 u' ++ U)) lv (pc + 3) (.int (nI (M 6 v)) :: st)) : gk_C p l e R s m args below meth c nL D A Q cells slots (Y ++ (gw_X cI cZ g h1 h2 q1 q2 u ++ U)) lv pc (.int (nI x) :: .int (nI v) :: .ref g :: st) := by
  refine gp_callIV (wr := Y ++ U) G (c1_setUntil_ok l D cI cZ cJ g h1 h2 q1 u.1.1 u.1.2 q2 u.2.1 u.2.2 M v x wf hr hv hx0 hx) hT rfl 2 (by decide +kernel) rfl rfl hR rfl (q0 := 0) rfl (T := TX1) (N := 2) rfl gn_ok hE (gk_pY _ _ _) rfl hroom d hcs (fun r u' hp => ?_)
  refine gk_perm (gk_pYb _ _ _) ?_
  rw [hp.1]
  exact K u' hp.2
set_option maxHeartbeats 1000000 in
theorem gq_pass_ok (G : gk_G p s m args meth c own nL cc ret Ts D (g_T cI cZ cJ) A) (hT : GoodIn Ts (wsV own idx RX1 yX1_pass wsX1_pass)) (hE : gn_E A s s.heap) (hR : 4 + 1 ≤ R.frames ∧ 8 + (2 + 11) + 93 ≤ R.locals) (hcs : cells ≤ R.cells ∧ slots ≤ R.slots) (v : Nat) (wf : gm_wf M) (hr : gc_rep u.1.1 u.1.2 M) (hrest : gm_rest M) (hh : M 9 0 < 1999000) (hv0 : 1 ≤ v) (hv : v < 61) (hroom : (st.map fun v => v.category).sum ≤ 8) (d : decode cc pc = .ok (.invokevirtual idx, 3))
    (K : ∀ u' : gw_U, gc_rep u'.1.1 u'.1.2 (gm_hrs M v) → gk_C p l e R s m args below meth c nL D A Q cells slots (Y ++ (gw_X cI cZ g h1 h2 q1 q2 u' ++ U)) lv (pc + 3) (.int (nI (gm_hrs M v 16 0 - M 16 0)) :: st)) : gk_C p l e R s m args below meth c nL D A Q cells slots (Y ++ (gw_X cI cZ g h1 h2 q1 q2 u ++ U)) lv pc (.int (nI v) :: .ref g :: st) := by
  refine gp_callIV (wr := Y ++ U) G (c1_pass_ok l D cI cZ cJ g h1 h2 q1 u.1.1 u.1.2 q2 u.2.1 u.2.2 M v wf hr hrest hh hv0 hv) hT rfl 1 (by decide +kernel) rfl rfl hR rfl (q0 := 0) rfl (T := TX1) (N := 2) rfl gn_ok hE (gk_pY _ _ _) rfl hroom d hcs (fun r u' hp => ?_)
  refine gk_perm (gk_pYb _ _ _) ?_
  rw [hp.1]
  exact K u' hp.2
set_option maxHeartbeats 1000000 in
theorem gq_hour (G : gk_G p s m args meth c own nL cc ret Ts D (g_T cI cZ cJ) A) (hT : GoodIn Ts (wsV own idx RX1 yX1_hour wsX1_hour)) (hE : gn_E A s s.heap) (hR : 0 + 1 ≤ R.frames ∧ 8 + (1 + 11) + 0 ≤ R.locals) (hcs : cells ≤ R.cells ∧ slots ≤ R.slots)  (wf : gm_wf M) (hr : gc_rep u.1.1 u.1.2 M)  (hroom : (st.map fun v => v.category).sum ≤ 8) (d : decode cc pc = .ok (.invokevirtual idx, 3))
    (K : ∀ u' : gw_U, gc_rep u'.1.1 u'.1.2 M → gk_C p l e R s m args below meth c nL D A Q cells slots (Y ++ (gw_X cI cZ g h1 h2 q1 q2 u' ++ U)) lv (pc + 3) (.int (nI (M 9 0)) :: st)) : gk_C p l e R s m args below meth c nL D A Q cells slots (Y ++ (gw_X cI cZ g h1 h2 q1 q2 u ++ U)) lv pc (.ref g :: st) := by
  refine gp_callIV (wr := Y ++ U) G (c1_hour l D cI cZ cJ g h1 h2 q1 u.1.1 u.1.2 q2 u.2.1 u.2.2 M wf hr) hT rfl 0 (by decide +kernel) rfl rfl hR rfl (q0 := 0) rfl (T := TX1) (N := 2) rfl gn_ok hE (gk_pY _ _ _) rfl hroom d hcs (fun r u' hp => ?_)
  refine gk_perm (gk_pYb _ _ _) ?_
  rw [hp.1]
  exact K u' hp.2
set_option maxHeartbeats 1000000 in
theorem gq_stones (G : gk_G p s m args meth c own nL cc ret Ts D (g_T cI cZ cJ) A) (hT : GoodIn Ts (wsV own idx RX1 yX1_stones wsX1_stones)) (hE : gn_E A s s.heap) (hR : 0 + 1 ≤ R.frames ∧ 8 + (1 + 11) + 0 ≤ R.locals) (hcs : cells ≤ R.cells ∧ slots ≤ R.slots)  (wf : gm_wf M) (hr : gc_rep u.1.1 u.1.2 M)  (hroom : (st.map fun v => v.category).sum ≤ 8) (d : decode cc pc = .ok (.invokevirtual idx, 3))
    (K : ∀ u' : gw_U, gc_rep u'.1.1 u'.1.2 M → gk_C p l e R s m args below meth c nL D A Q cells slots (Y ++ (gw_X cI cZ g h1 h2 q1 q2 u' ++ U)) lv (pc + 3) (.int (nI (M 10 0)) :: st)) : gk_C p l e R s m args below meth c nL D A Q cells slots (Y ++ (gw_X cI cZ g h1 h2 q1 q2 u ++ U)) lv pc (.ref g :: st) := by
  refine gp_callIV (wr := Y ++ U) G (c1_stones l D cI cZ cJ g h1 h2 q1 u.1.1 u.1.2 q2 u.2.1 u.2.2 M wf hr) hT rfl 0 (by decide +kernel) rfl rfl hR rfl (q0 := 0) rfl (T := TX1) (N := 2) rfl gn_ok hE (gk_pY _ _ _) rfl hroom d hcs (fun r u' hp => ?_)
  refine gk_perm (gk_pYb _ _ _) ?_
  rw [hp.1]
  exact K u' hp.2
set_option maxHeartbeats 1000000 in
theorem gq_sacks (G : gk_G p s m args meth c own nL cc ret Ts D (g_T cI cZ cJ) A) (hT : GoodIn Ts (wsV own idx RX1 yX1_sacks wsX1_sacks)) (hE : gn_E A s s.heap) (hR : 0 + 1 ≤ R.frames ∧ 8 + (1 + 11) + 0 ≤ R.locals) (hcs : cells ≤ R.cells ∧ slots ≤ R.slots)  (wf : gm_wf M) (hr : gc_rep u.1.1 u.1.2 M)  (hroom : (st.map fun v => v.category).sum ≤ 8) (d : decode cc pc = .ok (.invokevirtual idx, 3))
    (K : ∀ u' : gw_U, gc_rep u'.1.1 u'.1.2 M → gk_C p l e R s m args below meth c nL D A Q cells slots (Y ++ (gw_X cI cZ g h1 h2 q1 q2 u' ++ U)) lv (pc + 3) (.int (nI (M 11 0)) :: st)) : gk_C p l e R s m args below meth c nL D A Q cells slots (Y ++ (gw_X cI cZ g h1 h2 q1 q2 u ++ U)) lv pc (.ref g :: st) := by
  refine gp_callIV (wr := Y ++ U) G (c1_sacks l D cI cZ cJ g h1 h2 q1 u.1.1 u.1.2 q2 u.2.1 u.2.2 M wf hr) hT rfl 0 (by decide +kernel) rfl rfl hR rfl (q0 := 0) rfl (T := TX1) (N := 2) rfl gn_ok hE (gk_pY _ _ _) rfl hroom d hcs (fun r u' hp => ?_)
  refine gk_perm (gk_pYb _ _ _) ?_
  rw [hp.1]
  exact K u' hp.2
set_option maxHeartbeats 1000000 in
theorem gq_rule (G : gk_G p s m args meth c own nL cc ret Ts D (g_T cI cZ cJ) A) (hT : GoodIn Ts (wsV own idx RX1 yX1_rule wsX1_rule)) (hE : gn_E A s s.heap) (hR : 0 + 1 ≤ R.frames ∧ 8 + (1 + 11) + 0 ≤ R.locals) (hcs : cells ≤ R.cells ∧ slots ≤ R.slots)  (wf : gm_wf M) (hr : gc_rep u.1.1 u.1.2 M)  (hroom : (st.map fun v => v.category).sum ≤ 8) (d : decode cc pc = .ok (.invokevirtual idx, 3))
    (K : ∀ u' : gw_U, gc_rep u'.1.1 u'.1.2 M → gk_C p l e R s m args below meth c nL D A Q cells slots (Y ++ (gw_X cI cZ g h1 h2 q1 q2 u' ++ U)) lv (pc + 3) (.int (nI (M 14 0)) :: st)) : gk_C p l e R s m args below meth c nL D A Q cells slots (Y ++ (gw_X cI cZ g h1 h2 q1 q2 u ++ U)) lv pc (.ref g :: st) := by
  refine gp_callIV (wr := Y ++ U) G (c1_rule l D cI cZ cJ g h1 h2 q1 u.1.1 u.1.2 q2 u.2.1 u.2.2 M wf hr) hT rfl 0 (by decide +kernel) rfl rfl hR rfl (q0 := 0) rfl (T := TX1) (N := 2) rfl gn_ok hE (gk_pY _ _ _) rfl hroom d hcs (fun r u' hp => ?_)
  refine gk_perm (gk_pYb _ _ _) ?_
  rw [hp.1]
  exact K u' hp.2
set_option maxHeartbeats 1000000 in
theorem gq_changes (G : gk_G p s m args meth c own nL cc ret Ts D (g_T cI cZ cJ) A) (hT : GoodIn Ts (wsV own idx RX1 yX1_changes wsX1_changes)) (hE : gn_E A s s.heap) (hR : 0 + 1 ≤ R.frames ∧ 8 + (1 + 11) + 0 ≤ R.locals) (hcs : cells ≤ R.cells ∧ slots ≤ R.slots)  (wf : gm_wf M) (hr : gc_rep u.1.1 u.1.2 M)  (hroom : (st.map fun v => v.category).sum ≤ 8) (d : decode cc pc = .ok (.invokevirtual idx, 3))
    (K : ∀ u' : gw_U, gc_rep u'.1.1 u'.1.2 M → gk_C p l e R s m args below meth c nL D A Q cells slots (Y ++ (gw_X cI cZ g h1 h2 q1 q2 u' ++ U)) lv (pc + 3) (.int (nI (M 13 0)) :: st)) : gk_C p l e R s m args below meth c nL D A Q cells slots (Y ++ (gw_X cI cZ g h1 h2 q1 q2 u ++ U)) lv pc (.ref g :: st) := by
  refine gp_callIV (wr := Y ++ U) G (c1_changes l D cI cZ cJ g h1 h2 q1 u.1.1 u.1.2 q2 u.2.1 u.2.2 M wf hr) hT rfl 0 (by decide +kernel) rfl rfl hR rfl (q0 := 0) rfl (T := TX1) (N := 2) rfl gn_ok hE (gk_pY _ _ _) rfl hroom d hcs (fun r u' hp => ?_)
  refine gk_perm (gk_pYb _ _ _) ?_
  rw [hp.1]
  exact K u' hp.2
set_option maxHeartbeats 1000000 in
theorem gq_ground (G : gk_G p s m args meth c own nL cc ret Ts D (g_T cI cZ cJ) A) (hT : GoodIn Ts (wsV own idx RX1 yX1_ground wsX1_ground)) (hE : gn_E A s s.heap) (hR : 0 + 1 ≤ R.frames ∧ 8 + (1 + 11) + 0 ≤ R.locals) (hcs : cells ≤ R.cells ∧ slots ≤ R.slots)  (wf : gm_wf M) (hr : gc_rep u.1.1 u.1.2 M)  (hroom : (st.map fun v => v.category).sum ≤ 8) (d : decode cc pc = .ok (.invokevirtual idx, 3))
    (K : ∀ u' : gw_U, gc_rep u'.1.1 u'.1.2 M → gk_C p l e R s m args below meth c nL D A Q cells slots (Y ++ (gw_X cI cZ g h1 h2 q1 q2 u' ++ U)) lv (pc + 3) (.int (nI (gm_gct M (M 11 0))) :: st)) : gk_C p l e R s m args below meth c nL D A Q cells slots (Y ++ (gw_X cI cZ g h1 h2 q1 q2 u ++ U)) lv pc (.ref g :: st) := by
  refine gp_callIV (wr := Y ++ U) G (c1_ground l D cI cZ cJ g h1 h2 q1 u.1.1 u.1.2 q2 u.2.1 u.2.2 M wf hr) hT rfl 0 (by decide +kernel) rfl rfl hR rfl (q0 := 0) rfl (T := TX1) (N := 2) rfl gn_ok hE (gk_pY _ _ _) rfl hroom d hcs (fun r u' hp => ?_)
  refine gk_perm (gk_pYb _ _ _) ?_
  rw [hp.1]
  exact K u' hp.2
set_option maxHeartbeats 1000000 in
theorem gq_wind (G : gk_G p s m args meth c own nL cc ret Ts D (g_T cI cZ cJ) A) (hT : GoodIn Ts (wsV own idx RX1 yX1_wind wsX1_wind)) (hE : gn_E A s s.heap) (hR : 2 + 1 ≤ R.frames ∧ 8 + (1 + 11) + 42 ≤ R.locals) (hcs : cells ≤ R.cells ∧ slots ≤ R.slots)  (wf : gm_wf M) (hr : gc_rep u.1.1 u.1.2 M) (hh : M 9 0 < 2000000) (hroom : (st.map fun v => v.category).sum ≤ 8) (d : decode cc pc = .ok (.invokevirtual idx, 3))
    (K : ∀ u' : gw_U, gc_rep u'.1.1 u'.1.2 M → gk_C p l e R s m args below meth c nL D A Q cells slots (Y ++ (gw_X cI cZ g h1 h2 q1 q2 u' ++ U)) lv (pc + 3) (.int (nI (gm_wnd M)) :: st)) : gk_C p l e R s m args below meth c nL D A Q cells slots (Y ++ (gw_X cI cZ g h1 h2 q1 q2 u ++ U)) lv pc (.ref g :: st) := by
  refine gp_callIV (wr := Y ++ U) G (c1_wind l D cI cZ cJ g h1 h2 q1 u.1.1 u.1.2 q2 u.2.1 u.2.2 M wf hr hh) hT rfl 0 (by decide +kernel) rfl rfl hR rfl (q0 := 0) rfl (T := TX1) (N := 2) rfl gn_ok hE (gk_pY _ _ _) rfl hroom d hcs (fun r u' hp => ?_)
  refine gk_perm (gk_pYb _ _ _) ?_
  rw [hp.1]
  exact K u' hp.2
set_option maxHeartbeats 1000000 in
theorem gq_sackOn_ok (G : gk_G p s m args meth c own nL cc ret Ts D (g_T cI cZ cJ) A) (hT : GoodIn Ts (wsV own idx RX1 yX1_sackOn wsX1_sackOn)) (hE : gn_E A s s.heap) (hR : 0 + 1 ≤ R.frames ∧ 8 + (2 + 11) + 0 ≤ R.locals) (hcs : cells ≤ R.cells ∧ slots ≤ R.slots) (v : Nat) (wf : gm_wf M) (hr : gc_rep u.1.1 u.1.2 M) (hv : v < M 10 0) (hroom : (st.map fun v => v.category).sum ≤ 8) (d : decode cc pc = .ok (.invokevirtual idx, 3))
    (K : ∀ u' : gw_U, gc_rep u'.1.1 u'.1.2 M → gk_C p l e R s m args below meth c nL D A Q cells slots (Y ++ (gw_X cI cZ g h1 h2 q1 q2 u' ++ U)) lv (pc + 3) (.int (gm_e (gm_who M v (M 11 0))) :: st)) : gk_C p l e R s m args below meth c nL D A Q cells slots (Y ++ (gw_X cI cZ g h1 h2 q1 q2 u ++ U)) lv pc (.int (nI v) :: .ref g :: st) := by
  refine gp_callIV (wr := Y ++ U) G (c1_sackOn_ok l D cI cZ cJ g h1 h2 q1 u.1.1 u.1.2 q2 u.2.1 u.2.2 M v wf hr hv) hT rfl 1 (by decide +kernel) rfl rfl hR rfl (q0 := 0) rfl (T := TX1) (N := 2) rfl gn_ok hE (gk_pY _ _ _) rfl hroom d hcs (fun r u' hp => ?_)
  refine gk_perm (gk_pYb _ _ _) ?_
  rw [hp.1]
  exact K u' hp.2
set_option maxHeartbeats 1000000 in
theorem gq_stoneOf_ok (G : gk_G p s m args meth c own nL cc ret Ts D (g_T cI cZ cJ) A) (hT : GoodIn Ts (wsV own idx RX1 yX1_stoneOf wsX1_stoneOf)) (hE : gn_E A s s.heap) (hR : 1 + 1 ≤ R.frames ∧ 8 + (2 + 11) + 21 ≤ R.locals) (hcs : cells ≤ R.cells ∧ slots ≤ R.slots) (v : Nat) (wf : gm_wf M) (hr : gc_rep u.1.1 u.1.2 M) (hv : v < M 11 0) (hroom : (st.map fun v => v.category).sum ≤ 8) (d : decode cc pc = .ok (.invokevirtual idx, 3))
    (K : ∀ u' : gw_U, gc_rep u'.1.1 u'.1.2 M → gk_C p l e R s m args below meth c nL D A Q cells slots (Y ++ (gw_X cI cZ g h1 h2 q1 q2 u' ++ U)) lv (pc + 3) (.int (gm_e (M 7 v)) :: st)) : gk_C p l e R s m args below meth c nL D A Q cells slots (Y ++ (gw_X cI cZ g h1 h2 q1 q2 u ++ U)) lv pc (.int (nI v) :: .ref g :: st) := by
  refine gp_callIV (wr := Y ++ U) G (c1_stoneOf_ok l D cI cZ cJ g h1 h2 q1 u.1.1 u.1.2 q2 u.2.1 u.2.2 M v wf hr hv) hT rfl 1 (by decide +kernel) rfl rfl hR rfl (q0 := 0) rfl (T := TX1) (N := 2) rfl gn_ok hE (gk_pY _ _ _) rfl hroom d hcs (fun r u' hp => ?_)
  refine gk_perm (gk_pYb _ _ _) ?_
  rw [hp.1]
  exact K u' hp.2
set_option maxHeartbeats 1000000 in
theorem gq_leftOf_ok (G : gk_G p s m args meth c own nL cc ret Ts D (g_T cI cZ cJ) A) (hT : GoodIn Ts (wsV own idx RX1 yX1_leftOf wsX1_leftOf)) (hE : gn_E A s s.heap) (hR : 1 + 1 ≤ R.frames ∧ 8 + (2 + 11) + 21 ≤ R.locals) (hcs : cells ≤ R.cells ∧ slots ≤ R.slots) (v : Nat) (wf : gm_wf M) (hr : gc_rep u.1.1 u.1.2 M) (hv : v < M 11 0) (hroom : (st.map fun v => v.category).sum ≤ 8) (d : decode cc pc = .ok (.invokevirtual idx, 3))
    (K : ∀ u' : gw_U, gc_rep u'.1.1 u'.1.2 M → gk_C p l e R s m args below meth c nL D A Q cells slots (Y ++ (gw_X cI cZ g h1 h2 q1 q2 u' ++ U)) lv (pc + 3) (.int (nI (M 5 v)) :: st)) : gk_C p l e R s m args below meth c nL D A Q cells slots (Y ++ (gw_X cI cZ g h1 h2 q1 q2 u ++ U)) lv pc (.int (nI v) :: .ref g :: st) := by
  refine gp_callIV (wr := Y ++ U) G (c1_leftOf_ok l D cI cZ cJ g h1 h2 q1 u.1.1 u.1.2 q2 u.2.1 u.2.2 M v wf hr hv) hT rfl 1 (by decide +kernel) rfl rfl hR rfl (q0 := 0) rfl (T := TX1) (N := 2) rfl gn_ok hE (gk_pY _ _ _) rfl hroom d hcs (fun r u' hp => ?_)
  refine gk_perm (gk_pYb _ _ _) ?_
  rw [hp.1]
  exact K u' hp.2
set_option maxHeartbeats 1000000 in
theorem gq_untilOf_ok (G : gk_G p s m args meth c own nL cc ret Ts D (g_T cI cZ cJ) A) (hT : GoodIn Ts (wsV own idx RX1 yX1_untilOf wsX1_untilOf)) (hE : gn_E A s s.heap) (hR : 1 + 1 ≤ R.frames ∧ 8 + (2 + 11) + 21 ≤ R.locals) (hcs : cells ≤ R.cells ∧ slots ≤ R.slots) (v : Nat) (wf : gm_wf M) (hr : gc_rep u.1.1 u.1.2 M) (hv : v < M 11 0) (hroom : (st.map fun v => v.category).sum ≤ 8) (d : decode cc pc = .ok (.invokevirtual idx, 3))
    (K : ∀ u' : gw_U, gc_rep u'.1.1 u'.1.2 M → gk_C p l e R s m args below meth c nL D A Q cells slots (Y ++ (gw_X cI cZ g h1 h2 q1 q2 u' ++ U)) lv (pc + 3) (.int (nI (M 6 v)) :: st)) : gk_C p l e R s m args below meth c nL D A Q cells slots (Y ++ (gw_X cI cZ g h1 h2 q1 q2 u ++ U)) lv pc (.int (nI v) :: .ref g :: st) := by
  refine gp_callIV (wr := Y ++ U) G (c1_untilOf_ok l D cI cZ cJ g h1 h2 q1 u.1.1 u.1.2 q2 u.2.1 u.2.2 M v wf hr hv) hT rfl 1 (by decide +kernel) rfl rfl hR rfl (q0 := 0) rfl (T := TX1) (N := 2) rfl gn_ok hE (gk_pY _ _ _) rfl hroom d hcs (fun r u' hp => ?_)
  refine gk_perm (gk_pYb _ _ _) ?_
  rw [hp.1]
  exact K u' hp.2
set_option maxHeartbeats 1000000 in
theorem gq_groundAt_ok (G : gk_G p s m args meth c own nL cc ret Ts D (g_T cI cZ cJ) A) (hT : GoodIn Ts (wsV own idx RX1 yX1_groundAt wsX1_groundAt)) (hE : gn_E A s s.heap) (hR : 1 + 1 ≤ R.frames ∧ 8 + (2 + 11) + 21 ≤ R.locals) (hcs : cells ≤ R.cells ∧ slots ≤ R.slots) (v : Nat) (wf : gm_wf M) (hr : gc_rep u.1.1 u.1.2 M) (hv : v < M 11 0) (hroom : (st.map fun v => v.category).sum ≤ 8) (d : decode cc pc = .ok (.invokevirtual idx, 3))
    (K : ∀ u' : gw_U, gc_rep u'.1.1 u'.1.2 M → gk_C p l e R s m args below meth c nL D A Q cells slots (Y ++ (gw_X cI cZ g h1 h2 q1 q2 u' ++ U)) lv (pc + 3) (.int (gm_e (M 8 v)) :: st)) : gk_C p l e R s m args below meth c nL D A Q cells slots (Y ++ (gw_X cI cZ g h1 h2 q1 q2 u ++ U)) lv pc (.int (nI v) :: .ref g :: st) := by
  refine gp_callIV (wr := Y ++ U) G (c1_groundAt_ok l D cI cZ cJ g h1 h2 q1 u.1.1 u.1.2 q2 u.2.1 u.2.2 M v wf hr hv) hT rfl 1 (by decide +kernel) rfl rfl hR rfl (q0 := 0) rfl (T := TX1) (N := 2) rfl gn_ok hE (gk_pY _ _ _) rfl hroom d hcs (fun r u' hp => ?_)
  refine gk_perm (gk_pYb _ _ _) ?_
  rw [hp.1]
  exact K u' hp.2
set_option maxHeartbeats 1000000 in
theorem gq_first (G : gk_G p s m args meth c own nL cc ret Ts D (g_T cI cZ cJ) A) (hT : GoodIn Ts (wsV own idx RX1 yX1_first wsX1_first)) (hE : gn_E A s s.heap) (hR : 2 + 1 ≤ R.frames ∧ 8 + (1 + 11) + 47 ≤ R.locals) (hcs : cells ≤ R.cells ∧ slots ≤ R.slots)  (wf : gm_wf M) (hr : gc_rep u.1.1 u.1.2 M) (hrest : gm_rest M) (hroom : (st.map fun v => v.category).sum ≤ 8) (d : decode cc pc = .ok (.invokevirtual idx, 3))
    (K : ∀ u' : gw_U, gc_rep u'.1.1 u'.1.2 M → gk_C p l e R s m args below meth c nL D A Q cells slots (Y ++ (gw_X cI cZ g h1 h2 q1 q2 u' ++ U)) lv (pc + 3) (.int (gm_e (gm_nxt M 0 (M 11 0))) :: st)) : gk_C p l e R s m args below meth c nL D A Q cells slots (Y ++ (gw_X cI cZ g h1 h2 q1 q2 u ++ U)) lv pc (.ref g :: st) := by
  refine gp_callIV (wr := Y ++ U) G (c1_first l D cI cZ cJ g h1 h2 q1 u.1.1 u.1.2 q2 u.2.1 u.2.2 M wf hr hrest) hT rfl 0 (by decide +kernel) rfl rfl hR rfl (q0 := 0) rfl (T := TX1) (N := 2) rfl gn_ok hE (gk_pY _ _ _) rfl hroom d hcs (fun r u' hp => ?_)
  refine gk_perm (gk_pYb _ _ _) ?_
  rw [hp.1]
  exact K u' hp.2
set_option maxHeartbeats 1000000 in
theorem gq_placeOf_ok (G : gk_G p s m args meth c own nL cc ret Ts D (g_T cI cZ cJ) A) (hT : GoodIn Ts (wsV own idx RX1 yX1_placeOf wsX1_placeOf)) (hE : gn_E A s s.heap) (hR : 2 + 1 ≤ R.frames ∧ 8 + (2 + 11) + 46 ≤ R.locals) (hcs : cells ≤ R.cells ∧ slots ≤ R.slots) (v : Nat) (wf : gm_wf M) (hr : gc_rep u.1.1 u.1.2 M) (hrest : gm_rest M) (hv : v < M 11 0) (hroom : (st.map fun v => v.category).sum ≤ 8) (d : decode cc pc = .ok (.invokevirtual idx, 3))
    (K : ∀ u' : gw_U, gc_rep u'.1.1 u'.1.2 M → gk_C p l e R s m args below meth c nL D A Q cells slots (Y ++ (gw_X cI cZ g h1 h2 q1 q2 u' ++ U)) lv (pc + 3) (.int (gm_plc M v) :: st)) : gk_C p l e R s m args below meth c nL D A Q cells slots (Y ++ (gw_X cI cZ g h1 h2 q1 q2 u ++ U)) lv pc (.int (nI v) :: .ref g :: st) := by
  refine gp_callIV (wr := Y ++ U) G (c1_placeOf_ok l D cI cZ cJ g h1 h2 q1 u.1.1 u.1.2 q2 u.2.1 u.2.2 M v wf hr hrest hv) hT rfl 1 (by decide +kernel) rfl rfl hR rfl (q0 := 0) rfl (T := TX1) (N := 2) rfl gn_ok hE (gk_pY _ _ _) rfl hroom d hcs (fun r u' hp => ?_)
  refine gk_perm (gk_pYb _ _ _) ?_
  rw [hp.1]
  exact K u' hp.2
set_option maxHeartbeats 1000000 in
theorem gq_leftFor_ok (G : gk_G p s m args meth c own nL cc ret Ts D (g_T cI cZ cJ) A) (hT : GoodIn Ts (wsV own idx RX1 yX1_leftFor wsX1_leftFor)) (hE : gn_E A s s.heap) (hR : 1 + 1 ≤ R.frames ∧ 8 + (4 + 11) + 20 ≤ R.locals) (hcs : cells ≤ R.cells ∧ slots ≤ R.slots) (v : Nat) (wf : gm_wf M) (hr : gc_rep u.1.1 u.1.2 M) (hv : v < 8) (hroom : (st.map fun v => v.category).sum ≤ 8) (d : decode cc pc = .ok (.invokevirtual idx, 3))
    (K : ∀ u' : gw_U, gc_rep u'.1.1 u'.1.2 M → gk_C p l e R s m args below meth c nL D A Q cells slots (Y ++ (gw_X cI cZ g h1 h2 q1 q2 u' ++ U)) lv (pc + 3) (.int (nI (gm_rst M v (M 11 0))) :: st)) : gk_C p l e R s m args below meth c nL D A Q cells slots (Y ++ (gw_X cI cZ g h1 h2 q1 q2 u ++ U)) lv pc (.int (nI v) :: .ref g :: st) := by
  refine gp_callIV (wr := Y ++ U) G (c1_leftFor_ok l D cI cZ cJ g h1 h2 q1 u.1.1 u.1.2 q2 u.2.1 u.2.2 M v wf hr hv) hT rfl 1 (by decide +kernel) rfl rfl hR rfl (q0 := 0) rfl (T := TX1) (N := 2) rfl gn_ok hE (gk_pY _ _ _) rfl hroom d hcs (fun r u' hp => ?_)
  refine gk_perm (gk_pYb _ _ _) ?_
  rw [hp.1]
  exact K u' hp.2
set_option maxHeartbeats 1000000 in
theorem gq_late (G : gk_G p s m args meth c own nL cc ret Ts D (g_T cI cZ cJ) A) (hT : GoodIn Ts (wsV own idx RX1 yX1_late wsX1_late)) (hE : gn_E A s s.heap) (hR : 2 + 1 ≤ R.frames ∧ 8 + (1 + 11) + 43 ≤ R.locals) (hcs : cells ≤ R.cells ∧ slots ≤ R.slots)  (wf : gm_wf M) (hr : gc_rep u.1.1 u.1.2 M) (hrest : gm_rest M) (hh : M 9 0 < 2000000) (hroom : (st.map fun v => v.category).sum ≤ 8) (d : decode cc pc = .ok (.invokevirtual idx, 3))
    (K : ∀ u' : gw_U, gc_rep u'.1.1 u'.1.2 M → gk_C p l e R s m args below meth c nL D A Q cells slots (Y ++ (gw_X cI cZ g h1 h2 q1 q2 u' ++ U)) lv (pc + 3) (.int (nI (gm_late M 0 (M 11 0))) :: st)) : gk_C p l e R s m args below meth c nL D A Q cells slots (Y ++ (gw_X cI cZ g h1 h2 q1 q2 u ++ U)) lv pc (.ref g :: st) := by
  refine gp_callIV (wr := Y ++ U) G (c1_late l D cI cZ cJ g h1 h2 q1 u.1.1 u.1.2 q2 u.2.1 u.2.2 M wf hr hrest hh) hT rfl 0 (by decide +kernel) rfl rfl hR rfl (q0 := 0) rfl (T := TX1) (N := 2) rfl gn_ok hE (gk_pY _ _ _) rfl hroom d hcs (fun r u' hp => ?_)
  refine gk_perm (gk_pYb _ _ _) ?_
  rw [hp.1]
  exact K u' hp.2
set_option maxHeartbeats 1000000 in
theorem gq_lateWith_ok (G : gk_G p s m args meth c own nL cc ret Ts D (g_T cI cZ cJ) A) (hT : GoodIn Ts (wsV own idx RX1 yX1_lateWith wsX1_lateWith)) (hE : gn_E A s s.heap) (hR : 4 + 1 ≤ R.frames ∧ 8 + (3 + 11) + 93 ≤ R.locals) (hcs : cells ≤ R.cells ∧ slots ≤ R.slots) (v vo : Nat) (wf : gm_wf M) (hr : gc_rep u.1.1 u.1.2 M) (hrest : gm_rest M) (hh : M 9 0 < 1999000) (hv : v < 3) (hvo : vo ≤ 1) (hroom : (st.map fun v => v.category).sum ≤ 8) (d : decode cc pc = .ok (.invokevirtual idx, 3))
    (K : ∀ u' : gw_U, gc_rep u'.1.1 u'.1.2 M → gk_C p l e R s m args below meth c nL D A Q cells slots (Y ++ (gw_X cI cZ g h1 h2 q1 q2 u' ++ U)) lv (pc + 3) (.int (nI (gm_lw M v vo)) :: st)) : gk_C p l e R s m args below meth c nL D A Q cells slots (Y ++ (gw_X cI cZ g h1 h2 q1 q2 u ++ U)) lv pc (.int (nI vo) :: .int (nI v) :: .ref g :: st) := by
  refine gp_callIV (wr := Y ++ U) G (c1_lateWith_ok l D cI cZ cJ g h1 h2 q1 u.1.1 u.1.2 q2 u.2.1 u.2.2 M v vo wf hr hrest hh hv hvo) hT rfl 2 (by decide +kernel) rfl rfl hR rfl (q0 := 0) rfl (T := TX1) (N := 2) rfl gn_ok hE (gk_pY _ _ _) rfl hroom d hcs (fun r u' hp => ?_)
  refine gk_perm (gk_pYb _ _ _) ?_
  rw [hp.1]
  exact K u' hp.2
set_option maxHeartbeats 1000000 in
theorem gq_meanLeft (G : gk_G p s m args meth c own nL cc ret Ts D (g_T cI cZ cJ) A) (hT : GoodIn Ts (wsV own idx RX1 yX1_meanLeft wsX1_meanLeft)) (hE : gn_E A s s.heap) (hR : 0 + 1 ≤ R.frames ∧ 8 + (4 + 11) + 0 ≤ R.locals) (hcs : cells ≤ R.cells ∧ slots ≤ R.slots) (wf : gm_wf M) (hr : gc_rep u.1.1 u.1.2 M) (hroom : (st.map fun v => v.category).sum ≤ 8) (d : decode cc pc = .ok (.invokevirtual idx, 3))
    (K : ∀ u' : gw_U, gc_rep u'.1.1 u'.1.2 M → gk_C p l e R s m args below meth c nL D A Q cells slots (Y ++ (gw_X cI cZ g h1 h2 q1 q2 u' ++ U)) lv (pc + 3) (.double (gm_ml M) :: st)) : gk_C p l e R s m args below meth c nL D A Q cells slots (Y ++ (gw_X cI cZ g h1 h2 q1 q2 u ++ U)) lv pc (.ref g :: st) := by
  refine gp_callDV (wr := Y ++ U) G (c1_meanLeft l D cI cZ cJ g h1 h2 q1 u.1.1 u.1.2 q2 u.2.1 u.2.2 M wf hr) hT rfl 0 (by decide +kernel) rfl rfl hR rfl (q0 := 0) rfl (T := TX1) (N := 2) rfl gn_ok hE (gk_pY _ _ _) rfl hroom d hcs (fun r u' hp => ?_)
  refine gk_perm (gk_pYb _ _ _) ?_
  rw [hp.1]
  exact K u' hp.2
end GQ
