/-! THE LAW; written by wip/p35/gen_l.py -/
theorem gp_e_lei {a b : Nat} (ha : a < 2 ^ 31) (hb : b < 2 ^ 31) : nI a ≤ gm_e b ↔ a + 1 ≤ b := by
  rw [Int32.le_iff_toInt_le, gm_e_toInt hb, nI_toInt ha]; omega
theorem gp_plc_ge {M : gm_M} {j : Nat} (h : gm_cnt M j (M 11 0) < 2 ^ 31) : (0 : Int32) ≤ gm_plc M j ↔ M 8 j = 0 := by
  unfold gm_plc
  by_cases h8 : M 8 j = 0
  · rw [if_pos h8]; exact ⟨fun _ => h8, fun _ => nI_pos' h⟩
  · rw [if_neg h8]; exact ⟨fun q => absurd q (by decide), fun q => absurd q h8⟩
/-- the places that are taken, of the first k sacks -/
def gp_is (M : gm_M) (nk k : Nat) (f : Nat → Int32) : Prop := ∀ p, (∀ i, i < k → M 8 i = 0 → gm_cnt M i nk ≠ p) → f p = 0
set_option maxRecDepth 100000 in
set_option maxHeartbeats 4000000 in
theorem la_1 {p : Program} {l : Launch} {e : Env} {s : State} {m : MethodId} {below : List Frame} {meth : Method} {c : Code} {D : va_G} {A : Nat → Prop} {Q : State → Prop} {cI cZ cJ : ClassId} {b L : Nat} {xs : Nat → Int32} {g h1 h2 : Nat} {q1 q2 : Nat → Nat} {u : gw_U} {a : Nat} {v : gp_Q} {M : gm_M} {x : Int32} {nm nk c0 s0 t : Nat} (G : gk_G p s m ([.ref b] : List Value).toArray meth c RL 23 cL_law (some .boolean) wsL_law D (g_T cI cZ cJ) A) (wf : gm_wf M) (hrest : gm_rest M) (hm : M 10 0 = nm) (hk : M 11 0 = nk) (hh : M 9 0 < 1900000) (hE : gp_L b L xs A s s.heap) (hc0 : c0 ≤ 100000) (hs0 : s0 ≤ 1000000) (hr : gc_rep u.1.1 u.1.2 M) (K : ∀ (rI rL rA rO : Nat) (u : gw_U), gc_rep u.1.1 u.1.2 M → gk_C p l e room_1 s m ([.ref b] : List Value).toArray below meth c 23 D A Q (c0 + 4) (s0 + 52) ((gw_R cI rO nm (fun _ => 0) ++ (gw_R cI rA nk (fun _ => 0) ++ (gw_R cI rL nk (fun _ => 0) ++ (gw_R cZ rI nk (fun _ => 0))))) ++ (gw_X cI cZ g h1 h2 q1 q2 u ++ (gp_U cI cJ a v))) [(0, .ref b), (1, .ref g), (2, .ref a), (3, .int (nI t)), (4, .int x), (5, .int (nI nk)), (6, .int (nI nm)), (7, .ref rI), (10, .ref rL), (11, .ref rA), (12, .ref rO), (8, .int (nI 0)), (9, .int (nI 0))] 105 []) : gk_C p l e room_1 s m ([.ref b] : List Value).toArray below meth c 23 D A Q c0 s0 (gw_X cI cZ g h1 h2 q1 q2 u ++ (gp_U cI cJ a v)) [(0, .ref b), (1, .ref g), (2, .ref a), (3, .int (nI t)), (4, .int x)] 63 [] := by
  obtain ⟨hz1, hz2, hz3, hz4, hz5, hz6, hz7, hz8⟩ := id wf
  have hun := gp_un_le M nk
  refine gk_aload_n G dL_law_63 1 rfl ?_
  refine gq_sacks (Y := []) G gL_law_X1_sacks hE.1.1 ⟨(Nat.le_of_ble_eq_true rfl), (Nat.le_of_ble_eq_true rfl)⟩ ⟨by show c0 ≤ 600130; omega, by show s0 ≤ 7301080; omega⟩ wf hr (Nat.le_of_ble_eq_true rfl) dL_law_64 (fun u64 hr64 => ?_)
  rw [hk]
  show gk_C p l e room_1 s m ([.ref b] : List Value).toArray below meth c 23 D A Q c0 s0 (gw_X cI cZ g h1 h2 q1 q2 u64 ++ (gp_U cI cJ a v)) [(0, .ref b), (1, .ref g), (2, .ref a), (3, .int (nI t)), (4, .int x)] 67 [.int (nI nk)]
  refine gk_istore (lv' := [(5, .int (nI nk)), (0, .ref b), (1, .ref g), (2, .ref a), (3, .int (nI t)), (4, .int x)]) G dL_law_67 (by decide) rfl ?_
  refine gk_aload_n G dL_law_69 2 rfl ?_
  refine gq_stones (Y := []) G gL_law_X1_stones hE.1.1 ⟨(Nat.le_of_ble_eq_true rfl), (Nat.le_of_ble_eq_true rfl)⟩ ⟨by show c0 ≤ 600130; omega, by show s0 ≤ 7301080; omega⟩ wf hr64 (Nat.le_of_ble_eq_true rfl) dL_law_70 (fun u70 hr70 => ?_)
  rw [hm]
  show gk_C p l e room_1 s m ([.ref b] : List Value).toArray below meth c 23 D A Q c0 s0 (gw_X cI cZ g h1 h2 q1 q2 u70 ++ (gp_U cI cJ a v)) [(5, .int (nI nk)), (0, .ref b), (1, .ref g), (2, .ref a), (3, .int (nI t)), (4, .int x)] 73 [.int (nI nm)]
  refine gk_istore (lv' := [(6, .int (nI nm)), (5, .int (nI nk)), (0, .ref b), (1, .ref g), (2, .ref a), (3, .int (nI t)), (4, .int x)]) G dL_law_73 (by decide) rfl ?_
  refine gk_iload G dL_law_75 1 rfl ?_
  refine gk_newa (cI := cZ) (atype := .boolean) (N := nk) (a0 := (nk, .inl (fun _ => 0))) G (G.2.2.2.2.1 (.arrayClass .boolean) (List.mem_append_left _ (List.mem_append_left _ (List.mem_append_left _ (List.mem_append_left _ (List.mem_append_left _ (List.mem_append_left _ (List.mem_append_left _ (List.mem_append_left _ (List.mem_of_getElem? (i := 3) rfl)))))))))) rfl (fun C h => by cases h) 1 rfl (fun _ => rfl) rfl (by omega) (by show nk * 1 ≤ 536870912; omega) (by show c0 + 1 ≤ 600130; omega) (by show s0 + nk ≤ 7301080; omega) dL_law_77 (fun rI => ?_)
  refine gk_widen (k := (c0 + 1)) (n := (s0 + 16)) (by omega) (by omega) (gk_rot ?_)
  show gk_C p l e room_1 s m ([.ref b] : List Value).toArray below meth c 23 D A Q (c0 + 1) (s0 + 16) (gw_R cZ rI nk (fun _ => 0) ++ (gw_X cI cZ g h1 h2 q1 q2 u70 ++ (gp_U cI cJ a v))) [(6, .int (nI nm)), (5, .int (nI nk)), (0, .ref b), (1, .ref g), (2, .ref a), (3, .int (nI t)), (4, .int x)] 79 [.ref rI]
  refine gk_astore (lv' := [(7, .ref rI), (6, .int (nI nm)), (5, .int (nI nk)), (0, .ref b), (1, .ref g), (2, .ref a), (3, .int (nI t)), (4, .int x)]) G dL_law_79 (by decide) rfl ?_
  refine gk_iconst (v := nI 0) G dL_law_81 (by decide) ?_
  refine gk_istore (lv' := [(8, .int (nI 0)), (7, .ref rI), (6, .int (nI nm)), (5, .int (nI nk)), (0, .ref b), (1, .ref g), (2, .ref a), (3, .int (nI t)), (4, .int x)]) G dL_law_82 (by decide) rfl ?_
  refine gk_iconst (v := nI 0) G dL_law_84 (by decide) ?_
  refine gk_istore (lv' := [(9, .int (nI 0)), (8, .int (nI 0)), (7, .ref rI), (6, .int (nI nm)), (5, .int (nI nk)), (0, .ref b), (1, .ref g), (2, .ref a), (3, .int (nI t)), (4, .int x)]) G dL_law_85 (by decide) rfl ?_
  refine gk_iload G dL_law_87 4 rfl ?_
  refine gk_newa (cI := cI) (atype := .int) (N := nk) (a0 := (nk, .inl (fun _ => 0))) G (G.2.2.2.2.1 (.arrayClass .int) (List.mem_append_left _ (List.mem_append_left _ (List.mem_append_left _ (List.mem_append_left _ (List.mem_append_left _ (List.mem_append_left _ (List.mem_append_left _ (List.mem_append_left _ (List.mem_of_getElem? (i := 4) rfl)))))))))) rfl (fun C h => by cases h) 0 rfl (fun _ => rfl) rfl (by omega) (by show nk * 4 ≤ 536870912; omega) (by show (c0 + 1) + 1 ≤ 600130; omega) (by show (s0 + 16) + nk ≤ 7301080; omega) dL_law_89 (fun rL => ?_)
  refine gk_widen (k := ((c0 + 1) + 1)) (n := ((s0 + 16) + 16)) (by omega) (by omega) (gk_rot ?_)
  show gk_C p l e room_1 s m ([.ref b] : List Value).toArray below meth c 23 D A Q ((c0 + 1) + 1) ((s0 + 16) + 16) ((gw_R cI rL nk (fun _ => 0) ++ (gw_R cZ rI nk (fun _ => 0))) ++ (gw_X cI cZ g h1 h2 q1 q2 u70 ++ (gp_U cI cJ a v))) [(9, .int (nI 0)), (8, .int (nI 0)), (7, .ref rI), (6, .int (nI nm)), (5, .int (nI nk)), (0, .ref b), (1, .ref g), (2, .ref a), (3, .int (nI t)), (4, .int x)] 91 [.ref rL]
  refine gk_astore (lv' := [(10, .ref rL), (9, .int (nI 0)), (8, .int (nI 0)), (7, .ref rI), (6, .int (nI nm)), (5, .int (nI nk)), (0, .ref b), (1, .ref g), (2, .ref a), (3, .int (nI t)), (4, .int x)]) G dL_law_91 (by decide) rfl ?_
  refine gk_iload G dL_law_93 5 rfl ?_
  refine gk_newa (cI := cI) (atype := .int) (N := nk) (a0 := (nk, .inl (fun _ => 0))) G (G.2.2.2.2.1 (.arrayClass .int) (List.mem_append_left _ (List.mem_append_left _ (List.mem_append_left _ (List.mem_append_left _ (List.mem_append_left _ (List.mem_append_left _ (List.mem_append_left _ (List.mem_append_left _ (List.mem_of_getElem? (i := 4) rfl)))))))))) rfl (fun C h => by cases h) 0 rfl (fun _ => rfl) rfl (by omega) (by show nk * 4 ≤ 536870912; omega) (by show ((c0 + 1) + 1) + 1 ≤ 600130; omega) (by show ((s0 + 16) + 16) + nk ≤ 7301080; omega) dL_law_95 (fun rA => ?_)
  refine gk_widen (k := (((c0 + 1) + 1) + 1)) (n := (((s0 + 16) + 16) + 16)) (by omega) (by omega) (gk_rot ?_)
  show gk_C p l e room_1 s m ([.ref b] : List Value).toArray below meth c 23 D A Q (((c0 + 1) + 1) + 1) (((s0 + 16) + 16) + 16) ((gw_R cI rA nk (fun _ => 0) ++ (gw_R cI rL nk (fun _ => 0) ++ (gw_R cZ rI nk (fun _ => 0)))) ++ (gw_X cI cZ g h1 h2 q1 q2 u70 ++ (gp_U cI cJ a v))) [(10, .ref rL), (9, .int (nI 0)), (8, .int (nI 0)), (7, .ref rI), (6, .int (nI nm)), (5, .int (nI nk)), (0, .ref b), (1, .ref g), (2, .ref a), (3, .int (nI t)), (4, .int x)] 97 [.ref rA]
  refine gk_astore (lv' := [(11, .ref rA), (10, .ref rL), (9, .int (nI 0)), (8, .int (nI 0)), (7, .ref rI), (6, .int (nI nm)), (5, .int (nI nk)), (0, .ref b), (1, .ref g), (2, .ref a), (3, .int (nI t)), (4, .int x)]) G dL_law_97 (by decide) rfl ?_
  refine gk_iload G dL_law_99 5 rfl ?_
  refine gk_newa (cI := cI) (atype := .int) (N := nm) (a0 := (nm, .inl (fun _ => 0))) G (G.2.2.2.2.1 (.arrayClass .int) (List.mem_append_left _ (List.mem_append_left _ (List.mem_append_left _ (List.mem_append_left _ (List.mem_append_left _ (List.mem_append_left _ (List.mem_append_left _ (List.mem_append_left _ (List.mem_of_getElem? (i := 4) rfl)))))))))) rfl (fun C h => by cases h) 0 rfl (fun _ => rfl) rfl (by omega) (by show nm * 4 ≤ 536870912; omega) (by show (((c0 + 1) + 1) + 1) + 1 ≤ 600130; omega) (by show (((s0 + 16) + 16) + 16) + nm ≤ 7301080; omega) dL_law_101 (fun rO => ?_)
  refine gk_widen (k := ((((c0 + 1) + 1) + 1) + 1)) (n := ((((s0 + 16) + 16) + 16) + 4)) (by omega) (by omega) (gk_rot ?_)
  show gk_C p l e room_1 s m ([.ref b] : List Value).toArray below meth c 23 D A Q ((((c0 + 1) + 1) + 1) + 1) ((((s0 + 16) + 16) + 16) + 4) ((gw_R cI rO nm (fun _ => 0) ++ (gw_R cI rA nk (fun _ => 0) ++ (gw_R cI rL nk (fun _ => 0) ++ (gw_R cZ rI nk (fun _ => 0))))) ++ (gw_X cI cZ g h1 h2 q1 q2 u70 ++ (gp_U cI cJ a v))) [(11, .ref rA), (10, .ref rL), (9, .int (nI 0)), (8, .int (nI 0)), (7, .ref rI), (6, .int (nI nm)), (5, .int (nI nk)), (0, .ref b), (1, .ref g), (2, .ref a), (3, .int (nI t)), (4, .int x)] 103 [.ref rO]
  refine gk_astore (lv' := [(12, .ref rO), (11, .ref rA), (10, .ref rL), (9, .int (nI 0)), (8, .int (nI 0)), (7, .ref rI), (6, .int (nI nm)), (5, .int (nI nk)), (0, .ref b), (1, .ref g), (2, .ref a), (3, .int (nI t)), (4, .int x)]) G dL_law_103 (by decide) rfl ?_
  refine gk_widen (k := (c0 + 4)) (n := (s0 + 52)) (by omega) (by omega) ?_
  exact gk_lsub (lv' := [(0, .ref b), (1, .ref g), (2, .ref a), (3, .int (nI t)), (4, .int x), (5, .int (nI nk)), (6, .int (nI nm)), (7, .ref rI), (10, .ref rL), (11, .ref rA), (12, .ref rO), (8, .int (nI 0)), (9, .int (nI 0))]) [8,9,10,11,12,7,6,5,2,1,0,4,3] rfl (K rI rL rA rO u70 hr70)
