set_option maxRecDepth 100000 in
set_option maxHeartbeats 2000000 in
theorem sa_stone {p : Program} {l : Launch} {e : Env} {s : State} {m : MethodId} {below : List Frame} {meth : Method} {c : Code} {D : va_G} {A : Nat → Prop} {Q : State → Prop} {cI cZ cJ : ClassId} {g h1 h2 : Nat} {q1 q2 : Nat → Nat} {u : gw_U} {a : Nat} {q : Nat → Nat} {F W0 : Nat → Int32} {nm nk : Nat} {fS fK : Nat → Option Nat} {Sx Kx : Nat → Nat} {T V : Nat → Nat → Int32} {M : gm_M} {x : Int32} (G : gk_G p s m ([.ref g, .ref a, .int x] : List Value).toArray meth c RL 15 cL_act (some .boolean) wsL_act D (g_T cI cZ cJ) A) (wf : gm_wf M) (hrest : gm_rest M) (hr : gc_rep u.1.1 u.1.2 M) (hs : gp_rep F W0 T V M) (hm : M 10 0 = nm) (hk : M 11 0 = nk) (hfS : gp_rows fS Sx nm) (hfK : gp_rows fK Kx nk) (hh : M 9 0 < 1900000) (hE : gn_E A s s.heap) (hA : gp_AO A s s.heap)
    (RET : ∀ (cells slots : Nat) (lv : List (Nat × Value)) (pc : Nat) (v : gp_Q) (u : gw_U) (M' : gm_M), decode cL_act pc = .ok (.ireturn, 1) → gp_post M v u M' → cells ≤ 120 → slots ≤ 1200 → gk_C p l e ({ frames := 5, cells := 120, slots := 1200, locals := 114 } : Room) s m ([.ref g, .ref a, .int x] : List Value).toArray below meth c 15 D A Q cells slots (gw_X cI cZ g h1 h2 q1 q2 u ++ gp_U cI cJ a v) lv pc [.int (nI 1)]) : gk_C p l e ({ frames := 5, cells := 120, slots := 1200, locals := 114 } : Room) s m ([.ref g, .ref a, .int x] : List Value).toArray below meth c 15 D A Q 0 0 (gw_X cI cZ g h1 h2 q1 q2 u ++ (gp_W cI cJ a q F W0 nm nk fS fK Sx Kx T V)) [(0, .ref g), (1, .ref a), (2, .int x), (3, .int (nI nm)), (4, .int (nI nk))] 84 [] := by
  obtain ⟨hz1, hz2, hz3, hz4, hz5, hz6, hz7, hz8⟩ := id wf
  have hinX2 : ∀ w ∈ wsX20, w ∈ wsL_act := fun w h9 => (List.mem_cons_of_mem _ (List.mem_append_left _ (List.mem_append_left _ (List.mem_append_left _ (List.mem_append_left _ (List.mem_append_left _ (List.mem_append_right _ h9)))))))
  have k9 := G.2.2.2.2.1 (.fieldLink RL 9 "GustMillLaw$Sim" "stones" "[[I") (List.mem_cons_of_mem _ (List.mem_append_left _ (List.mem_append_left _ (List.mem_append_left _ (List.mem_append_left _ (List.mem_append_left _ (List.mem_append_left _ (List.mem_append_left _ (List.mem_of_getElem? (i := 0) rfl)))))))))
  refine gk_iload_n G dL_act_84 3 rfl ?_
  refine gk_iconst (v := nI 4) G dL_act_85 (by decide) ?_
  refine gk_icmp_ne (tgt := 91) G dL_act_86 (by decide) (fun c_86 => ?_) (fun c_86 => ?_)
  · replace c_86 := (not_congr (nI_eq (a := nm) (b := 4) (by omega) (by omega))).mp c_86
    have hb9 := gp_bel_lt (x >>> (nI 2 &&& 31)) (show 0 < 9 by decide)
    have ad10 : gm_adds M (1 + gp_bel (x >>> (nI 2 &&& 31)) 9) 10 0 = M 10 0 + 1 := by unfold gm_adds; rw [gm_set_at]
    have ade : ∀ k, k ≠ 1 → k ≠ 10 → gm_adds M (1 + gp_bel (x >>> (nI 2 &&& 31)) 9) k 0 = M k 0 := fun k b1 b2 => by unfold gm_adds; rw [gm_set_k _ _ b2, gm_set_k _ _ b1]
    refine gk_aload_n G dL_act_91 1 rfl ?_
    refine gk_aload_n G dL_act_92 1 rfl ?_
    refine gk_get (v' := .ref (q 1)) G hinX2 (q0 := 21) rfl rfl 6 (by decide) k9 rfl rfl dL_act_93 ?_
    refine gk_iconst (v := nI 2) G dL_act_96 (by decide) ?_
    refine gk_newa (cI := cI) (atype := .int) (N := 2) (a0 := (2, .inl (fun _ => 0))) G (G.2.2.2.2.1 (.arrayClass .int) (List.mem_cons_of_mem _ (List.mem_append_left _ (List.mem_append_left _ (List.mem_append_left _ (List.mem_append_left _ (List.mem_append_left _ (List.mem_append_left _ (List.mem_append_left _ (List.mem_of_getElem? (i := 2) rfl)))))))))) rfl (fun C h => by cases h) 0 rfl (fun _ => rfl) rfl (by omega) (by show 2 * 4 ≤ 536870912; omega) (Nat.le_of_ble_eq_true rfl) (by show 0 + 2 ≤ 1200; omega) dL_act_97 (fun r1 => ?_)
    refine gk_widen (k := 1) (n := 2) (Nat.le_of_ble_eq_true rfl) (by omega) (gk_rot ?_)
    show gk_C p l e ({ frames := 5, cells := 120, slots := 1200, locals := 114 } : Room) s m ([.ref g, .ref a, .int x] : List Value).toArray below meth c 15 D A Q 1 2 (gw_R cI r1 2 (fun _ => 0) ++ (gw_X cI cZ g h1 h2 q1 q2 u ++ (gp_W cI cJ a q F W0 nm nk fS fK Sx Kx T V))) [(0, .ref g), (1, .ref a), (2, .int x), (3, .int (nI nm)), (4, .int (nI nk))] 99 [.ref r1, .ref (q 1), .ref a]
    refine gk_dup G dL_act_99 rfl ?_
    refine gk_iconst (v := nI 0) G dL_act_100 (by decide) ?_
    refine gk_iconst (v := nI 1) G dL_act_101 (by decide) ?_
    refine gk_iload_n G dL_act_102 2 rfl ?_
    refine gk_iconst (v := nI 2) G dL_act_103 (by decide) ?_
    refine gk_ishr (v := x >>> ((nI 2) &&& 31)) G dL_act_104 rfl ?_
    refine gk_bipush (v := nI 9) G dL_act_105 (by decide) ?_
    refine gp_below (n := 9) (v := (x >>> ((nI 2) &&& 31))) G gL_act_L_below ⟨(Nat.le_of_ble_eq_true rfl), (Nat.le_of_ble_eq_true rfl)⟩ ⟨(Nat.le_of_ble_eq_true rfl), (Nat.le_of_ble_eq_true rfl)⟩ (by omega) (by omega) (Nat.le_of_ble_eq_true rfl) dL_act_107 ?_
    show gk_C p l e ({ frames := 5, cells := 120, slots := 1200, locals := 114 } : Room) s m ([.ref g, .ref a, .int x] : List Value).toArray below meth c 15 D A Q 1 2 (gw_R cI r1 2 (fun _ => 0) ++ (gw_X cI cZ g h1 h2 q1 q2 u ++ (gp_W cI cJ a q F W0 nm nk fS fK Sx Kx T V))) [(0, .ref g), (1, .ref a), (2, .int x), (3, .int (nI nm)), (4, .int (nI nk))] 110 [.int (nI (gp_bel (x >>> ((nI 2) &&& 31)) 9)), .int (nI 1), .int (nI 0), .ref r1, .ref r1, .ref (q 1), .ref a]
    refine gk_iadd (v := nI (1 + (gp_bel (x >>> ((nI 2) &&& 31)) 9))) G dL_act_110 (nI_add 1 (gp_bel (x >>> ((nI 2) &&& 31)) 9)) ?_
    refine gk_topi (fun v111 ev111 => ?_)
    refine gk_iast (w' := (gw_R cI r1 2 (upd (fun _ => 0) 0 v111) ++ (gw_X cI cZ g h1 h2 q1 q2 u ++ (gp_W cI cJ a q F W0 nm nk fS fK Sx Kx T V)))) G (q0 := 0) (t0 := 0) rfl rfl 0 rfl (by omega) (by decide) rfl dL_act_111 ?_
    refine gk_dup G dL_act_112 rfl ?_
    refine gk_iconst (v := nI 1) G dL_act_113 (by decide) ?_
    refine gk_iconst (v := -1) G dL_act_114 (by decide) ?_
    refine gk_topi (fun v115 ev115 => ?_)
    refine gk_iast (w' := (gw_R cI r1 2 (upd (upd (fun _ => 0) 0 v111) 1 v115) ++ (gw_X cI cZ g h1 h2 q1 q2 u ++ (gp_W cI cJ a q F W0 nm nk fS fK Sx Kx T V)))) G (q0 := 0) (t0 := 0) rfl rfl 1 rfl (by omega) (by decide) rfl dL_act_115 ?_
    refine gp_callRS (wr := (gw_X cI cZ g h1 h2 q1 q2 u) ++ ((gp_O a q F) ++ ((gp_Wd cI (q 0) W0) ++ ((gw_J cJ (q 2) nk fK) ++ (gp_r cI 4 Kx V nk))))) G (c2_with l D cI cZ cJ (q 1) r1 nm 2 fS (upd (upd (fun _ => 0) 0 v111) 1 v115) Sx T hfS (by omega)) gL_act_X2_with rfl 2 (by decide +kernel) rfl rfl ⟨(Nat.le_of_ble_eq_true rfl), (Nat.le_of_ble_eq_true rfl)⟩ rfl gp_ao_ok hA (gk_pS (gw_R cI r1 2 (upd (upd (fun _ => 0) 0 v111) 1 v115)) (gw_X cI cZ g h1 h2 q1 q2 u) (gp_O a q F) (gp_Wd cI (q 0) W0) (gw_J cJ (q 1) nm fS) (gw_J cJ (q 2) nk fK) (gp_r cI 2 Sx T nm) (gp_r cI 4 Kx V nk)) rfl (Nat.le_of_ble_eq_true rfl) dL_act_116 ⟨(Nat.le_of_ble_eq_true rfl), (Nat.le_of_ble_eq_true rfl)⟩ (fun f2 r2 hf2 => ?_)
    refine gk_put (w' := ((gw_X cI cZ g h1 h2 q1 q2 u) ++ ((gp_O a (gp_q1 q 1 r2) F) ++ ((gp_Wd cI (q 0) W0) ++ ((gw_J cJ (q 2) nk fK) ++ (gp_r cI 4 Kx V nk))))) ++ ((gw_J cJ r2 (nm + 1) f2) ++ ((gw_J cJ (q 1) nm fS) ++ ((gw_R cI r1 2 (upd (upd (fun _ => 0) 0 v111) 1 v115)) ++ (gp_r cI 2 Sx T nm))))) G hinX2 tyX2_ok nmX2 (q0 := 21) rfl rfl 6 (by decide) k9 rfl rfl rfl (Nat.le_of_ble_eq_true rfl) rfl dL_act_119 ?_
    refine gk_drop (w' := (gw_X cI cZ g h1 h2 q1 q2 u ++ (gp_W cI cJ a (gp_q1 q 1 r2) F W0 (nm + 1) nk f2 fK (gp_snoc Sx nm r1) Kx (gp_snT T nm (upd (upd (fun _ => 0) 0 v111) 1 v115)) V))) (r := (gw_J cJ (q 1) nm fS)) (by have h9 := gk_pS2 (gw_R cI r1 2 (upd (upd (fun _ => 0) 0 v111) 1 v115)) (gw_X cI cZ g h1 h2 q1 q2 u) (gp_O a (gp_q1 q 1 r2) F) (gp_Wd cI (q 0) W0) (gw_J cJ (q 1) nm fS) (gw_J cJ (q 2) nk fK) (gp_r cI 2 Sx T nm) (gp_r cI 4 Kx V nk) (gw_J cJ r2 (nm + 1) f2); rw [← gp_r_snoc] at h9; exact h9) ?_
    refine gk_aload_n G dL_act_122 0 rfl ?_
    refine gk_iconst (v := nI 1) G dL_act_123 (by decide) ?_
    refine gk_iload_n G dL_act_124 2 rfl ?_
    refine gk_iconst (v := nI 2) G dL_act_125 (by decide) ?_
    refine gk_ishr (v := x >>> ((nI 2) &&& 31)) G dL_act_126 rfl ?_
    refine gk_bipush (v := nI 9) G dL_act_127 (by decide) ?_
    refine gp_below (n := 9) (v := (x >>> ((nI 2) &&& 31))) G gL_act_L_below ⟨(Nat.le_of_ble_eq_true rfl), (Nat.le_of_ble_eq_true rfl)⟩ ⟨(Nat.le_of_ble_eq_true rfl), (Nat.le_of_ble_eq_true rfl)⟩ (by omega) (by omega) (Nat.le_of_ble_eq_true rfl) dL_act_129 ?_
    show gk_C p l e ({ frames := 5, cells := 120, slots := 1200, locals := 114 } : Room) s m ([.ref g, .ref a, .int x] : List Value).toArray below meth c 15 D A Q 2 19 (gw_X cI cZ g h1 h2 q1 q2 u ++ (gp_W cI cJ a (gp_q1 q 1 r2) F W0 (nm + 1) nk f2 fK (gp_snoc Sx nm r1) Kx (gp_snT T nm (upd (upd (fun _ => 0) 0 v111) 1 v115)) V)) [(0, .ref g), (1, .ref a), (2, .int x), (3, .int (nI nm)), (4, .int (nI nk))] 132 [.int (nI (gp_bel (x >>> ((nI 2) &&& 31)) 9)), .int (nI 1), .ref g]
    refine gk_iadd (v := nI (1 + (gp_bel (x >>> ((nI 2) &&& 31)) 9))) G dL_act_132 (nI_add 1 (gp_bel (x >>> ((nI 2) &&& 31)) 9)) ?_
    refine gq_addStone_ok (Y := []) G gL_act_X1_addStone hE ⟨(Nat.le_of_ble_eq_true rfl), (Nat.le_of_ble_eq_true rfl)⟩ ⟨(Nat.le_of_ble_eq_true rfl), (Nat.le_of_ble_eq_true rfl)⟩ (1 + gp_bel (x >>> (nI 2 &&& 31)) 9) wf hr (by omega) (by omega) (by omega) (Nat.le_of_ble_eq_true rfl) dL_act_133 (fun u133 hr133 => ?_)
    show gk_C p l e ({ frames := 5, cells := 120, slots := 1200, locals := 114 } : Room) s m ([.ref g, .ref a, .int x] : List Value).toArray below meth c 15 D A Q 2 19 (gw_X cI cZ g h1 h2 q1 q2 u133 ++ (gp_W cI cJ a (gp_q1 q 1 r2) F W0 (nm + 1) nk f2 fK (gp_snoc Sx nm r1) Kx (gp_snT T nm (upd (upd (fun _ => 0) 0 v111) 1 v115)) V)) [(0, .ref g), (1, .ref a), (2, .int x), (3, .int (nI nm)), (4, .int (nI nk))] 136 [.int (nI (M 10 0))]
    refine gk_iload_n G dL_act_136 3 rfl ?_
    refine gk_icmp_ne (tgt := 144) G dL_act_137 (by decide) (fun c_137 => ?_) (fun c_137 => ?_)
    · exact absurd (congrArg nI hm) c_137
    · refine gk_iconst (v := nI 1) G dL_act_140 (by decide) ?_
      refine gk_goto (tgt := 145) G dL_act_141 (by decide) ?_
      have t0 : (gp_snT T nm (upd (upd (fun _ => 0) 0 v111) 1 v115)) nm 0 = nI (1 + gp_bel (x >>> (nI 2 &&& 31)) 9) := by rw [gp_snT_at, pk_un (by decide), pk_us]; exact ev111
      have t1 : (gp_snT T nm (upd (upd (fun _ => 0) 0 v111) 1 v115)) nm 1 = -1 := by rw [gp_snT_at, pk_us]; exact ev115
      exact RET _ _ _ _ ((gp_q1 q 1 r2), F, W0, (nm + 1), nk, f2, fK, (gp_snoc Sx nm r1), Kx, (gp_snT T nm (upd (upd (fun _ => 0) 0 v111) 1 v115)), V) u133 (gm_adds M (1 + gp_bel (x >>> (nI 2 &&& 31)) 9)) dL_act_145 ⟨gm_adds_wf wf (by omega) (by omega) (by omega), gm_adds_rest hrest, hr133, ⟨gp_rep_adds wf hs (fun i hi => gp_snT_lt (by omega)) (by rw [hm]; exact t0) (by rw [hm]; exact t1), by rw [ad10, hm], (ade 11 (by decide) (by decide)).trans hk, hf2, hfK⟩, by rw [ade 9 (by decide) (by decide)]; omega, by rw [ade 13 (by decide) (by decide)]; omega⟩ (Nat.le_of_ble_eq_true rfl) (Nat.le_of_ble_eq_true rfl)
  · replace c_86 := (nI_eq (a := nm) (b := 4) (by omega) (by omega)).mp c_86
    refine gk_iconst (v := nI 1) G dL_act_89 (by decide) ?_
    exact RET _ _ _ _ (q, F, W0, nm, nk, fS, fK, Sx, Kx, T, V) u M dL_act_90 ⟨wf, hrest, hr, ⟨hs, hm, hk, hfS, hfK⟩, by omega, by omega⟩ (Nat.le_of_ble_eq_true rfl) (Nat.le_of_ble_eq_true rfl)
theorem gp_rest_set {M : gm_M} {k i v : Nat} (h : gm_rest M) (h5 : k ≠ 5) (h8 : k ≠ 8) (h11 : k ≠ 11) : gm_rest (gm_set M k i v) := by
  intro j hj
  rw [gm_set_k _ _ (fun q => h11 q.symm)] at hj
  rw [gm_set_k _ _ (fun q => h5 q.symm), gm_set_k _ _ (fun q => h8 q.symm)]
  exact h j hj
theorem gp_wf_wind {M : gm_M} {i v : Nat} (wf : gm_wf M) (hi : i < 12) (hv : v < 21) : gm_wf (gm_set M 0 i v) := by
  obtain ⟨w1, w2, w3, w4, w5, w6, w7, w8⟩ := wf
  have e : ∀ k j, k ≠ 0 → gm_set M 0 i v k j = M k j := fun k j h => gm_set_k M j h
  refine ⟨w1, w2, w3, w4, fun j hj => ?_, w6, w7, w8⟩
  by_cases h : j = i
  · rw [h, gm_set_at]; omega
  · rw [gm_set_i _ _ h]; exact w5 j hj
theorem gp_wf_rule {M : gm_M} {v : Nat} (wf : gm_wf M) (hv : v < 3) : gm_wf (gm_set M 14 0 v) := by
  obtain ⟨w1, w2, w3, w4, w5, w6, w7, w8⟩ := wf
  exact ⟨w1, w2, (by rw [gm_set_at]; omega), w4, w5, w6, w7, w8⟩
theorem gp_wf_off {M : gm_M} {v : Nat} (wf : gm_wf M) (hv : v ≤ 1) : gm_wf (gm_set M 15 0 v) := by
  obtain ⟨w1, w2, w3, w4, w5, w6, w7, w8⟩ := wf
  exact ⟨w1, w2, w3, (by rw [gm_set_at]; omega), w5, w6, w7, w8⟩
theorem gp_wf_until {M : gm_M} {i v : Nat} (wf : gm_wf M) (h1 : 1 ≤ v) (hv : v ≤ 200) : gm_wf (gm_set M 6 i v) := by
  obtain ⟨w1, w2, w3, w4, w5, w6, w7, w8⟩ := wf
  refine ⟨w1, w2, w3, w4, w5, w6, fun j hj => ?_, w8⟩
  obtain ⟨a1, a2, a3, a4, a5, a6, a7⟩ := w7 j hj
  refine ⟨a1, a2, ?_, ?_, a5, a6, a7⟩
  · by_cases h : j = i
    · rw [h, gm_set_at]; exact h1
    · rw [gm_set_i _ _ h]; exact a3
  · by_cases h : j = i
    · rw [h, gm_set_at]; exact hv
    · rw [gm_set_i _ _ h]; exact a4
theorem gp_wf_lift {M : gm_M} {i : Nat} (wf : gm_wf M) : gm_wf (gm_set M 7 i 0) :=
  gm_wf_off wf (fun k j h => gm_set_k M j h) (fun j => by
    by_cases h : j = i
    · rw [h, gm_set_at]; exact Or.inl rfl
    · rw [gm_set_i _ _ h]; exact Or.inr rfl)
set_option maxRecDepth 100000 in
set_option maxHeartbeats 2000000 in
theorem sa_wind {p : Program} {l : Launch} {e : Env} {s : State} {m : MethodId} {below : List Frame} {meth : Method} {c : Code} {D : va_G} {A : Nat → Prop} {Q : State → Prop} {cI cZ cJ : ClassId} {g h1 h2 : Nat} {q1 q2 : Nat → Nat} {u : gw_U} {a : Nat} {q : Nat → Nat} {F W0 : Nat → Int32} {nm nk : Nat} {fS fK : Nat → Option Nat} {Sx Kx : Nat → Nat} {T V : Nat → Nat → Int32} {M : gm_M} {x : Int32} (G : gk_G p s m ([.ref g, .ref a, .int x] : List Value).toArray meth c RL 15 cL_act (some .boolean) wsL_act D (g_T cI cZ cJ) A) (wf : gm_wf M) (hrest : gm_rest M) (hr : gc_rep u.1.1 u.1.2 M) (hs : gp_rep F W0 T V M) (hm : M 10 0 = nm) (hk : M 11 0 = nk) (hfS : gp_rows fS Sx nm) (hfK : gp_rows fK Kx nk) (hh : M 9 0 < 1900000) (hE : gn_E A s s.heap) (hA : gp_AO A s s.heap)
    (RET : ∀ (cells slots : Nat) (lv : List (Nat × Value)) (pc : Nat) (v : gp_Q) (u : gw_U) (M' : gm_M), decode cL_act pc = .ok (.ireturn, 1) → gp_post M v u M' → cells ≤ 120 → slots ≤ 1200 → gk_C p l e ({ frames := 5, cells := 120, slots := 1200, locals := 114 } : Room) s m ([.ref g, .ref a, .int x] : List Value).toArray below meth c 15 D A Q cells slots (gw_X cI cZ g h1 h2 q1 q2 u ++ gp_U cI cJ a v) lv pc [.int (nI 1)]) : gk_C p l e ({ frames := 5, cells := 120, slots := 1200, locals := 114 } : Room) s m ([.ref g, .ref a, .int x] : List Value).toArray below meth c 15 D A Q 0 0 (gw_X cI cZ g h1 h2 q1 q2 u ++ (gp_W cI cJ a q F W0 nm nk fS fK Sx Kx T V)) [(0, .ref g), (1, .ref a), (2, .int x), (3, .int (nI nm)), (4, .int (nI nk))] 146 [] := by
  obtain ⟨hz1, hz2, hz3, hz4, hz5, hz6, hz7, hz8⟩ := id wf
  have hb12 := gp_bel_lt x (show 0 < 12 by decide)
  have hinX2 : ∀ w ∈ wsX20, w ∈ wsL_act := fun w h9 => (List.mem_cons_of_mem _ (List.mem_append_left _ (List.mem_append_left _ (List.mem_append_left _ (List.mem_append_left _ (List.mem_append_left _ (List.mem_append_right _ h9)))))))
  have k34 := G.2.2.2.2.1 (.fieldLink RL 34 "GustMillLaw$Sim" "wind" "[I") (List.mem_cons_of_mem _ (List.mem_append_left _ (List.mem_append_left _ (List.mem_append_left _ (List.mem_append_left _ (List.mem_append_left _ (List.mem_append_left _ (List.mem_append_left _ (List.mem_of_getElem? (i := 3) rfl)))))))))
  refine gk_iload_n G dL_act_146 2 rfl ?_
  refine gk_bipush (v := nI 12) G dL_act_147 (by decide) ?_
  refine gp_below (n := 12) (v := x) G gL_act_L_below ⟨(Nat.le_of_ble_eq_true rfl), (Nat.le_of_ble_eq_true rfl)⟩ ⟨(Nat.le_of_ble_eq_true rfl), (Nat.le_of_ble_eq_true rfl)⟩ (by omega) (by omega) (Nat.le_of_ble_eq_true rfl) dL_act_149 ?_
  show gk_C p l e ({ frames := 5, cells := 120, slots := 1200, locals := 114 } : Room) s m ([.ref g, .ref a, .int x] : List Value).toArray below meth c 15 D A Q 0 0 (gw_X cI cZ g h1 h2 q1 q2 u ++ (gp_W cI cJ a q F W0 nm nk fS fK Sx Kx T V)) [(0, .ref g), (1, .ref a), (2, .int x), (3, .int (nI nm)), (4, .int (nI nk))] 152 [.int (nI (gp_bel x 12))]
  refine gk_istore (lv' := [(5, .int (nI (gp_bel x 12))), (0, .ref g), (1, .ref a), (2, .int x), (3, .int (nI nm)), (4, .int (nI nk))]) G dL_act_152 (by decide) rfl ?_
  refine gk_aload_n G dL_act_154 2 rfl ?_
  refine gk_get (v' := .ref (q 0)) G hinX2 (q0 := 21) rfl rfl 5 (by decide) k34 rfl rfl dL_act_155 ?_
  refine gk_iload G dL_act_158 0 rfl ?_
  refine gk_iald (v := nI (M 0 (gp_bel x 12))) G (q0 := 22) (t0 := 0) rfl rfl (gp_bel x 12) rfl (gp_bel_lt x (by decide)) (by decide) (hs.2.1 (gp_bel x 12) (by first | decide | omega)) dL_act_160 ?_
  refine gk_istore (lv' := [(6, .int (nI (M 0 (gp_bel x 12)))), (5, .int (nI (gp_bel x 12))), (0, .ref g), (1, .ref a), (2, .int x), (3, .int (nI nm)), (4, .int (nI nk))]) G dL_act_161 (by decide) rfl ?_
  refine gk_aload_n G dL_act_163 3 rfl ?_
  refine gk_get (v' := .ref (q 0)) G hinX2 (q0 := 21) rfl rfl 5 (by decide) k34 rfl rfl dL_act_164 ?_
  refine gk_iload G dL_act_167 1 rfl ?_
  refine gk_iload_n G dL_act_169 4 rfl ?_
  refine gk_iconst (v := nI 3) G dL_act_170 (by decide) ?_
  refine gk_ishr (v := x >>> ((nI 3) &&& 31)) G dL_act_171 rfl ?_
  refine gk_bipush (v := nI 21) G dL_act_172 (by decide) ?_
  refine gp_below (n := 21) (v := (x >>> ((nI 3) &&& 31))) G gL_act_L_below ⟨(Nat.le_of_ble_eq_true rfl), (Nat.le_of_ble_eq_true rfl)⟩ ⟨(Nat.le_of_ble_eq_true rfl), (Nat.le_of_ble_eq_true rfl)⟩ (by omega) (by omega) (Nat.le_of_ble_eq_true rfl) dL_act_174 ?_
  show gk_C p l e ({ frames := 5, cells := 120, slots := 1200, locals := 114 } : Room) s m ([.ref g, .ref a, .int x] : List Value).toArray below meth c 15 D A Q 0 0 (gw_X cI cZ g h1 h2 q1 q2 u ++ (gp_W cI cJ a q F W0 nm nk fS fK Sx Kx T V)) [(6, .int (nI (M 0 (gp_bel x 12)))), (5, .int (nI (gp_bel x 12))), (0, .ref g), (1, .ref a), (2, .int x), (3, .int (nI nm)), (4, .int (nI nk))] 177 [.int (nI (gp_bel (x >>> ((nI 3) &&& 31)) 21)), .int (nI (gp_bel x 12)), .ref (q 0)]
  refine gk_topi (fun v177 ev177 => ?_)
  refine gk_iast (w' := (gw_X cI cZ g h1 h2 q1 q2 u ++ (gp_W cI cJ a q F (upd W0 (gp_bel x 12) v177) nm nk fS fK Sx Kx T V))) G (q0 := 22) (t0 := 0) rfl rfl (gp_bel x 12) rfl (gp_bel_lt x (by decide)) (by decide) rfl dL_act_177 ?_
  generalize eW177 : upd W0 (gp_bel x 12) v177 = W177
  refine gk_aload_n G dL_act_178 2 rfl ?_
  refine gk_iload G dL_act_179 1 rfl ?_
  refine gk_aload_n G dL_act_181 3 rfl ?_
  refine gk_get (v' := .ref (q 0)) G hinX2 (q0 := 21) rfl rfl 5 (by decide) k34 rfl rfl dL_act_182 ?_
  refine gk_iload G dL_act_185 1 rfl ?_
  refine gk_iald (v := nI (gp_bel (x >>> (nI 3 &&& 31)) 21)) G (q0 := 22) (t0 := 0) rfl rfl (gp_bel x 12) rfl (gp_bel_lt x (by decide)) (by decide) (by subst eW177; exact pk_us.trans ev177) dL_act_187 ?_
  refine gq_setWind_ok (Y := []) G gL_act_X1_setWind hE ⟨(Nat.le_of_ble_eq_true rfl), (Nat.le_of_ble_eq_true rfl)⟩ ⟨(Nat.le_of_ble_eq_true rfl), (Nat.le_of_ble_eq_true rfl)⟩ (gp_bel x 12) (gp_bel (x >>> (nI 3 &&& 31)) 21) wf hr (gp_bel_lt x (by decide)) (gp_bel_lt _ (by decide)) (Nat.le_of_ble_eq_true rfl) dL_act_188 (fun u188 hr188 => ?_)
  show gk_C p l e ({ frames := 5, cells := 120, slots := 1200, locals := 114 } : Room) s m ([.ref g, .ref a, .int x] : List Value).toArray below meth c 15 D A Q 0 0 (gw_X cI cZ g h1 h2 q1 q2 u188 ++ (gp_W cI cJ a q F W177 nm nk fS fK Sx Kx T V)) [(6, .int (nI (M 0 (gp_bel x 12)))), (5, .int (nI (gp_bel x 12))), (0, .ref g), (1, .ref a), (2, .int x), (3, .int (nI nm)), (4, .int (nI nk))] 191 [.int (nI (M 0 (gp_bel x 12)))]
  refine gk_iload G dL_act_191 0 rfl ?_
  refine gk_icmp_ne (tgt := 200) G dL_act_193 (by decide) (fun c_193 => ?_) (fun c_193 => ?_)
  · exact absurd rfl c_193
  · refine gk_iconst (v := nI 1) G dL_act_196 (by decide) ?_
    refine gk_goto (tgt := 201) G dL_act_197 (by decide) ?_
    exact RET _ _ _ _ (q, F, W177, nm, nk, fS, fK, Sx, Kx, T, V) u188 (gm_set M 0 (gp_bel x 12) (gp_bel (x >>> (nI 3 &&& 31)) 21)) dL_act_201 ⟨gp_wf_wind wf (gp_bel_lt x (by decide)) (gp_bel_lt _ (by decide)), gp_rest_set hrest (by decide) (by decide) (by decide), hr188, ⟨by subst eW177; subst ev177; exact gp_rep_wind hs, (gm_set_k _ _ (by decide)).trans hm, (gm_set_k _ _ (by decide)).trans hk, hfS, hfK⟩, by rw [gm_set_k _ _ (by decide)]; omega, by rw [gm_set_k _ _ (by decide)]; omega⟩ (Nat.le_of_ble_eq_true rfl) (Nat.le_of_ble_eq_true rfl)
set_option maxRecDepth 100000 in
set_option maxHeartbeats 2000000 in
theorem sa_rule {p : Program} {l : Launch} {e : Env} {s : State} {m : MethodId} {below : List Frame} {meth : Method} {c : Code} {D : va_G} {A : Nat → Prop} {Q : State → Prop} {cI cZ cJ : ClassId} {g h1 h2 : Nat} {q1 q2 : Nat → Nat} {u : gw_U} {a : Nat} {q : Nat → Nat} {F W0 : Nat → Int32} {nm nk : Nat} {fS fK : Nat → Option Nat} {Sx Kx : Nat → Nat} {T V : Nat → Nat → Int32} {M : gm_M} {x : Int32} (G : gk_G p s m ([.ref g, .ref a, .int x] : List Value).toArray meth c RL 15 cL_act (some .boolean) wsL_act D (g_T cI cZ cJ) A) (wf : gm_wf M) (hrest : gm_rest M) (hr : gc_rep u.1.1 u.1.2 M) (hs : gp_rep F W0 T V M) (hm : M 10 0 = nm) (hk : M 11 0 = nk) (hfS : gp_rows fS Sx nm) (hfK : gp_rows fK Kx nk) (hh : M 9 0 < 1900000) (hE : gn_E A s s.heap) (hA : gp_AO A s s.heap)
    (RET : ∀ (cells slots : Nat) (lv : List (Nat × Value)) (pc : Nat) (v : gp_Q) (u : gw_U) (M' : gm_M), decode cL_act pc = .ok (.ireturn, 1) → gp_post M v u M' → cells ≤ 120 → slots ≤ 1200 → gk_C p l e ({ frames := 5, cells := 120, slots := 1200, locals := 114 } : Room) s m ([.ref g, .ref a, .int x] : List Value).toArray below meth c 15 D A Q cells slots (gw_X cI cZ g h1 h2 q1 q2 u ++ gp_U cI cJ a v) lv pc [.int (nI 1)]) : gk_C p l e ({ frames := 5, cells := 120, slots := 1200, locals := 114 } : Room) s m ([.ref g, .ref a, .int x] : List Value).toArray below meth c 15 D A Q 0 0 (gw_X cI cZ g h1 h2 q1 q2 u ++ (gp_W cI cJ a q F W0 nm nk fS fK Sx Kx T V)) [(0, .ref g), (1, .ref a), (2, .int x), (3, .int (nI nm)), (4, .int (nI nk))] 202 [] := by
  obtain ⟨hz1, hz2, hz3, hz4, hz5, hz6, hz7, hz8⟩ := id wf
  have hinX2 : ∀ w ∈ wsX20, w ∈ wsL_act := fun w h9 => (List.mem_cons_of_mem _ (List.mem_append_left _ (List.mem_append_left _ (List.mem_append_left _ (List.mem_append_left _ (List.mem_append_left _ (List.mem_append_right _ h9)))))))
  have k41 := G.2.2.2.2.1 (.fieldLink RL 41 "GustMillLaw$Sim" "rule" "I") (List.mem_cons_of_mem _ (List.mem_append_left _ (List.mem_append_left _ (List.mem_append_left _ (List.mem_append_left _ (List.mem_append_left _ (List.mem_append_left _ (List.mem_append_left _ (List.mem_of_getElem? (i := 4) rfl)))))))))
  refine gk_aload_n G dL_act_202 1 rfl ?_
  refine gk_get (v' := .int (nI (M 14 0))) G hinX2 (q0 := 21) rfl rfl 1 (by decide) k41 rfl (congrArg Value.int (hs.1.2.1)) dL_act_203 ?_
  refine gk_istore (lv' := [(7, .int (nI (M 14 0))), (0, .ref g), (1, .ref a), (2, .int x), (3, .int (nI nm)), (4, .int (nI nk))]) G dL_act_206 (by decide) rfl ?_
  refine gk_aload_n G dL_act_208 2 rfl ?_
  refine gk_iload_n G dL_act_209 3 rfl ?_
  refine gk_iconst (v := nI 3) G dL_act_210 (by decide) ?_
  refine gp_below (n := 3) (v := x) G gL_act_L_below ⟨(Nat.le_of_ble_eq_true rfl), (Nat.le_of_ble_eq_true rfl)⟩ ⟨(Nat.le_of_ble_eq_true rfl), (Nat.le_of_ble_eq_true rfl)⟩ (by omega) (by omega) (Nat.le_of_ble_eq_true rfl) dL_act_211 ?_
  show gk_C p l e ({ frames := 5, cells := 120, slots := 1200, locals := 114 } : Room) s m ([.ref g, .ref a, .int x] : List Value).toArray below meth c 15 D A Q 0 0 (gw_X cI cZ g h1 h2 q1 q2 u ++ (gp_W cI cJ a q F W0 nm nk fS fK Sx Kx T V)) [(7, .int (nI (M 14 0))), (0, .ref g), (1, .ref a), (2, .int x), (3, .int (nI nm)), (4, .int (nI nk))] 214 [.int (nI (gp_bel x 3)), .ref a]
  refine gk_topi (fun v214 ev214 => ?_)
  refine gk_put (w' := (gw_X cI cZ g h1 h2 q1 q2 u ++ (gp_W cI cJ a q (upd F 1 v214) W0 nm nk fS fK Sx Kx T V))) G hinX2 tyX2_ok nmX2 (q0 := 21) rfl rfl 1 (by decide) k41 rfl rfl rfl (Nat.le_of_ble_eq_true rfl) rfl dL_act_214 ?_
  generalize eF214 : upd F 1 v214 = F214
  refine gk_aload_n G dL_act_217 1 rfl ?_
  refine gk_aload_n G dL_act_218 2 rfl ?_
  refine gk_get (v' := .int (nI (gp_bel x 3))) G hinX2 (q0 := 21) rfl rfl 1 (by decide) k41 rfl (congrArg Value.int ((by rw [← eF214]; exact pk_us.trans ev214))) dL_act_219 ?_
  refine gq_setRule_ok (Y := []) G gL_act_X1_setRule hE ⟨(Nat.le_of_ble_eq_true rfl), (Nat.le_of_ble_eq_true rfl)⟩ ⟨(Nat.le_of_ble_eq_true rfl), (Nat.le_of_ble_eq_true rfl)⟩ (gp_bel x 3) wf hr (gp_bel_lt x (by decide)) (Nat.le_of_ble_eq_true rfl) dL_act_222 (fun u222 hr222 => ?_)
  show gk_C p l e ({ frames := 5, cells := 120, slots := 1200, locals := 114 } : Room) s m ([.ref g, .ref a, .int x] : List Value).toArray below meth c 15 D A Q 0 0 (gw_X cI cZ g h1 h2 q1 q2 u222 ++ (gp_W cI cJ a q F214 W0 nm nk fS fK Sx Kx T V)) [(7, .int (nI (M 14 0))), (0, .ref g), (1, .ref a), (2, .int x), (3, .int (nI nm)), (4, .int (nI nk))] 225 [.int (nI (M 14 0))]
  refine gk_iload G dL_act_225 0 rfl ?_
  refine gk_icmp_ne (tgt := 234) G dL_act_227 (by decide) (fun c_227 => ?_) (fun c_227 => ?_)
  · exact absurd rfl c_227
  · refine gk_iconst (v := nI 1) G dL_act_230 (by decide) ?_
    refine gk_goto (tgt := 235) G dL_act_231 (by decide) ?_
    exact RET _ _ _ _ (q, F214, W0, nm, nk, fS, fK, Sx, Kx, T, V) u222 (gm_set M 14 0 (gp_bel x 3)) dL_act_235 ⟨gp_wf_rule wf (gp_bel_lt x (by decide)), gp_rest_set hrest (by decide) (by decide) (by decide), hr222, ⟨by subst eF214; subst ev214; exact gp_rep_rule hs, (gm_set_k _ _ (by decide)).trans hm, (gm_set_k _ _ (by decide)).trans hk, hfS, hfK⟩, by rw [gm_set_k _ _ (by decide)]; omega, by rw [gm_set_k _ _ (by decide)]; omega⟩ (Nat.le_of_ble_eq_true rfl) (Nat.le_of_ble_eq_true rfl)
set_option maxRecDepth 100000 in
set_option maxHeartbeats 2000000 in
theorem sa_off {p : Program} {l : Launch} {e : Env} {s : State} {m : MethodId} {below : List Frame} {meth : Method} {c : Code} {D : va_G} {A : Nat → Prop} {Q : State → Prop} {cI cZ cJ : ClassId} {g h1 h2 : Nat} {q1 q2 : Nat → Nat} {u : gw_U} {a : Nat} {q : Nat → Nat} {F W0 : Nat → Int32} {nm nk : Nat} {fS fK : Nat → Option Nat} {Sx Kx : Nat → Nat} {T V : Nat → Nat → Int32} {M : gm_M} {x : Int32} (G : gk_G p s m ([.ref g, .ref a, .int x] : List Value).toArray meth c RL 15 cL_act (some .boolean) wsL_act D (g_T cI cZ cJ) A) (wf : gm_wf M) (hrest : gm_rest M) (hr : gc_rep u.1.1 u.1.2 M) (hs : gp_rep F W0 T V M) (hm : M 10 0 = nm) (hk : M 11 0 = nk) (hfS : gp_rows fS Sx nm) (hfK : gp_rows fK Kx nk) (hh : M 9 0 < 1900000) (hE : gn_E A s s.heap) (hA : gp_AO A s s.heap)
    (RET : ∀ (cells slots : Nat) (lv : List (Nat × Value)) (pc : Nat) (v : gp_Q) (u : gw_U) (M' : gm_M), decode cL_act pc = .ok (.ireturn, 1) → gp_post M v u M' → cells ≤ 120 → slots ≤ 1200 → gk_C p l e ({ frames := 5, cells := 120, slots := 1200, locals := 114 } : Room) s m ([.ref g, .ref a, .int x] : List Value).toArray below meth c 15 D A Q cells slots (gw_X cI cZ g h1 h2 q1 q2 u ++ gp_U cI cJ a v) lv pc [.int (nI 1)]) : gk_C p l e ({ frames := 5, cells := 120, slots := 1200, locals := 114 } : Room) s m ([.ref g, .ref a, .int x] : List Value).toArray below meth c 15 D A Q 0 0 (gw_X cI cZ g h1 h2 q1 q2 u ++ (gp_W cI cJ a q F W0 nm nk fS fK Sx Kx T V)) [(0, .ref g), (1, .ref a), (2, .int x), (3, .int (nI nm)), (4, .int (nI nk))] 236 [] := by
  obtain ⟨hz1, hz2, hz3, hz4, hz5, hz6, hz7, hz8⟩ := id wf
  have hb2 := gp_bel_lt x (show 0 < 2 by decide)
  have hinX2 : ∀ w ∈ wsX20, w ∈ wsL_act := fun w h9 => (List.mem_cons_of_mem _ (List.mem_append_left _ (List.mem_append_left _ (List.mem_append_left _ (List.mem_append_left _ (List.mem_append_left _ (List.mem_append_right _ h9)))))))
  have k48 := G.2.2.2.2.1 (.fieldLink RL 48 "GustMillLaw$Sim" "isAllowed" "Z") (List.mem_cons_of_mem _ (List.mem_append_left _ (List.mem_append_left _ (List.mem_append_left _ (List.mem_append_left _ (List.mem_append_left _ (List.mem_append_left _ (List.mem_append_left _ (List.mem_of_getElem? (i := 5) rfl)))))))))
  refine gk_aload_n G dL_act_236 1 rfl ?_
  refine gk_get (v' := .int (nI (M 15 0))) G hinX2 (q0 := 21) rfl rfl 2 (by decide) k48 rfl (congrArg Value.int (hs.1.2.2.1)) dL_act_237 ?_
  refine gk_istore (lv' := [(8, .int (nI (M 15 0))), (0, .ref g), (1, .ref a), (2, .int x), (3, .int (nI nm)), (4, .int (nI nk))]) G dL_act_240 (by decide) rfl ?_
  refine gk_aload_n G dL_act_242 2 rfl ?_
  refine gk_iload_n G dL_act_243 3 rfl ?_
  refine gk_iconst (v := nI 2) G dL_act_244 (by decide) ?_
  refine gp_below (n := 2) (v := x) G gL_act_L_below ⟨(Nat.le_of_ble_eq_true rfl), (Nat.le_of_ble_eq_true rfl)⟩ ⟨(Nat.le_of_ble_eq_true rfl), (Nat.le_of_ble_eq_true rfl)⟩ (by omega) (by omega) (Nat.le_of_ble_eq_true rfl) dL_act_245 ?_
  show gk_C p l e ({ frames := 5, cells := 120, slots := 1200, locals := 114 } : Room) s m ([.ref g, .ref a, .int x] : List Value).toArray below meth c 15 D A Q 0 0 (gw_X cI cZ g h1 h2 q1 q2 u ++ (gp_W cI cJ a q F W0 nm nk fS fK Sx Kx T V)) [(8, .int (nI (M 15 0))), (0, .ref g), (1, .ref a), (2, .int x), (3, .int (nI nm)), (4, .int (nI nk))] 248 [.int (nI (gp_bel x 2)), .ref a]
  refine gk_if_ne (tgt := 255) G dL_act_248 (by decide) (fun c_248 => ?_) (fun c_248 => ?_)
  · replace c_248 := (not_congr (nI_eq (a := gp_bel x 2) (b := 0) (by omega) (by omega))).mp c_248
    have hb9 := gp_bel_lt x (show 0 < 2 by decide)
    refine gk_iconst (v := nI 0) G dL_act_255 (by decide) ?_
    refine gk_topi (fun v256 ev256 => ?_)
    refine gk_put (w' := (gw_X cI cZ g h1 h2 q1 q2 u ++ (gp_W cI cJ a q (upd F 2 v256) W0 nm nk fS fK Sx Kx T V))) G hinX2 tyX2_ok nmX2 (q0 := 21) rfl rfl 2 (by decide) k48 rfl (gk_nz (by rw [ev256]; first | exact Or.inl rfl | exact Or.inr rfl)) (gk_fz (by rw [ev256]; first | exact Or.inl rfl | exact Or.inr rfl)) (Nat.le_of_ble_eq_true rfl) rfl dL_act_256 ?_
    generalize eF256 : upd F 2 v256 = F256
    refine gk_aload_n G dL_act_259 1 rfl ?_
    refine gk_aload_n G dL_act_260 2 rfl ?_
    refine gk_get (v' := .int (nI 0)) G hinX2 (q0 := 21) rfl rfl 2 (by decide) k48 rfl (congrArg Value.int ((by rw [← eF256]; exact pk_us.trans ev256))) dL_act_261 ?_
    refine gq_setTakingOff (Y := []) G gL_act_X1_setTakingOff hE ⟨(Nat.le_of_ble_eq_true rfl), (Nat.le_of_ble_eq_true rfl)⟩ ⟨(Nat.le_of_ble_eq_true rfl), (Nat.le_of_ble_eq_true rfl)⟩ 0 wf hr (by decide) (Nat.le_of_ble_eq_true rfl) dL_act_264 (fun u264 hr264 => ?_)
    show gk_C p l e ({ frames := 5, cells := 120, slots := 1200, locals := 114 } : Room) s m ([.ref g, .ref a, .int x] : List Value).toArray below meth c 15 D A Q 0 0 (gw_X cI cZ g h1 h2 q1 q2 u264 ++ (gp_W cI cJ a q F256 W0 nm nk fS fK Sx Kx T V)) [(8, .int (nI (M 15 0))), (0, .ref g), (1, .ref a), (2, .int x), (3, .int (nI nm)), (4, .int (nI nk))] 267 [.int (nI (M 15 0))]
    refine gk_iload G dL_act_267 0 rfl ?_
    refine gk_icmp_ne (tgt := 276) G dL_act_269 (by decide) (fun c_269 => ?_) (fun c_269 => ?_)
    · exact absurd rfl c_269
    · refine gk_iconst (v := nI 1) G dL_act_272 (by decide) ?_
      refine gk_goto (tgt := 277) G dL_act_273 (by decide) ?_
      exact RET _ _ _ _ (q, F256, W0, nm, nk, fS, fK, Sx, Kx, T, V) u264 (gm_set M 15 0 0) dL_act_277 ⟨gp_wf_off wf (by decide), gp_rest_set hrest (by decide) (by decide) (by decide), hr264, ⟨by subst eF256; subst ev256; exact gp_rep_off hs, (gm_set_k _ _ (by decide)).trans hm, (gm_set_k _ _ (by decide)).trans hk, hfS, hfK⟩, by rw [gm_set_k _ _ (by decide)]; omega, by rw [gm_set_k _ _ (by decide)]; omega⟩ (Nat.le_of_ble_eq_true rfl) (Nat.le_of_ble_eq_true rfl)
  · replace c_248 := (nI_eq (a := gp_bel x 2) (b := 0) (by omega) (by omega)).mp c_248
    refine gk_iconst (v := nI 1) G dL_act_251 (by decide) ?_
    refine gk_goto (tgt := 256) G dL_act_252 (by decide) ?_
    refine gk_topi (fun v256 ev256 => ?_)
    refine gk_put (w' := (gw_X cI cZ g h1 h2 q1 q2 u ++ (gp_W cI cJ a q (upd F 2 v256) W0 nm nk fS fK Sx Kx T V))) G hinX2 tyX2_ok nmX2 (q0 := 21) rfl rfl 2 (by decide) k48 rfl (gk_nz (by rw [ev256]; first | exact Or.inl rfl | exact Or.inr rfl)) (gk_fz (by rw [ev256]; first | exact Or.inl rfl | exact Or.inr rfl)) (Nat.le_of_ble_eq_true rfl) rfl dL_act_256 ?_
    generalize eF256 : upd F 2 v256 = F256
    refine gk_aload_n G dL_act_259 1 rfl ?_
    refine gk_aload_n G dL_act_260 2 rfl ?_
    refine gk_get (v' := .int (nI 1)) G hinX2 (q0 := 21) rfl rfl 2 (by decide) k48 rfl (congrArg Value.int ((by rw [← eF256]; exact pk_us.trans ev256))) dL_act_261 ?_
    refine gq_setTakingOff (Y := []) G gL_act_X1_setTakingOff hE ⟨(Nat.le_of_ble_eq_true rfl), (Nat.le_of_ble_eq_true rfl)⟩ ⟨(Nat.le_of_ble_eq_true rfl), (Nat.le_of_ble_eq_true rfl)⟩ 1 wf hr (by decide) (Nat.le_of_ble_eq_true rfl) dL_act_264 (fun u264 hr264 => ?_)
    show gk_C p l e ({ frames := 5, cells := 120, slots := 1200, locals := 114 } : Room) s m ([.ref g, .ref a, .int x] : List Value).toArray below meth c 15 D A Q 0 0 (gw_X cI cZ g h1 h2 q1 q2 u264 ++ (gp_W cI cJ a q F256 W0 nm nk fS fK Sx Kx T V)) [(8, .int (nI (M 15 0))), (0, .ref g), (1, .ref a), (2, .int x), (3, .int (nI nm)), (4, .int (nI nk))] 267 [.int (nI (M 15 0))]
    refine gk_iload G dL_act_267 0 rfl ?_
    refine gk_icmp_ne (tgt := 276) G dL_act_269 (by decide) (fun c_269 => ?_) (fun c_269 => ?_)
    · exact absurd rfl c_269
    · refine gk_iconst (v := nI 1) G dL_act_272 (by decide) ?_
      refine gk_goto (tgt := 277) G dL_act_273 (by decide) ?_
      exact RET _ _ _ _ (q, F256, W0, nm, nk, fS, fK, Sx, Kx, T, V) u264 (gm_set M 15 0 1) dL_act_277 ⟨gp_wf_off wf (by decide), gp_rest_set hrest (by decide) (by decide) (by decide), hr264, ⟨by subst eF256; subst ev256; exact gp_rep_off hs, (gm_set_k _ _ (by decide)).trans hm, (gm_set_k _ _ (by decide)).trans hk, hfS, hfK⟩, by rw [gm_set_k _ _ (by decide)]; omega, by rw [gm_set_k _ _ (by decide)]; omega⟩ (Nat.le_of_ble_eq_true rfl) (Nat.le_of_ble_eq_true rfl)
