set_option maxRecDepth 100000 in
set_option maxHeartbeats 2000000 in
theorem c3_act (l : Launch) (D : va_G) (cI cZ cJ : ClassId) (g h1 h2 : Nat) (q1 q2 : Nat → Nat) (u : gw_U) (a : Nat) (q : Nat → Nat) (F W0 : Nat → Int32) (nm nk : Nat) (fS fK : Nat → Option Nat) (Sx Kx : Nat → Nat) (T V : Nat → Nat → Int32) (M : gm_M) (x : Int32) (wf : gm_wf M) (hrest : gm_rest M) (hr : gc_rep u.1.1 u.1.2 M) (hs : gp_rep F W0 T V M) (hm : M 10 0 = nm) (hk : M 11 0 = nk) (hfS : gp_rows fS Sx nm) (hfK : gp_rows fK Kx nk) (hh : M 9 0 < 1900000) : gk_I l yL_act wsL_act ({ frames := 5, cells := 120, slots := 1200, locals := 114 } : Room) D (g_T cI cZ cJ) (fun A U H => gn_E A U H ∧ gp_AO A U H) [.ref g, .ref a, .int x] (gw_X cI cZ g h1 h2 q1 q2 u ++ gp_W cI cJ a q F W0 nm nk fS fK Sx Kx T V) 120 1200 (fun (r : Int32) (u : (gp_Q × gw_U × gm_M)) => r = nI 1 ∧ gp_post M u.1 u.2.1 u.2.2) (fun u => (gw_X cI cZ g h1 h2 q1 q2 u.2.1 ++ gp_U cI cJ a u.1)) := by
  refine gk_I_of (ty := .boolean) (cc := cL_act) (nL := 15) (by decide +kernel) rfl (Nat.le_of_ble_eq_true rfl) ?_
  intro p e s m below meth c A Q hnm hE G RET
  obtain ⟨hz1, hz2, hz3, hz4, hz5, hz6, hz7, hz8⟩ := id wf
  have hinX2 : ∀ w ∈ wsX20, w ∈ wsL_act := fun w h9 => (List.mem_cons_of_mem _ (List.mem_append_left _ (List.mem_append_left _ (List.mem_append_left _ (List.mem_append_left _ (List.mem_append_left _ (List.mem_append_right _ h9)))))))
  have k9 := G.2.2.2.2.1 (.fieldLink RL 9 "GustMillLaw$Sim" "stones" "[[I") (List.mem_cons_of_mem _ (List.mem_append_left _ (List.mem_append_left _ (List.mem_append_left _ (List.mem_append_left _ (List.mem_append_left _ (List.mem_append_left _ (List.mem_append_left _ (List.mem_of_getElem? (i := 0) rfl)))))))))
  have k15 := G.2.2.2.2.1 (.fieldLink RL 15 "GustMillLaw$Sim" "sacks" "[[I") (List.mem_cons_of_mem _ (List.mem_append_left _ (List.mem_append_left _ (List.mem_append_left _ (List.mem_append_left _ (List.mem_append_left _ (List.mem_append_left _ (List.mem_append_left _ (List.mem_of_getElem? (i := 1) rfl)))))))))
  refine gk_aload_n G dL_act_0 1 rfl ?_
  refine gk_get (v' := .ref (q 1)) G hinX2 (q0 := 21) rfl rfl 6 (by decide) k9 rfl rfl dL_act_1 ?_
  refine gk_alen (v := nI nm) G (q0 := 23) (t0 := 2) rfl rfl rfl dL_act_4 ?_
  refine gk_istore_n (lv' := [(3, .int (nI nm)), (0, .ref g), (1, .ref a), (2, .int x)]) G dL_act_5 rfl (by decide) rfl ?_
  refine gk_aload_n G dL_act_6 2 rfl ?_
  refine gk_get (v' := .ref (q 2)) G hinX2 (q0 := 21) rfl rfl 7 (by decide) k15 rfl rfl dL_act_7 ?_
  refine gk_alen (v := nI nk) G (q0 := 24) (t0 := 2) rfl rfl rfl dL_act_10 ?_
  refine gk_istore (lv' := [(4, .int (nI nk)), (3, .int (nI nm)), (0, .ref g), (1, .ref a), (2, .int x)]) G dL_act_11 (by decide) rfl ?_
  refine gk_iload_n G dL_act_13 4 rfl ?_
  refine gk_bipush (v := nI 9) G dL_act_14 (by decide) ?_
  refine gk_ishr (v := x >>> ((nI 9) &&& 31)) G dL_act_16 rfl ?_
  refine gk_bipush (v := nI 16) G dL_act_17 (by decide) ?_
  refine gp_below (n := 16) (v := (x >>> ((nI 9) &&& 31))) G gL_act_L_below ⟨(Nat.le_of_ble_eq_true rfl), (Nat.le_of_ble_eq_true rfl)⟩ ⟨(Nat.le_of_ble_eq_true rfl), (Nat.le_of_ble_eq_true rfl)⟩ (by omega) (by omega) (Nat.le_of_ble_eq_true rfl) dL_act_19 ?_
  show gk_C p l e ({ frames := 5, cells := 120, slots := 1200, locals := 114 } : Room) s m ([.ref g, .ref a, .int x] : List Value).toArray below meth c 15 D A Q 0 0 (gw_X cI cZ g h1 h2 q1 q2 u ++ (gp_W cI cJ a q F W0 nm nk fS fK Sx Kx T V)) [(4, .int (nI nk)), (3, .int (nI nm)), (0, .ref g), (1, .ref a), (2, .int x)] 22 [.int (nI (gp_bel (x >>> ((nI 9) &&& 31)) 16))]
  have hj9 := gp_bel_lt (x >>> (nI 9 &&& 31)) (show 0 < 16 by decide)
  generalize gp_bel (x >>> (nI 9 &&& 31)) 16 = j9 at hj9 ⊢
  have RT : ∀ (cells slots : Nat) (lv : List (Nat × Value)) (pc : Nat) (v : gp_Q) (u : gw_U) (M' : gm_M), decode cL_act pc = .ok (.ireturn, 1) → gp_post M v u M' → cells ≤ 120 → slots ≤ 1200 → gk_C p l e ({ frames := 5, cells := 120, slots := 1200, locals := 114 } : Room) s m ([.ref g, .ref a, .int x] : List Value).toArray below meth c 15 D A Q cells slots (gw_X cI cZ g h1 h2 q1 q2 u ++ gp_U cI cJ a v) lv pc [.int (nI 1)] := fun c9 s9 lv9 pc9 v9 u9 M9 d9 p9 a9 b9 => RET c9 s9 _ lv9 pc9 _ (v9, u9, M9) d9 rfl ⟨rfl, p9⟩ rfl a9 b9
  have hj : j9 = 0 ∨ j9 = 1 ∨ j9 = 2 ∨ j9 = 3 ∨ j9 = 4 ∨ j9 = 5 ∨ j9 = 6 ∨ j9 = 7 ∨ j9 = 8 ∨ j9 = 9 ∨ j9 = 10 ∨ j9 = 11 ∨ j9 = 12 ∨ j9 = 13 ∨ j9 = 14 ∨ j9 = 15 := by omega
  refine gk_lsub (lv' := [(0, .ref g), (1, .ref a), (2, .int x), (3, .int (nI nm)), (4, .int (nI nk))]) [2,3,4,1,0] rfl ?_
  rcases hj with rfl | rfl | rfl | rfl | rfl | rfl | rfl | rfl | rfl | rfl | rfl | rfl | rfl | rfl | rfl | rfl
  · exact gk_tableIn (off := 62) (tgt := 84) G dL_act_22 (by decide) (by decide) (by decide) (by decide) (sa_stone G wf hrest hr hs hm hk hfS hfK hh hE.1 hE.2 RT)
  · exact gk_tableIn (off := 62) (tgt := 84) G dL_act_22 (by decide) (by decide) (by decide) (by decide) (sa_stone G wf hrest hr hs hm hk hfS hfK hh hE.1 hE.2 RT)
  · exact gk_tableIn (off := 124) (tgt := 146) G dL_act_22 (by decide) (by decide) (by decide) (by decide) (sa_wind G wf hrest hr hs hm hk hfS hfK hh hE.1 hE.2 RT)
  · exact gk_tableIn (off := 180) (tgt := 202) G dL_act_22 (by decide) (by decide) (by decide) (by decide) (sa_rule G wf hrest hr hs hm hk hfS hfK hh hE.1 hE.2 RT)
  · exact gk_tableIn (off := 214) (tgt := 236) G dL_act_22 (by decide) (by decide) (by decide) (by decide) (sa_off G wf hrest hr hs hm hk hfS hfK hh hE.1 hE.2 RT)
  · exact gk_tableIn (off := 256) (tgt := 278) G dL_act_22 (by decide) (by decide) (by decide) (by decide) (sa_sack G wf hrest hr hs hm hk hfS hfK hh hE.1 hE.2 RT)
  · exact gk_tableIn (off := 256) (tgt := 278) G dL_act_22 (by decide) (by decide) (by decide) (by decide) (sa_sack G wf hrest hr hs hm hk hfS hfK hh hE.1 hE.2 RT)
  · exact gk_tableIn (off := 256) (tgt := 278) G dL_act_22 (by decide) (by decide) (by decide) (by decide) (sa_sack G wf hrest hr hs hm hk hfS hfK hh hE.1 hE.2 RT)
  · exact gk_tableIn (off := 256) (tgt := 278) G dL_act_22 (by decide) (by decide) (by decide) (by decide) (sa_sack G wf hrest hr hs hm hk hfS hfK hh hE.1 hE.2 RT)
  · exact gk_tableIn (off := 256) (tgt := 278) G dL_act_22 (by decide) (by decide) (by decide) (by decide) (sa_sack G wf hrest hr hs hm hk hfS hfK hh hE.1 hE.2 RT)
  · exact gk_tableIn (off := 376) (tgt := 398) G dL_act_22 (by decide) (by decide) (by decide) (by decide) (sa_lift G wf hrest hr hs hm hk hfS hfK hh hE.1 hE.2 RT)
  · exact gk_tableIn (off := 433) (tgt := 455) G dL_act_22 (by decide) (by decide) (by decide) (by decide) (sa_until G wf hrest hr hs hm hk hfS hfK hh hE.1 hE.2 RT)
  · exact gk_tableOut (tgt := 521) G dL_act_22 (Or.inr (by decide)) (by decide) (sa_hours G wf hrest hr hs hm hk hfS hfK hh hE.1 hE.2 RT)
  · exact gk_tableOut (tgt := 521) G dL_act_22 (Or.inr (by decide)) (by decide) (sa_hours G wf hrest hr hs hm hk hfS hfK hh hE.1 hE.2 RT)
  · exact gk_tableOut (tgt := 521) G dL_act_22 (Or.inr (by decide)) (by decide) (sa_hours G wf hrest hr hs hm hk hfS hfK hh hE.1 hE.2 RT)
  · exact gk_tableOut (tgt := 521) G dL_act_22 (Or.inr (by decide)) (by decide) (sa_hours G wf hrest hr hs hm hk hfS hfK hh hE.1 hE.2 RT)
