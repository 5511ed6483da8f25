theorem gp_rep_new {W : Nat → Int32} (hW : ∀ i, i < 12 → W i = nI 5) {F : Nat → Int32} (hF : ∀ i, i < 5 → F i = nI 0) (T V : Nat → Nat → Int32) : gp_rep F W T V gm_new :=
  ⟨⟨hF 0 (by decide), hF 1 (by decide), hF 2 (by decide), hF 3 (by decide), hF 4 (by decide)⟩, hW, fun i h => absurd h (Nat.not_lt_zero i), fun i h => absurd h (Nat.not_lt_zero i), fun i h => absurd h (Nat.not_lt_zero i), fun i h => absurd h (Nat.not_lt_zero i), fun i h => absurd h (Nat.not_lt_zero i), fun i h => absurd h (Nat.not_lt_zero i)⟩
abbrev gp_Q : Type := (Nat → Nat) × (Nat → Int32) × (Nat → Int32) × Nat × Nat × (Nat → Option Nat) × (Nat → Option Nat) × (Nat → Nat) × (Nat → Nat) × (Nat → Nat → Int32) × (Nat → Nat → Int32)
def gp_U (cI cJ : ClassId) (a : Nat) (v : gp_Q) : va_W := gp_W cI cJ a v.1 v.2.1 v.2.2.1 v.2.2.2.1 v.2.2.2.2.1 v.2.2.2.2.2.1 v.2.2.2.2.2.2.1 v.2.2.2.2.2.2.2.1 v.2.2.2.2.2.2.2.2.1 v.2.2.2.2.2.2.2.2.2.1 v.2.2.2.2.2.2.2.2.2.2
def gp_ok (v : gp_Q) (M : gm_M) : Prop := gp_rep v.2.1 v.2.2.1 v.2.2.2.2.2.2.2.2.2.1 v.2.2.2.2.2.2.2.2.2.2 M ∧ M 10 0 = v.2.2.2.1 ∧ M 11 0 = v.2.2.2.2.1 ∧ gp_rows v.2.2.2.2.2.1 v.2.2.2.2.2.2.2.1 v.2.2.2.1 ∧ gp_rows v.2.2.2.2.2.2.1 v.2.2.2.2.2.2.2.2.1 v.2.2.2.2.1
set_option maxRecDepth 100000 in
set_option maxHeartbeats 2000000 in
theorem c2_init (l : Launch) (D : va_G) (cI cZ cJ : ClassId) (a : Nat)  : gk_V l yX2_init wsX2_init ({ frames := 1, cells := 3, slots := 12, locals := 12 } : Room) D (g_T cI cZ cJ) gp_AO [.ref a] [(a, .inr (2, [.int 0, .int 0, .int 0, .int 0, .int 0, .null, .null, .null]))] 3 12 (fun (u : gp_Q) => gp_ok u gm_new) (fun u => (gp_U cI cJ a u)) := by
  refine gk_V_of (cc := cX2_init) (nL := 1) (by decide +kernel) rfl (Nat.le_of_ble_eq_true rfl) ?_
  intro p e s m below meth c A Q hnm hE G RET
  have hinX2 : ∀ w ∈ wsX20, w ∈ wsX2_init := fun w h9 => (List.mem_cons_of_mem _ (List.mem_append_right _ h9))
  have k7 := G.2.2.2.2.1 (.fieldLink RX2 7 "GustMillLaw$Sim" "wind" "[I") (List.mem_cons_of_mem _ (List.mem_append_left _ (List.mem_of_getElem? (i := 4) rfl)))
  have k14 := G.2.2.2.2.1 (.fieldLink RX2 14 "GustMillLaw$Sim" "stones" "[[I") (List.mem_cons_of_mem _ (List.mem_append_left _ (List.mem_of_getElem? (i := 6) rfl)))
  have k18 := G.2.2.2.2.1 (.fieldLink RX2 18 "GustMillLaw$Sim" "sacks" "[[I") (List.mem_cons_of_mem _ (List.mem_append_left _ (List.mem_of_getElem? (i := 7) rfl)))
  refine gk_aload_n G dX2_init_0 0 rfl ?_
  refine gk_objInit G (G.2.2.2.2.1 (.methodLink RX2 1 objectInit) (List.mem_cons_of_mem _ (List.mem_append_left _ (List.mem_of_getElem? (i := 0) rfl)))) (G.2.2.2.2.1 (.instanceMethod objectInit) (List.mem_cons_of_mem _ (List.mem_append_left _ (List.mem_of_getElem? (i := 1) rfl)))) (G.2.2.2.2.1 (.code objectInit ⟨#[0xb1]⟩ 1 none) (List.mem_cons_of_mem _ (List.mem_append_left _ (List.mem_of_getElem? (i := 2) rfl)))) (Nat.le_of_ble_eq_true rfl) (Nat.le_of_ble_eq_true rfl) dX2_init_1 ?_
  refine gk_aload_n G dX2_init_4 0 rfl ?_
  refine gk_bipush (v := nI 12) G dX2_init_5 (by decide) ?_
  refine gk_newa (cI := cI) (atype := .int) (N := 12) (a0 := (12, .inl (fun _ => 0))) G (G.2.2.2.2.1 (.arrayClass .int) (List.mem_cons_of_mem _ (List.mem_append_left _ (List.mem_of_getElem? (i := 3) rfl)))) rfl (fun C h => by cases h) 0 rfl (fun _ => rfl) rfl (by omega) (by show 12 * 4 ≤ 536870912; omega) (Nat.le_of_ble_eq_true rfl) (by show 0 + 12 ≤ 12; omega) dX2_init_7 (fun w0 => ?_)
  refine gk_widen (k := 1) (n := 12) (Nat.le_of_ble_eq_true rfl) (by omega) (gk_rot ?_)
  show gk_C p l e ({ frames := 1, cells := 3, slots := 12, locals := 12 } : Room) s m ([.ref a] : List Value).toArray below meth c 1 D A Q 1 12 (gw_R cI w0 12 (fun _ => 0) ++ ([(a, .inr (2, [.int 0, .int 0, .int 0, .int 0, .int 0, .null, .null, .null]))])) [(0, .ref a)] 9 [.ref w0, .ref a]
  refine gk_dup G dX2_init_9 rfl ?_
  refine gk_iconst (v := nI 0) G dX2_init_10 (by decide) ?_
  refine gk_iconst (v := nI 5) G dX2_init_11 (by decide) ?_
  refine gk_topi (fun v12 ev12 => ?_)
  refine gk_iast (w' := (gw_R cI w0 12 (upd (fun _ => 0) 0 v12) ++ ([(a, .inr (2, [.int 0, .int 0, .int 0, .int 0, .int 0, .null, .null, .null]))]))) G (q0 := 0) (t0 := 0) rfl rfl 0 rfl (by omega) (by decide) rfl dX2_init_12 ?_
  refine gk_dup G dX2_init_13 rfl ?_
  refine gk_iconst (v := nI 1) G dX2_init_14 (by decide) ?_
  refine gk_iconst (v := nI 5) G dX2_init_15 (by decide) ?_
  refine gk_topi (fun v16 ev16 => ?_)
  refine gk_iast (w' := (gw_R cI w0 12 (upd (upd (fun _ => 0) 0 v12) 1 v16) ++ ([(a, .inr (2, [.int 0, .int 0, .int 0, .int 0, .int 0, .null, .null, .null]))]))) G (q0 := 0) (t0 := 0) rfl rfl 1 rfl (by omega) (by decide) rfl dX2_init_16 ?_
  refine gk_dup G dX2_init_17 rfl ?_
  refine gk_iconst (v := nI 2) G dX2_init_18 (by decide) ?_
  refine gk_iconst (v := nI 5) G dX2_init_19 (by decide) ?_
  refine gk_topi (fun v20 ev20 => ?_)
  refine gk_iast (w' := (gw_R cI w0 12 (upd (upd (upd (fun _ => 0) 0 v12) 1 v16) 2 v20) ++ ([(a, .inr (2, [.int 0, .int 0, .int 0, .int 0, .int 0, .null, .null, .null]))]))) G (q0 := 0) (t0 := 0) rfl rfl 2 rfl (by omega) (by decide) rfl dX2_init_20 ?_
  refine gk_dup G dX2_init_21 rfl ?_
  refine gk_iconst (v := nI 3) G dX2_init_22 (by decide) ?_
  refine gk_iconst (v := nI 5) G dX2_init_23 (by decide) ?_
  refine gk_topi (fun v24 ev24 => ?_)
  refine gk_iast (w' := (gw_R cI w0 12 (upd (upd (upd (upd (fun _ => 0) 0 v12) 1 v16) 2 v20) 3 v24) ++ ([(a, .inr (2, [.int 0, .int 0, .int 0, .int 0, .int 0, .null, .null, .null]))]))) G (q0 := 0) (t0 := 0) rfl rfl 3 rfl (by omega) (by decide) rfl dX2_init_24 ?_
  refine gk_dup G dX2_init_25 rfl ?_
  refine gk_iconst (v := nI 4) G dX2_init_26 (by decide) ?_
  refine gk_iconst (v := nI 5) G dX2_init_27 (by decide) ?_
  refine gk_topi (fun v28 ev28 => ?_)
  refine gk_iast (w' := (gw_R cI w0 12 (upd (upd (upd (upd (upd (fun _ => 0) 0 v12) 1 v16) 2 v20) 3 v24) 4 v28) ++ ([(a, .inr (2, [.int 0, .int 0, .int 0, .int 0, .int 0, .null, .null, .null]))]))) G (q0 := 0) (t0 := 0) rfl rfl 4 rfl (by omega) (by decide) rfl dX2_init_28 ?_
  refine gk_dup G dX2_init_29 rfl ?_
  refine gk_iconst (v := nI 5) G dX2_init_30 (by decide) ?_
  refine gk_iconst (v := nI 5) G dX2_init_31 (by decide) ?_
  refine gk_topi (fun v32 ev32 => ?_)
  refine gk_iast (w' := (gw_R cI w0 12 (upd (upd (upd (upd (upd (upd (fun _ => 0) 0 v12) 1 v16) 2 v20) 3 v24) 4 v28) 5 v32) ++ ([(a, .inr (2, [.int 0, .int 0, .int 0, .int 0, .int 0, .null, .null, .null]))]))) G (q0 := 0) (t0 := 0) rfl rfl 5 rfl (by omega) (by decide) rfl dX2_init_32 ?_
  refine gk_dup G dX2_init_33 rfl ?_
  refine gk_bipush (v := nI 6) G dX2_init_34 (by decide) ?_
  refine gk_iconst (v := nI 5) G dX2_init_36 (by decide) ?_
  refine gk_topi (fun v37 ev37 => ?_)
  refine gk_iast (w' := (gw_R cI w0 12 (upd (upd (upd (upd (upd (upd (upd (fun _ => 0) 0 v12) 1 v16) 2 v20) 3 v24) 4 v28) 5 v32) 6 v37) ++ ([(a, .inr (2, [.int 0, .int 0, .int 0, .int 0, .int 0, .null, .null, .null]))]))) G (q0 := 0) (t0 := 0) rfl rfl 6 rfl (by omega) (by decide) rfl dX2_init_37 ?_
  refine gk_dup G dX2_init_38 rfl ?_
  refine gk_bipush (v := nI 7) G dX2_init_39 (by decide) ?_
  refine gk_iconst (v := nI 5) G dX2_init_41 (by decide) ?_
  refine gk_topi (fun v42 ev42 => ?_)
  refine gk_iast (w' := (gw_R cI w0 12 (upd (upd (upd (upd (upd (upd (upd (upd (fun _ => 0) 0 v12) 1 v16) 2 v20) 3 v24) 4 v28) 5 v32) 6 v37) 7 v42) ++ ([(a, .inr (2, [.int 0, .int 0, .int 0, .int 0, .int 0, .null, .null, .null]))]))) G (q0 := 0) (t0 := 0) rfl rfl 7 rfl (by omega) (by decide) rfl dX2_init_42 ?_
  refine gk_dup G dX2_init_43 rfl ?_
  refine gk_bipush (v := nI 8) G dX2_init_44 (by decide) ?_
  refine gk_iconst (v := nI 5) G dX2_init_46 (by decide) ?_
  refine gk_topi (fun v47 ev47 => ?_)
  refine gk_iast (w' := (gw_R cI w0 12 (upd (upd (upd (upd (upd (upd (upd (upd (upd (fun _ => 0) 0 v12) 1 v16) 2 v20) 3 v24) 4 v28) 5 v32) 6 v37) 7 v42) 8 v47) ++ ([(a, .inr (2, [.int 0, .int 0, .int 0, .int 0, .int 0, .null, .null, .null]))]))) G (q0 := 0) (t0 := 0) rfl rfl 8 rfl (by omega) (by decide) rfl dX2_init_47 ?_
  refine gk_dup G dX2_init_48 rfl ?_
  refine gk_bipush (v := nI 9) G dX2_init_49 (by decide) ?_
  refine gk_iconst (v := nI 5) G dX2_init_51 (by decide) ?_
  refine gk_topi (fun v52 ev52 => ?_)
  refine gk_iast (w' := (gw_R cI w0 12 (upd (upd (upd (upd (upd (upd (upd (upd (upd (upd (fun _ => 0) 0 v12) 1 v16) 2 v20) 3 v24) 4 v28) 5 v32) 6 v37) 7 v42) 8 v47) 9 v52) ++ ([(a, .inr (2, [.int 0, .int 0, .int 0, .int 0, .int 0, .null, .null, .null]))]))) G (q0 := 0) (t0 := 0) rfl rfl 9 rfl (by omega) (by decide) rfl dX2_init_52 ?_
  refine gk_dup G dX2_init_53 rfl ?_
  refine gk_bipush (v := nI 10) G dX2_init_54 (by decide) ?_
  refine gk_iconst (v := nI 5) G dX2_init_56 (by decide) ?_
  refine gk_topi (fun v57 ev57 => ?_)
  refine gk_iast (w' := (gw_R cI w0 12 (upd (upd (upd (upd (upd (upd (upd (upd (upd (upd (upd (fun _ => 0) 0 v12) 1 v16) 2 v20) 3 v24) 4 v28) 5 v32) 6 v37) 7 v42) 8 v47) 9 v52) 10 v57) ++ ([(a, .inr (2, [.int 0, .int 0, .int 0, .int 0, .int 0, .null, .null, .null]))]))) G (q0 := 0) (t0 := 0) rfl rfl 10 rfl (by omega) (by decide) rfl dX2_init_57 ?_
  refine gk_dup G dX2_init_58 rfl ?_
  refine gk_bipush (v := nI 11) G dX2_init_59 (by decide) ?_
  refine gk_iconst (v := nI 5) G dX2_init_61 (by decide) ?_
  refine gk_topi (fun v62 ev62 => ?_)
  refine gk_iast (w' := (gw_R cI w0 12 (upd (upd (upd (upd (upd (upd (upd (upd (upd (upd (upd (upd (fun _ => 0) 0 v12) 1 v16) 2 v20) 3 v24) 4 v28) 5 v32) 6 v37) 7 v42) 8 v47) 9 v52) 10 v57) 11 v62) ++ ([(a, .inr (2, [.int 0, .int 0, .int 0, .int 0, .int 0, .null, .null, .null]))]))) G (q0 := 0) (t0 := 0) rfl rfl 11 rfl (by omega) (by decide) rfl dX2_init_62 ?_
  refine gk_put (w' := (gw_R cI w0 12 (upd (upd (upd (upd (upd (upd (upd (upd (upd (upd (upd (upd (fun _ => 0) 0 v12) 1 v16) 2 v20) 3 v24) 4 v28) 5 v32) 6 v37) 7 v42) 8 v47) 9 v52) 10 v57) 11 v62) ++ ([(a, .inr (2, [.int 0, .int 0, .int 0, .int 0, .int 0, .ref w0, .null, .null]))]))) G hinX2 tyX2_ok nmX2 (q0 := 1) rfl rfl 5 (by decide) k7 rfl rfl rfl (Nat.le_of_ble_eq_true rfl) rfl dX2_init_63 ?_
  refine gk_aload_n G dX2_init_66 0 rfl ?_
  refine gk_iconst (v := nI 0) G dX2_init_67 (by decide) ?_
  refine gk_anew (cJ := cJ) (t0 := 2) (N := 0) G hE (G.2.2.2.2.1 (.classLink RX2 13 "[I") (List.mem_cons_of_mem _ (List.mem_append_left _ (List.mem_of_getElem? (i := 5) rfl)))) rfl rfl (by omega) (Nat.le_of_ble_eq_true rfl) (by show 12 + 0 ≤ 12; omega) dX2_init_68 (fun k1 => ?_)
  refine gk_widen (k := 2) (n := 12) (Nat.le_of_ble_eq_true rfl) (by omega) ?_
  show gk_C p l e ({ frames := 1, cells := 3, slots := 12, locals := 12 } : Room) s m ([.ref a] : List Value).toArray below meth c 1 D A Q 2 12 (gw_J cJ k1 0 (fun _ => none) ++ (gw_R cI w0 12 (upd (upd (upd (upd (upd (upd (upd (upd (upd (upd (upd (upd (fun _ => 0) 0 v12) 1 v16) 2 v20) 3 v24) 4 v28) 5 v32) 6 v37) 7 v42) 8 v47) 9 v52) 10 v57) 11 v62) ++ ([(a, .inr (2, [.int 0, .int 0, .int 0, .int 0, .int 0, .ref w0, .null, .null]))]))) [(0, .ref a)] 71 [.ref k1, .ref a]
  refine gk_put (w' := (gw_J cJ k1 0 (fun _ => none) ++ (gw_R cI w0 12 (upd (upd (upd (upd (upd (upd (upd (upd (upd (upd (upd (upd (fun _ => 0) 0 v12) 1 v16) 2 v20) 3 v24) 4 v28) 5 v32) 6 v37) 7 v42) 8 v47) 9 v52) 10 v57) 11 v62) ++ ([(a, .inr (2, [.int 0, .int 0, .int 0, .int 0, .int 0, .ref w0, .ref k1, .null]))])))) G hinX2 tyX2_ok nmX2 (q0 := 2) rfl rfl 6 (by decide) k14 rfl rfl rfl (Nat.le_of_ble_eq_true rfl) rfl dX2_init_71 ?_
  refine gk_aload_n G dX2_init_74 0 rfl ?_
  refine gk_iconst (v := nI 0) G dX2_init_75 (by decide) ?_
  refine gk_anew (cJ := cJ) (t0 := 2) (N := 0) G hE (G.2.2.2.2.1 (.classLink RX2 13 "[I") (List.mem_cons_of_mem _ (List.mem_append_left _ (List.mem_of_getElem? (i := 5) rfl)))) rfl rfl (by omega) (Nat.le_of_ble_eq_true rfl) (by show 12 + 0 ≤ 12; omega) dX2_init_76 (fun k2 => ?_)
  refine gk_widen (k := 3) (n := 12) (Nat.le_of_ble_eq_true rfl) (by omega) ?_
  show gk_C p l e ({ frames := 1, cells := 3, slots := 12, locals := 12 } : Room) s m ([.ref a] : List Value).toArray below meth c 1 D A Q 3 12 (gw_J cJ k2 0 (fun _ => none) ++ (gw_J cJ k1 0 (fun _ => none) ++ (gw_R cI w0 12 (upd (upd (upd (upd (upd (upd (upd (upd (upd (upd (upd (upd (fun _ => 0) 0 v12) 1 v16) 2 v20) 3 v24) 4 v28) 5 v32) 6 v37) 7 v42) 8 v47) 9 v52) 10 v57) 11 v62) ++ ([(a, .inr (2, [.int 0, .int 0, .int 0, .int 0, .int 0, .ref w0, .ref k1, .null]))])))) [(0, .ref a)] 79 [.ref k2, .ref a]
  refine gk_put (w' := (gw_J cJ k2 0 (fun _ => none) ++ (gw_J cJ k1 0 (fun _ => none) ++ (gw_R cI w0 12 (upd (upd (upd (upd (upd (upd (upd (upd (upd (upd (upd (upd (fun _ => 0) 0 v12) 1 v16) 2 v20) 3 v24) 4 v28) 5 v32) 6 v37) 7 v42) 8 v47) 9 v52) 10 v57) 11 v62) ++ ([(a, .inr (2, [.int 0, .int 0, .int 0, .int 0, .int 0, .ref w0, .ref k1, .ref k2]))]))))) G hinX2 tyX2_ok nmX2 (q0 := 3) rfl rfl 7 (by decide) k18 rfl rfl rfl (Nat.le_of_ble_eq_true rfl) rfl dX2_init_79 ?_
  refine gk_perm (w' := gp_W cI cJ a (fun i => if i = 0 then w0 else if i = 1 then k1 else k2) (fun _ => 0) (upd (upd (upd (upd (upd (upd (upd (upd (upd (upd (upd (upd (fun _ => 0) 0 v12) 1 v16) 2 v20) 3 v24) 4 v28) 5 v32) 6 v37) 7 v42) 8 v47) 9 v52) 10 v57) 11 v62) 0 0 (fun _ => none) (fun _ => none) (fun _ => 0) (fun _ => 0) (fun _ _ => 0) (fun _ _ => 0)) (List.reverse_perm (gp_W cI cJ a (fun i => if i = 0 then w0 else if i = 1 then k1 else k2) (fun _ => 0) (upd (upd (upd (upd (upd (upd (upd (upd (upd (upd (upd (upd (fun _ => 0) 0 v12) 1 v16) 2 v20) 3 v24) 4 v28) 5 v32) 6 v37) 7 v42) 8 v47) 9 v52) 10 v57) 11 v62) 0 0 (fun _ => none) (fun _ => none) (fun _ => 0) (fun _ => 0) (fun _ _ => 0) (fun _ _ => 0))) ?_
  have hW9 : ∀ i, i < 12 → (upd (upd (upd (upd (upd (upd (upd (upd (upd (upd (upd (upd (fun _ => 0) 0 v12) 1 v16) 2 v20) 3 v24) 4 v28) 5 v32) 6 v37) 7 v42) 8 v47) 9 v52) 10 v57) 11 v62) i = nI 5 := by
    subst ev12; subst ev16; subst ev20; subst ev24; subst ev28; subst ev32; subst ev37; subst ev42; subst ev47; subst ev52; subst ev57; subst ev62
    decide
  exact RET _ _ _ _ _ ((fun i => if i = 0 then w0 else if i = 1 then k1 else k2), (fun _ => 0), (upd (upd (upd (upd (upd (upd (upd (upd (upd (upd (upd (upd (fun _ => 0) 0 v12) 1 v16) 2 v20) 3 v24) 4 v28) 5 v32) 6 v37) 7 v42) 8 v47) 9 v52) 10 v57) 11 v62), 0, 0, (fun _ => none), (fun _ => none), (fun _ => 0), (fun _ => 0), (fun _ _ => 0), (fun _ _ => 0)) dX2_init_82 ⟨gp_rep_new hW9 (fun i _ => rfl) _ _, rfl, rfl, fun i h => absurd h (Nat.not_lt_zero i), fun i h => absurd h (Nat.not_lt_zero i)⟩ rfl (Nat.le_of_ble_eq_true rfl) (Nat.le_of_ble_eq_true rfl)
