def gm_dp (M : gm_M) (k : Nat) : Nat → Int32
  | 0 => gm_e (M 7 k)
  | 1 => nI (M 5 k)
  | 2 => nI (M 6 k)
  | 3 => gm_e (M 8 k)
  | 4 => gm_plc M k
  | _ => gm_e (gm_hrs M 200 8 k)
def gm_dr (M : gm_M) (d : Int64) (k : Nat) : Nat → Int64
  | 0 => d
  | j + 1 => gm_mx (gm_dr M d k j) (gm_dp M k j)
theorem gm_dr6 (M : gm_M) (d : Int64) (k : Nat) : gm_dr M d k 6 = gm_ds6 M d k := rfl
theorem gm_dhS (M : gm_M) (k : Nat) : gm_dh M (k + 1) = gm_mx (gm_dh M k) (gm_dv M k) := rfl
theorem gm_drS (M : gm_M) (d : Int64) (k j : Nat) : gm_dr M d k (j + 1) = gm_mx (gm_dr M d k j) (gm_dp M k j) := rfl
set_option maxRecDepth 100000 in
set_option maxHeartbeats 1000000 in
theorem c2_digest (l : Launch) (D : va_G) (cI cZ cJ : ClassId) (h : Nat) (q : Nat → Nat) (F : Nat → Int32) (B : Nat → Nat → Int32) (f kp g : Nat → Int32) (M : gm_M) (wf : gm_wf M) (hs : gr_st F B M) (hn : gr_now f M) (hrest : gm_rest M) (hh : M 9 0 < 1999000) : gk_L l yX2_digest wsX2_digest ({ frames := 6, cells := 18, slots := 123, locals := 139 } : Room) D (g_T cI cZ cJ) gk_E0 [.ref h] (gd_W cI h q F B f kp g) 18 123 (fun (r : Int64) (u : gd_U) => r = gm_dig M ∧ gd_R u M 0) (fun u => (gd_X cI h q u)) := by
  refine gk_L_of (cc := cX2_digest) (nL := 11) (by decide +kernel) rfl (Nat.le_of_ble_eq_true rfl) ?_
  intro p e s m below meth c A Q hnm hE G RET
  obtain ⟨hz1, hz2, hz3, hz4, hz5, hz6, hz7, hz8⟩ := id wf
  have e11h : gm_hrs M 200 11 0 = M 11 0 := gm_hrs_ne M 0 (by decide) (by decide) (by decide) (by decide) (by decide) (by decide) (by decide) 200
  have hmod : M 9 0 % 12 < 12 := Nat.mod_lt _ (by decide)
  have hinX2 : ∀ w ∈ wsX20, w ∈ wsX2_digest := fun w h9 => (List.mem_cons_of_mem _ (List.mem_append_right _ h9))
  have k13 := G.2.2.2.2.1 (.fieldLink RX2 13 "GustMillModel" "wind" "[I") (List.mem_cons_of_mem _ (List.mem_append_left _ (List.mem_append_left _ (List.mem_of_getElem? (i := 6) rfl))))
  have k19 := G.2.2.2.2.1 (.fieldLink RX2 19 "GustMillModel" "until" "[I") (List.mem_cons_of_mem _ (List.mem_append_left _ (List.mem_append_left _ (List.mem_of_getElem? (i := 9) rfl))))
  have k22 := G.2.2.2.2.1 (.fieldLink RX2 22 "GustMillModel" "now" "[I") (List.mem_cons_of_mem _ (List.mem_append_left _ (List.mem_append_left _ (List.mem_of_getElem? (i := 2) rfl))))
  have k31 := G.2.2.2.2.1 (.fieldLink RX2 31 "GustMillModel" "thrown" "I") (List.mem_cons_of_mem _ (List.mem_append_left _ (List.mem_append_left _ (List.mem_of_getElem? (i := 0) rfl))))
  have k35 := G.2.2.2.2.1 (.fieldLink RX2 35 "GustMillModel" "stones" "I") (List.mem_cons_of_mem _ (List.mem_append_left _ (List.mem_append_left _ (List.mem_of_getElem? (i := 3) rfl))))
  have k42 := G.2.2.2.2.1 (.fieldLink RX2 42 "GustMillModel" "sacks" "I") (List.mem_cons_of_mem _ (List.mem_append_left _ (List.mem_append_left _ (List.mem_of_getElem? (i := 4) rfl))))
  have k51 := G.2.2.2.2.1 (.fieldLink RX2 51 "GustMillModel" "rule" "I") (List.mem_cons_of_mem _ (List.mem_append_left _ (List.mem_append_left _ (List.mem_of_getElem? (i := 5) rfl))))
  refine gk_aload_n G dX2_digest_0 0 rfl ?_
  refine gk_iconst (v := nI 0) G dX2_digest_1 (by decide) ?_
  refine gk_topi (fun v2 ev2 => ?_)
  refine gk_put (w' := (gd_W cI h q (upd F 0 v2) B f kp g)) G hinX2 tyX2_ok nmX2 (q0 := 0) rfl rfl 0 (by decide) k31 rfl rfl rfl (Nat.le_of_ble_eq_true rfl) rfl dX2_digest_2 ?_
  generalize eF2 : upd F 0 v2 = F2
  have hsT : gr_st F2 B M := by rw [← eF2]; exact gr_st_0 hs
  have hT : F2 0 = nI 0 := by rw [← eF2, pk_us]; exact ev2
  refine gk_bipush (v := nI 11) G dX2_digest_5 (by decide) ?_
  refine gk_newa (atype := .int) (N := 11) (a0 := (11, .inl (fun _ => 0))) G (G.2.2.2.2.1 (.arrayClass .int) (List.mem_cons_of_mem _ (List.mem_append_left _ (List.mem_append_left _ (List.mem_of_getElem? (i := 1) rfl))))) rfl (fun C h => by cases h) 0 rfl (fun _ => rfl) rfl (Nat.le_of_ble_eq_true rfl) (Nat.le_of_ble_eq_true rfl) (show 0 + 1 ≤ 18 by omega) (show 0 + 11 ≤ 123 by omega) dX2_digest_7 (fun aa => ?_)
  show gk_C p l e ({ frames := 6, cells := 18, slots := 123, locals := 139 } : Room) s m ([.ref h] : List Value).toArray below meth c 11 D A Q (0 + 1) (0 + 11) (gd_W cI h q F2 B f kp g ++ (gw_R cI aa 11 (fun _ => 0))) [(0, .ref h)] 9 [.ref aa]
  refine gk_dup G dX2_digest_9 rfl ?_
  refine gk_iconst (v := nI 0) G dX2_digest_10 (by decide) ?_
  refine gk_aload_n G dX2_digest_11 0 rfl ?_
  refine gk_get (v' := .ref (q 9)) G hinX2 (q0 := 0) rfl rfl 9 (by decide) k22 rfl rfl dX2_digest_12 ?_
  refine gk_iconst (v := nI 0) G dX2_digest_15 (by decide) ?_
  refine gk_iald (v := nI (M 9 0)) G (q0 := 5) (t0 := 0) rfl rfl 0 rfl (by omega) (by decide) hn.1 dX2_digest_16 ?_
  refine gk_topi (fun v17 ev17 => ?_)
  refine gk_iast (w' := (gd_W cI h q F2 B f kp g ++ (gw_R cI aa 11 (upd (fun _ => 0) 0 v17)))) G (q0 := 8) (t0 := 0) rfl rfl 0 rfl (by omega) (by decide) rfl dX2_digest_17 ?_
  refine gk_dup G dX2_digest_18 rfl ?_
  refine gk_iconst (v := nI 1) G dX2_digest_19 (by decide) ?_
  refine gk_aload_n G dX2_digest_20 0 rfl ?_
  refine gk_get (v' := .int (nI (M 10 0))) G hinX2 (q0 := 0) rfl rfl 1 (by decide) k35 rfl (congrArg Value.int (hsT.1)) dX2_digest_21 ?_
  refine gk_topi (fun v24 ev24 => ?_)
  refine gk_iast (w' := (gd_W cI h q F2 B f kp g ++ (gw_R cI aa 11 (upd (upd (fun _ => 0) 0 v17) 1 v24)))) G (q0 := 8) (t0 := 0) rfl rfl 1 rfl (by omega) (by decide) rfl dX2_digest_24 ?_
  refine gk_dup G dX2_digest_25 rfl ?_
  refine gk_iconst (v := nI 2) G dX2_digest_26 (by decide) ?_
  refine gk_aload_n G dX2_digest_27 0 rfl ?_
  refine gk_get (v' := .int (nI (M 11 0))) G hinX2 (q0 := 0) rfl rfl 6 (by decide) k42 rfl (congrArg Value.int (hsT.2.2.2.1)) dX2_digest_28 ?_
  refine gk_topi (fun v31 ev31 => ?_)
  refine gk_iast (w' := (gd_W cI h q F2 B f kp g ++ (gw_R cI aa 11 (upd (upd (upd (fun _ => 0) 0 v17) 1 v24) 2 v31)))) G (q0 := 8) (t0 := 0) rfl rfl 2 rfl (by omega) (by decide) rfl dX2_digest_31 ?_
  refine gk_dup G dX2_digest_32 rfl ?_
  refine gk_iconst (v := nI 3) G dX2_digest_33 (by decide) ?_
  refine gk_aload_n G dX2_digest_34 0 rfl ?_
  refine gk_get (v' := .int (nI (M 14 0))) G hinX2 (q0 := 0) rfl rfl 4 (by decide) k51 rfl (congrArg Value.int (hsT.2.1)) dX2_digest_35 ?_
  refine gk_topi (fun v38 ev38 => ?_)
  refine gk_iast (w' := (gd_W cI h q F2 B f kp g ++ (gw_R cI aa 11 (upd (upd (upd (upd (fun _ => 0) 0 v17) 1 v24) 2 v31) 3 v38)))) G (q0 := 8) (t0 := 0) rfl rfl 3 rfl (by omega) (by decide) rfl dX2_digest_38 ?_
  refine gk_dup G dX2_digest_39 rfl ?_
  refine gk_iconst (v := nI 4) G dX2_digest_40 (by decide) ?_
  refine gk_aload_n G dX2_digest_41 0 rfl ?_
  refine gk_get (v' := .ref (q 3)) G hinX2 (q0 := 0) rfl rfl 3 (by decide) k13 rfl rfl dX2_digest_42 ?_
  refine gk_aload_n G dX2_digest_45 0 rfl ?_
  refine gk_get (v' := .ref (q 9)) G hinX2 (q0 := 0) rfl rfl 9 (by decide) k22 rfl rfl dX2_digest_46 ?_
  refine gk_iconst (v := nI 0) G dX2_digest_49 (by decide) ?_
  refine gk_iald (v := nI (M 9 0)) G (q0 := 5) (t0 := 0) rfl rfl 0 rfl (by omega) (by decide) hn.1 dX2_digest_50 ?_
  refine gk_bipush (v := nI 12) G dX2_digest_51 (by decide) ?_
  refine gk_irem (v := nI (M 9 0 % 12)) G dX2_digest_53 (fun q => by rw [gm_0 (by decide)] at q; omega) (pk_rem (by omega) (by decide) (by decide)) ?_
  refine gk_iald (v := nI (gm_wnd M)) G (q0 := 2) (t0 := 0) rfl rfl (M 9 0 % 12) rfl (Nat.mod_lt _ (by decide)) (by decide) (hsT.2.2.2.2.2.1 _ (Nat.mod_lt _ (by decide))) dX2_digest_54 ?_
  refine gk_topi (fun v55 ev55 => ?_)
  refine gk_iast (w' := (gd_W cI h q F2 B f kp g ++ (gw_R cI aa 11 (upd (upd (upd (upd (upd (fun _ => 0) 0 v17) 1 v24) 2 v31) 3 v38) 4 v55)))) G (q0 := 8) (t0 := 0) rfl rfl 4 rfl (by omega) (by decide) rfl dX2_digest_55 ?_
  refine gk_dup G dX2_digest_56 rfl ?_
  refine gk_iconst (v := nI 5) G dX2_digest_57 (by decide) ?_
  refine gk_aload_n G dX2_digest_58 0 rfl ?_
  refine gk_callIV (wr := gw_R cI aa 11 (upd (upd (upd (upd (upd (fun _ => 0) 0 v17) 1 v24) 2 v31) 3 v38) 4 v55)) G (c2_done l D cI cZ cJ h q F2 B f kp g M wf hsT hn (by omega)) gX2_digest_X2_done rfl 0 (by decide +kernel) rfl rfl ⟨(Nat.le_of_ble_eq_true rfl), (Nat.le_of_ble_eq_true rfl)⟩ rfl (q0 := 0) rfl (T := TX2) (N := 12) rfl gk_ok0 trivial [0, 1, 2, 3, 4, 5, 6, 7] rfl (by decide) [8] rfl (by decide) (by decide) rfl (Nat.le_of_ble_eq_true rfl) dX2_digest_59 ⟨(show (0 + 1) + 0 ≤ 18 by omega), (show (0 + 11) + 0 ≤ 123 by omega)⟩ (fun r59 u59 hp59 => ?_)
  rw [show r59 = nI (gm_gct M (M 11 0)) from hp59]
  refine gk_wsub (w' := (gd_W cI h q F2 B f kp g ++ (gw_R cI aa 11 (upd (upd (upd (upd (upd (fun _ => 0) 0 v17) 1 v24) 2 v31) 3 v38) 4 v55)))) [1, 2, 3, 4, 5, 6, 7, 8, 0] rfl (by decide) ?_
  show gk_C p l e ({ frames := 6, cells := 18, slots := 123, locals := 139 } : Room) s m ([.ref h] : List Value).toArray below meth c 11 D A Q (0 + 1) (0 + 11) (gd_W cI h q F2 B f kp g ++ (gw_R cI aa 11 (upd (upd (upd (upd (upd (fun _ => 0) 0 v17) 1 v24) 2 v31) 3 v38) 4 v55))) [(0, .ref h)] 62 [.int (nI (gm_gct M (M 11 0))), .int (nI 5), .ref aa, .ref aa]
  refine gk_topi (fun v62 ev62 => ?_)
  refine gk_iast (w' := (gd_W cI h q F2 B f kp g ++ (gw_R cI aa 11 (upd (upd (upd (upd (upd (upd (fun _ => 0) 0 v17) 1 v24) 2 v31) 3 v38) 4 v55) 5 v62)))) G (q0 := 8) (t0 := 0) rfl rfl 5 rfl (by omega) (by decide) rfl dX2_digest_62 ?_
  refine gk_dup G dX2_digest_63 rfl ?_
  refine gk_bipush (v := nI 6) G dX2_digest_64 (by decide) ?_
  refine gk_aload_n G dX2_digest_66 0 rfl ?_
  refine gk_get (v' := .ref (q 9)) G hinX2 (q0 := 0) rfl rfl 9 (by decide) k22 rfl rfl dX2_digest_67 ?_
  refine gk_iconst (v := nI 1) G dX2_digest_70 (by decide) ?_
  refine gk_iald (v := nI (M 13 0)) G (q0 := 5) (t0 := 0) rfl rfl 1 rfl (by omega) (by decide) hn.2.1 dX2_digest_71 ?_
  refine gk_topi (fun v72 ev72 => ?_)
  refine gk_iast (w' := (gd_W cI h q F2 B f kp g ++ (gw_R cI aa 11 (upd (upd (upd (upd (upd (upd (upd (fun _ => 0) 0 v17) 1 v24) 2 v31) 3 v38) 4 v55) 5 v62) 6 v72)))) G (q0 := 8) (t0 := 0) rfl rfl 6 rfl (by omega) (by decide) rfl dX2_digest_72 ?_
  refine gk_dup G dX2_digest_73 rfl ?_
  refine gk_bipush (v := nI 7) G dX2_digest_74 (by decide) ?_
  refine gk_aload_n G dX2_digest_76 0 rfl ?_
  refine gk_iconst (v := nI 0) G dX2_digest_77 (by decide) ?_
  refine gk_callIV (wr := gw_R cI aa 11 (upd (upd (upd (upd (upd (upd (upd (fun _ => 0) 0 v17) 1 v24) 2 v31) 3 v38) 4 v55) 5 v62) 6 v72)) G (c2_next l D cI cZ cJ h q F2 B f kp g M 0 wf hsT hn (by omega) (by omega)) gX2_digest_X2_next rfl 1 (by decide +kernel) rfl rfl ⟨(Nat.le_of_ble_eq_true rfl), (Nat.le_of_ble_eq_true rfl)⟩ rfl (q0 := 0) rfl (T := TX2) (N := 12) rfl gk_ok0 trivial [0, 1, 2, 3, 4, 5, 6, 7] rfl (by decide) [8] rfl (by decide) (by decide) rfl (Nat.le_of_ble_eq_true rfl) dX2_digest_78 ⟨(show (0 + 1) + 0 ≤ 18 by omega), (show (0 + 11) + 0 ≤ 123 by omega)⟩ (fun r78 u78 hp78 => ?_)
  rw [show r78 = gm_e (gm_nxt M 0 (M 11 0)) from hp78]
  refine gk_wsub (w' := (gd_W cI h q F2 B f kp g ++ (gw_R cI aa 11 (upd (upd (upd (upd (upd (upd (upd (fun _ => 0) 0 v17) 1 v24) 2 v31) 3 v38) 4 v55) 5 v62) 6 v72)))) [1, 2, 3, 4, 5, 6, 7, 8, 0] rfl (by decide) ?_
  show gk_C p l e ({ frames := 6, cells := 18, slots := 123, locals := 139 } : Room) s m ([.ref h] : List Value).toArray below meth c 11 D A Q (0 + 1) (0 + 11) (gd_W cI h q F2 B f kp g ++ (gw_R cI aa 11 (upd (upd (upd (upd (upd (upd (upd (fun _ => 0) 0 v17) 1 v24) 2 v31) 3 v38) 4 v55) 5 v62) 6 v72))) [(0, .ref h)] 81 [.int (gm_e (gm_nxt M 0 (M 11 0))), .int (nI 7), .ref aa, .ref aa]
  refine gk_topi (fun v81 ev81 => ?_)
  refine gk_iast (w' := (gd_W cI h q F2 B f kp g ++ (gw_R cI aa 11 (upd (upd (upd (upd (upd (upd (upd (upd (fun _ => 0) 0 v17) 1 v24) 2 v31) 3 v38) 4 v55) 5 v62) 6 v72) 7 v81)))) G (q0 := 8) (t0 := 0) rfl rfl 7 rfl (by omega) (by decide) rfl dX2_digest_81 ?_
  refine gk_dup G dX2_digest_82 rfl ?_
  refine gk_bipush (v := nI 8) G dX2_digest_83 (by decide) ?_
  refine gk_aload_n G dX2_digest_85 0 rfl ?_
  refine gk_iconst (v := nI 0) G dX2_digest_86 (by decide) ?_
  refine gk_callIV (wr := gw_R cI aa 11 (upd (upd (upd (upd (upd (upd (upd (upd (fun _ => 0) 0 v17) 1 v24) 2 v31) 3 v38) 4 v55) 5 v62) 6 v72) 7 v81)) G (c2_lost l D cI cZ cJ h q F2 B f kp g M 0 wf hsT hn (by omega)) gX2_digest_X2_lost rfl 1 (by decide +kernel) rfl rfl ⟨(Nat.le_of_ble_eq_true rfl), (Nat.le_of_ble_eq_true rfl)⟩ rfl (q0 := 0) rfl (T := TX2) (N := 12) rfl gk_ok0 trivial [0, 1, 2, 3, 4, 5, 6, 7] rfl (by decide) [8] rfl (by decide) (by decide) rfl (Nat.le_of_ble_eq_true rfl) dX2_digest_87 ⟨(show (0 + 1) + 0 ≤ 18 by omega), (show (0 + 11) + 0 ≤ 123 by omega)⟩ (fun r87 u87 hp87 => ?_)
  rw [show r87 = nI (gm_late M 0 (M 11 0)) from hp87]
  refine gk_wsub (w' := (gd_W cI h q F2 B f kp g ++ (gw_R cI aa 11 (upd (upd (upd (upd (upd (upd (upd (upd (fun _ => 0) 0 v17) 1 v24) 2 v31) 3 v38) 4 v55) 5 v62) 6 v72) 7 v81)))) [1, 2, 3, 4, 5, 6, 7, 8, 0] rfl (by decide) ?_
  show gk_C p l e ({ frames := 6, cells := 18, slots := 123, locals := 139 } : Room) s m ([.ref h] : List Value).toArray below meth c 11 D A Q (0 + 1) (0 + 11) (gd_W cI h q F2 B f kp g ++ (gw_R cI aa 11 (upd (upd (upd (upd (upd (upd (upd (upd (fun _ => 0) 0 v17) 1 v24) 2 v31) 3 v38) 4 v55) 5 v62) 6 v72) 7 v81))) [(0, .ref h)] 90 [.int (nI (gm_late M 0 (M 11 0))), .int (nI 8), .ref aa, .ref aa]
  refine gk_topi (fun v90 ev90 => ?_)
  refine gk_iast (w' := (gd_W cI h q F2 B f kp g ++ (gw_R cI aa 11 (upd (upd (upd (upd (upd (upd (upd (upd (upd (fun _ => 0) 0 v17) 1 v24) 2 v31) 3 v38) 4 v55) 5 v62) 6 v72) 7 v81) 8 v90)))) G (q0 := 8) (t0 := 0) rfl rfl 8 rfl (by omega) (by decide) rfl dX2_digest_90 ?_
  refine gk_dup G dX2_digest_91 rfl ?_
  refine gk_bipush (v := nI 9) G dX2_digest_92 (by decide) ?_
  refine gk_aload_n G dX2_digest_94 0 rfl ?_
  refine gk_callIV (wr := gw_R cI aa 11 (upd (upd (upd (upd (upd (upd (upd (upd (upd (fun _ => 0) 0 v17) 1 v24) 2 v31) 3 v38) 4 v55) 5 v62) 6 v72) 7 v81) 8 v90)) G (c2_best l D cI cZ cJ h q F2 B f kp g M wf hsT hn hrest hh) gX2_digest_X2_best rfl 0 (by decide +kernel) rfl rfl ⟨(Nat.le_of_ble_eq_true rfl), (Nat.le_of_ble_eq_true rfl)⟩ rfl (q0 := 0) rfl (T := TX2) (N := 12) rfl gk_ok0 trivial [0, 1, 2, 3, 4, 5, 6, 7] rfl (by decide) [8] rfl (by decide) (by decide) rfl (Nat.le_of_ble_eq_true rfl) dX2_digest_95 ⟨(show (0 + 1) + 0 ≤ 18 by omega), (show (0 + 11) + 0 ≤ 123 by omega)⟩ (fun r95 u95 hp95 => ?_)
  obtain ⟨F95, f95, kp95, g95⟩ := u95
  obtain rfl : r95 = nI ((gm_bst M 2).1) := hp95.1
  have hs95 : gr_st F95 B M := hp95.2.1
  have hn95 : gr_now f95 M := hp95.2.2.1
  have h095 : F95 0 = F2 0 := hp95.2.2.2
  have hT95 : F95 0 = nI 0 := h095.trans hT
  refine gk_wsub (w' := (gd_W cI h q F95 B f95 kp95 g95 ++ (gw_R cI aa 11 (upd (upd (upd (upd (upd (upd (upd (upd (upd (fun _ => 0) 0 v17) 1 v24) 2 v31) 3 v38) 4 v55) 5 v62) 6 v72) 7 v81) 8 v90)))) [1, 2, 3, 4, 5, 6, 7, 8, 0] rfl (by decide) ?_
  show gk_C p l e ({ frames := 6, cells := 18, slots := 123, locals := 139 } : Room) s m ([.ref h] : List Value).toArray below meth c 11 D A Q (0 + 1) (0 + 11) (gd_W cI h q F95 B f95 kp95 g95 ++ (gw_R cI aa 11 (upd (upd (upd (upd (upd (upd (upd (upd (upd (fun _ => 0) 0 v17) 1 v24) 2 v31) 3 v38) 4 v55) 5 v62) 6 v72) 7 v81) 8 v90))) [(0, .ref h)] 98 [.int (nI ((gm_bst M 2).1)), .int (nI 9), .ref aa, .ref aa]
  refine gk_topi (fun v98 ev98 => ?_)
  refine gk_iast (w' := (gd_W cI h q F95 B f95 kp95 g95 ++ (gw_R cI aa 11 (upd (upd (upd (upd (upd (upd (upd (upd (upd (upd (fun _ => 0) 0 v17) 1 v24) 2 v31) 3 v38) 4 v55) 5 v62) 6 v72) 7 v81) 8 v90) 9 v98)))) G (q0 := 8) (t0 := 0) rfl rfl 9 rfl (by omega) (by decide) rfl dX2_digest_98 ?_
  refine gk_dup G dX2_digest_99 rfl ?_
  refine gk_bipush (v := nI 10) G dX2_digest_100 (by decide) ?_
  refine gk_aload_n G dX2_digest_102 0 rfl ?_
  refine gk_bipush (v := nI 12) G dX2_digest_103 (by decide) ?_
  refine gk_callIV (wr := gw_R cI aa 11 (upd (upd (upd (upd (upd (upd (upd (upd (upd (upd (fun _ => 0) 0 v17) 1 v24) 2 v31) 3 v38) 4 v55) 5 v62) 6 v72) 7 v81) 8 v90) 9 v98)) G (c2_milledIn l D cI cZ cJ h q F95 B f95 kp95 g95 M 12 wf hs95 hn95 hrest (by omega) hh) gX2_digest_X2_milledIn rfl 1 (by decide +kernel) rfl rfl ⟨(Nat.le_of_ble_eq_true rfl), (Nat.le_of_ble_eq_true rfl)⟩ rfl (q0 := 0) rfl (T := TX2) (N := 12) rfl gk_ok0 trivial [0, 1, 2, 3, 4, 5, 6, 7] rfl (by decide) [8] rfl (by decide) (by decide) rfl (Nat.le_of_ble_eq_true rfl) dX2_digest_105 ⟨(show (0 + 1) + 0 ≤ 18 by omega), (show (0 + 11) + 0 ≤ 123 by omega)⟩ (fun r105 u105 hp105 => ?_)
  obtain ⟨f105, kp105, g105⟩ := u105
  obtain rfl : r105 = nI (gm_hrs M 12 16 0 - M 16 0) := hp105.1
  have hn105 : gr_now f105 M := hp105.2
  refine gk_wsub (w' := (gd_W cI h q F95 B f105 kp105 g105 ++ (gw_R cI aa 11 (upd (upd (upd (upd (upd (upd (upd (upd (upd (upd (fun _ => 0) 0 v17) 1 v24) 2 v31) 3 v38) 4 v55) 5 v62) 6 v72) 7 v81) 8 v90) 9 v98)))) [1, 2, 3, 4, 5, 6, 7, 8, 0] rfl (by decide) ?_
  show gk_C p l e ({ frames := 6, cells := 18, slots := 123, locals := 139 } : Room) s m ([.ref h] : List Value).toArray below meth c 11 D A Q (0 + 1) (0 + 11) (gd_W cI h q F95 B f105 kp105 g105 ++ (gw_R cI aa 11 (upd (upd (upd (upd (upd (upd (upd (upd (upd (upd (fun _ => 0) 0 v17) 1 v24) 2 v31) 3 v38) 4 v55) 5 v62) 6 v72) 7 v81) 8 v90) 9 v98))) [(0, .ref h)] 108 [.int (nI (gm_hrs M 12 16 0 - M 16 0)), .int (nI 10), .ref aa, .ref aa]
  refine gk_topi (fun v108 ev108 => ?_)
  refine gk_iast (w' := (gd_W cI h q F95 B f105 kp105 g105 ++ (gw_R cI aa 11 (upd (upd (upd (upd (upd (upd (upd (upd (upd (upd (upd (fun _ => 0) 0 v17) 1 v24) 2 v31) 3 v38) 4 v55) 5 v62) 6 v72) 7 v81) 8 v90) 9 v98) 10 v108)))) G (q0 := 8) (t0 := 0) rfl rfl 10 rfl (by omega) (by decide) rfl dX2_digest_108 ?_
  refine gk_astore_n (lv' := [(1, .ref aa), (0, .ref h)]) G dX2_digest_109 rfl (by decide) rfl ?_
  refine gk_ldc2 (v := (2281)) G (G.2.2.2.2.1 (.constantLong RX2 143 (2281)) (List.mem_cons_of_mem _ (List.mem_append_left _ (List.mem_append_left _ (List.mem_of_getElem? (i := 7) rfl))))) dX2_digest_110 ?_
  refine gk_lstore_n (lv' := [(2, .long 2281), (1, .ref aa), (0, .ref h)]) G dX2_digest_113 rfl (by decide) rfl ?_
  refine gk_aload_n G dX2_digest_114 1 rfl ?_
  refine gk_astore (lv' := [(4, .ref aa), (2, .long 2281), (1, .ref aa), (0, .ref h)]) G dX2_digest_115 (by decide) rfl ?_
  refine gk_aload G dX2_digest_117 0 rfl ?_
  refine gk_alen (v := nI 11) G (q0 := 8) (t0 := 0) rfl rfl rfl dX2_digest_119 ?_
  refine gk_istore (lv' := [(5, .int (nI 11)), (4, .ref aa), (2, .long 2281), (1, .ref aa), (0, .ref h)]) G dX2_digest_120 (by decide) rfl ?_
  refine gk_iconst (v := nI 0) G dX2_digest_122 (by decide) ?_
  refine gk_istore (lv' := [(6, .int (nI 0)), (5, .int (nI 11)), (4, .ref aa), (2, .long 2281), (1, .ref aa), (0, .ref h)]) G dX2_digest_123 (by decide) rfl ?_
  generalize hnnnn : (upd (upd (upd (upd (upd (upd (upd (upd (upd (upd (upd (fun _ => 0) 0 v17) 1 v24) 2 v31) 3 v38) 4 v55) 5 v62) 6 v72) 7 v81) 8 v90) 9 v98) 10 v108) = nn
  have hv : ∀ i, i < 11 → nn i = gm_dv M i := by
    intro i hi
    subst hnnnn
    rcases (show i = 0 ∨ i = 1 ∨ i = 2 ∨ i = 3 ∨ i = 4 ∨ i = 5 ∨ i = 6 ∨ i = 7 ∨ i = 8 ∨ i = 9 ∨ i = 10 by omega) with rfl | rfl | rfl | rfl | rfl | rfl | rfl | rfl | rfl | rfl | rfl
    · exact (pk_un (by decide)).trans ((pk_un (by decide)).trans ((pk_un (by decide)).trans ((pk_un (by decide)).trans ((pk_un (by decide)).trans ((pk_un (by decide)).trans ((pk_un (by decide)).trans ((pk_un (by decide)).trans ((pk_un (by decide)).trans ((pk_un (by decide)).trans (pk_us.trans ev17))))))))))
    · exact (pk_un (by decide)).trans ((pk_un (by decide)).trans ((pk_un (by decide)).trans ((pk_un (by decide)).trans ((pk_un (by decide)).trans ((pk_un (by decide)).trans ((pk_un (by decide)).trans ((pk_un (by decide)).trans ((pk_un (by decide)).trans (pk_us.trans ev24)))))))))
    · exact (pk_un (by decide)).trans ((pk_un (by decide)).trans ((pk_un (by decide)).trans ((pk_un (by decide)).trans ((pk_un (by decide)).trans ((pk_un (by decide)).trans ((pk_un (by decide)).trans ((pk_un (by decide)).trans (pk_us.trans ev31))))))))
    · exact (pk_un (by decide)).trans ((pk_un (by decide)).trans ((pk_un (by decide)).trans ((pk_un (by decide)).trans ((pk_un (by decide)).trans ((pk_un (by decide)).trans ((pk_un (by decide)).trans (pk_us.trans ev38)))))))
    · exact (pk_un (by decide)).trans ((pk_un (by decide)).trans ((pk_un (by decide)).trans ((pk_un (by decide)).trans ((pk_un (by decide)).trans ((pk_un (by decide)).trans (pk_us.trans ev55))))))
    · exact (pk_un (by decide)).trans ((pk_un (by decide)).trans ((pk_un (by decide)).trans ((pk_un (by decide)).trans ((pk_un (by decide)).trans (pk_us.trans ev62)))))
    · exact (pk_un (by decide)).trans ((pk_un (by decide)).trans ((pk_un (by decide)).trans ((pk_un (by decide)).trans (pk_us.trans ev72))))
    · exact (pk_un (by decide)).trans ((pk_un (by decide)).trans ((pk_un (by decide)).trans (pk_us.trans ev81)))
    · exact (pk_un (by decide)).trans ((pk_un (by decide)).trans (pk_us.trans ev90))
    · exact (pk_un (by decide)).trans (pk_us.trans ev98)
    · exact pk_us.trans ev108
  have L125 : ∀ (n : Nat) (k : Nat), 11 - k < n → (k ≤ 11) → gk_C p l e ({ frames := 6, cells := 18, slots := 123, locals := 139 } : Room) s m ([.ref h] : List Value).toArray below meth c 11 D A Q (0 + 1) (0 + 11) (gd_W cI h q F95 B f105 kp105 g105 ++ (gw_R cI aa 11 nn)) [(0, .ref h), (2, .long (gm_dh M k)), (4, .ref aa), (5, .int (nI 11)), (6, .int (nI k))] 125 [] := by
    intro n
    induction n with
    | zero => intro k h0; exact absurd h0 (Nat.not_lt_zero _)
    | succ n ih =>
      intro k h0 w0
      refine gk_iload G dX2_digest_125 4 rfl ?_
      refine gk_iload G dX2_digest_127 3 rfl ?_
      refine gk_icmp_ge (tgt := 155) G dX2_digest_129 (by decide) (fun c_129 => ?_) (fun c_129 => ?_)
      · replace c_129 := (nI_leI (a := 11) (b := k) (by omega) (by omega)).mp c_129
        obtain rfl : k = 11 := by omega
        show gk_C p l e ({ frames := 6, cells := 18, slots := 123, locals := 139 } : Room) s m ([.ref h] : List Value).toArray below meth c 11 D A Q (0 + 1) (0 + 11) (gd_W cI h q F95 B f105 kp105 g105 ++ (gw_R cI aa 11 nn)) [(0, .ref h), (2, .long (gm_dh M 11)), (4, .ref aa), (5, .int (nI 11)), (6, .int (nI 11))] 155 []
        refine gk_iconst (v := nI 0) G dX2_digest_155 (by decide) ?_
        refine gk_istore (lv' := [(4, .int (nI 0)), (0, .ref h), (2, .long (gm_dh M 11)), (5, .int (nI 11)), (6, .int (nI 11))]) G dX2_digest_156 (by decide) rfl ?_
        refine gk_wsub (w' := (gd_W cI h q F95 B f105 kp105 g105)) [0, 1, 2, 3, 4, 5, 6, 7] rfl (by decide) ?_
        have L158 : ∀ (n : Nat) (k : Nat), M 10 0 - k < n → (k ≤ M 10 0) → gk_C p l e ({ frames := 6, cells := 18, slots := 123, locals := 139 } : Room) s m ([.ref h] : List Value).toArray below meth c 11 D A Q (0 + 1) (0 + 11) (gd_W cI h q F95 B f105 kp105 g105) [(0, .ref h), (2, .long (gm_dst M (gm_dh M 11) k)), (4, .int (nI k))] 158 [] := by
          intro n
          induction n with
          | zero => intro k h0; exact absurd h0 (Nat.not_lt_zero _)
          | succ n ih =>
            intro k h0 w0
            refine gk_iload G dX2_digest_158 2 rfl ?_
            refine gk_aload_n G dX2_digest_160 0 rfl ?_
            refine gk_get (v' := .int (nI (M 10 0))) G hinX2 (q0 := 0) rfl rfl 1 (by decide) k35 rfl (congrArg Value.int (hs95.1)) dX2_digest_161 ?_
            refine gk_icmp_ge (tgt := 187) G dX2_digest_164 (by decide) (fun c_164 => ?_) (fun c_164 => ?_)
            · replace c_164 := (nI_leI (a := M 10 0) (b := k) (by omega) (by omega)).mp c_164
              obtain rfl : k = M 10 0 := by omega
              show gk_C p l e ({ frames := 6, cells := 18, slots := 123, locals := 139 } : Room) s m ([.ref h] : List Value).toArray below meth c 11 D A Q (0 + 1) (0 + 11) (gd_W cI h q F95 B f105 kp105 g105) [(0, .ref h), (2, .long (gm_dst M (gm_dh M 11) (M 10 0))), (4, .int (nI (M 10 0)))] 187 []
              refine gk_bipush (v := nI 16) G dX2_digest_187 (by decide) ?_
              refine gk_newa (atype := .int) (N := 16) (a0 := (16, .inl (fun _ => 0))) G (G.2.2.2.2.1 (.arrayClass .int) (List.mem_cons_of_mem _ (List.mem_append_left _ (List.mem_append_left _ (List.mem_of_getElem? (i := 1) rfl))))) rfl (fun C h => by cases h) 0 rfl (fun _ => rfl) rfl (Nat.le_of_ble_eq_true rfl) (Nat.le_of_ble_eq_true rfl) (show (0 + 1) + 1 ≤ 18 by omega) (show (0 + 11) + 16 ≤ 123 by omega) dX2_digest_189 (fun ab => ?_)
              show gk_C p l e ({ frames := 6, cells := 18, slots := 123, locals := 139 } : Room) s m ([.ref h] : List Value).toArray below meth c 11 D A Q ((0 + 1) + 1) ((0 + 11) + 16) (gd_W cI h q F95 B f105 kp105 g105 ++ (gw_R cI ab 16 (fun _ => 0))) [(0, .ref h), (2, .long (gm_dst M (gm_dh M 11) (M 10 0))), (4, .int (nI (M 10 0)))] 191 [.ref ab]
              refine gk_astore (lv' := [(4, .ref ab), (0, .ref h), (2, .long (gm_dst M (gm_dh M 11) (M 10 0)))]) G dX2_digest_191 (by decide) rfl ?_
              refine gk_aload_n G dX2_digest_193 1 rfl ?_
              refine gk_callVV (wr := gw_R cI ab 16 (fun _ => 0)) G (c2_keep l D cI cZ cJ h q F95 B f105 kp105 g105 M ) gX2_digest_X2_keep rfl 0 (by decide +kernel) rfl rfl ⟨(Nat.le_of_ble_eq_true rfl), (Nat.le_of_ble_eq_true rfl)⟩ rfl (q0 := 0) rfl (T := TX2) (N := 12) rfl gk_ok0 trivial [0, 1, 2, 3, 4, 5, 6, 7] rfl (by decide) [8] rfl (by decide) (by decide) rfl (Nat.le_of_ble_eq_true rfl) dX2_digest_194 ⟨(show ((0 + 1) + 1) + 0 ≤ 18 by omega), (show ((0 + 11) + 16) + 0 ≤ 123 by omega)⟩ (fun u194 hp194 => ?_)
              refine gk_wsub (w' := (gd_W cI h q F95 B f105 (va_cpy f105 kp105 0 0 51) g105 ++ (gw_R cI ab 16 (fun _ => 0)))) [1, 2, 3, 4, 5, 6, 7, 8, 0] rfl (by decide) ?_
              show gk_C p l e ({ frames := 6, cells := 18, slots := 123, locals := 139 } : Room) s m ([.ref h] : List Value).toArray below meth c 11 D A Q ((0 + 1) + 1) ((0 + 11) + 16) (gd_W cI h q F95 B f105 (va_cpy f105 kp105 0 0 51) g105 ++ (gw_R cI ab 16 (fun _ => 0))) [(4, .ref ab), (0, .ref h), (2, .long (gm_dst M (gm_dh M 11) (M 10 0)))] 197 []
              refine gk_aload_n G dX2_digest_197 1 rfl ?_
              refine gk_sipush (v := nI 200) G dX2_digest_198 (by decide) ?_
              refine gk_callVV (wr := gw_R cI ab 16 (fun _ => 0)) G (c2_hoursOn l D cI cZ cJ h q F95 B f105 (va_cpy f105 kp105 0 0 51) g105 M 200 wf hs95 hn105 hrest (by omega)) gX2_digest_X2_hoursOn rfl 1 (by decide +kernel) rfl rfl ⟨(Nat.le_of_ble_eq_true rfl), (Nat.le_of_ble_eq_true rfl)⟩ rfl (q0 := 0) rfl (T := TX2) (N := 12) rfl gk_ok0 trivial [0, 1, 2, 3, 4, 5, 6, 7] rfl (by decide) [8] rfl (by decide) (by decide) rfl (Nat.le_of_ble_eq_true rfl) dX2_digest_201 ⟨(show ((0 + 1) + 1) + 0 ≤ 18 by omega), (show ((0 + 11) + 16) + 0 ≤ 123 by omega)⟩ (fun u201 hp201 => ?_)
              obtain ⟨f201, g201⟩ := u201
              have hn201 : gr_now f201 (gm_hrs M 200) := hp201
              have hs201 : gr_st F95 B (gm_hrs M 200) := gr_st_eq hs95 (fun k0 i h3 h5 h7 h8 h9 h13 h16 => gm_hrs_ne M i h3 h7 h13 h5 h16 h8 h9 _)
              refine gk_wsub (w' := (gd_W cI h q F95 B f201 (va_cpy f105 kp105 0 0 51) g201 ++ (gw_R cI ab 16 (fun _ => 0)))) [1, 2, 3, 4, 5, 6, 7, 8, 0] rfl (by decide) ?_
              show gk_C p l e ({ frames := 6, cells := 18, slots := 123, locals := 139 } : Room) s m ([.ref h] : List Value).toArray below meth c 11 D A Q ((0 + 1) + 1) ((0 + 11) + 16) (gd_W cI h q F95 B f201 (va_cpy f105 kp105 0 0 51) g201 ++ (gw_R cI ab 16 (fun _ => 0))) [(4, .ref ab), (0, .ref h), (2, .long (gm_dst M (gm_dh M 11) (M 10 0)))] 204 []
              refine gk_iconst (v := nI 0) G dX2_digest_204 (by decide) ?_
              refine gk_istore (lv' := [(5, .int (nI 0)), (4, .ref ab), (0, .ref h), (2, .long (gm_dst M (gm_dh M 11) (M 10 0)))]) G dX2_digest_205 (by decide) rfl ?_
              have L207 : ∀ (n : Nat) (k : Nat) (b1 : Nat → Int32), M 11 0 - k < n → (k ≤ M 11 0) → (∀ i, i < k → b1 i = gm_e (gm_hrs M 200 8 i)) → gk_C p l e ({ frames := 6, cells := 18, slots := 123, locals := 139 } : Room) s m ([.ref h] : List Value).toArray below meth c 11 D A Q ((0 + 1) + 1) ((0 + 11) + 16) (gd_W cI h q F95 B f201 (va_cpy f105 kp105 0 0 51) g201 ++ (gw_R cI ab 16 b1)) [(0, .ref h), (2, .long (gm_dst M (gm_dh M 11) (M 10 0))), (4, .ref ab), (5, .int (nI k))] 207 [] := by
                intro n
                induction n with
                | zero => intro k b1 h0; exact absurd h0 (Nat.not_lt_zero _)
                | succ n ih =>
                  intro k b1 h0 w0 w1
                  refine gk_iload G dX2_digest_207 3 rfl ?_
                  refine gk_aload_n G dX2_digest_209 0 rfl ?_
                  refine gk_get (v' := .int (nI (M 11 0))) G hinX2 (q0 := 0) rfl rfl 6 (by decide) k42 rfl (congrArg Value.int (hs95.2.2.2.1)) dX2_digest_210 ?_
                  refine gk_icmp_ge (tgt := 237) G dX2_digest_213 (by decide) (fun c_213 => ?_) (fun c_213 => ?_)
                  · replace c_213 := (nI_leI (a := M 11 0) (b := k) (by omega) (by omega)).mp c_213
                    replace w1 : ∀ i, i < M 11 0 → b1 i = gm_e (gm_hrs M 200 8 i) := fun i hi => w1 i (by omega)
                    refine gk_aload_n G dX2_digest_237 0 rfl ?_
                    refine gk_callVV (wr := gw_R cI ab 16 b1) G (c2_bringBack l D cI cZ cJ h q F95 B f201 (va_cpy f105 kp105 0 0 51) g201 (gm_hrs M 200) ) gX2_digest_X2_bringBack rfl 0 (by decide +kernel) rfl rfl ⟨(Nat.le_of_ble_eq_true rfl), (Nat.le_of_ble_eq_true rfl)⟩ rfl (q0 := 0) rfl (T := TX2) (N := 12) rfl gk_ok0 trivial [0, 1, 2, 3, 4, 5, 6, 7] rfl (by decide) [8] rfl (by decide) (by decide) rfl (Nat.le_of_ble_eq_true rfl) dX2_digest_238 ⟨(show ((0 + 1) + 1) + 0 ≤ 18 by omega), (show ((0 + 11) + 16) + 0 ≤ 123 by omega)⟩ (fun u238 hp238 => ?_)
                    have hn238 : gr_now (va_cpy (va_cpy f105 kp105 0 0 51) f201 0 0 51) M := gr_now_cp hn105 (by omega) (fun j hj => by rw [gm_cpy51 hj, gm_cpy51 hj])
                    refine gk_wsub (w' := (gd_W cI h q F95 B (va_cpy (va_cpy f105 kp105 0 0 51) f201 0 0 51) (va_cpy f105 kp105 0 0 51) g201 ++ (gw_R cI ab 16 b1))) [1, 2, 3, 4, 5, 6, 7, 8, 0] rfl (by decide) ?_
                    show gk_C p l e ({ frames := 6, cells := 18, slots := 123, locals := 139 } : Room) s m ([.ref h] : List Value).toArray below meth c 11 D A Q ((0 + 1) + 1) ((0 + 11) + 16) (gd_W cI h q F95 B (va_cpy (va_cpy f105 kp105 0 0 51) f201 0 0 51) (va_cpy f105 kp105 0 0 51) g201 ++ (gw_R cI ab 16 b1)) [(0, .ref h), (2, .long (gm_dst M (gm_dh M 11) (M 10 0))), (4, .ref ab), (5, .int (nI k))] 241 []
                    refine gk_iconst (v := nI 0) G dX2_digest_241 (by decide) ?_
                    refine gk_istore (lv' := [(5, .int (nI 0)), (0, .ref h), (2, .long (gm_dst M (gm_dh M 11) (M 10 0))), (4, .ref ab)]) G dX2_digest_242 (by decide) rfl ?_
                    have L244 : ∀ (n : Nat) (k : Nat), M 11 0 - k < n → (k ≤ M 11 0) → gk_C p l e ({ frames := 6, cells := 18, slots := 123, locals := 139 } : Room) s m ([.ref h] : List Value).toArray below meth c 11 D A Q (2 + k) (27 + 6 * k) (gd_W cI h q F95 B (va_cpy (va_cpy f105 kp105 0 0 51) f201 0 0 51) (va_cpy f105 kp105 0 0 51) g201 ++ (gw_R cI ab 16 b1)) [(0, .ref h), (2, .long (gm_dsk M (gm_dst M (gm_dh M 11) (M 10 0)) k)), (4, .ref ab), (5, .int (nI k))] 244 [] := by
                      intro n
                      induction n with
                      | zero => intro k h0; exact absurd h0 (Nat.not_lt_zero _)
                      | succ n ih =>
                        intro k h0 w0
                        refine gk_iload G dX2_digest_244 3 rfl ?_
                        refine gk_aload_n G dX2_digest_246 0 rfl ?_
                        refine gk_get (v' := .int (nI (M 11 0))) G hinX2 (q0 := 0) rfl rfl 6 (by decide) k42 rfl (congrArg Value.int (hs95.2.2.2.1)) dX2_digest_247 ?_
                        refine gk_icmp_ge (tgt := 372) G dX2_digest_250 (by decide) (fun c_250 => ?_) (fun c_250 => ?_)
                        · replace c_250 := (nI_leI (a := M 11 0) (b := k) (by omega) (by omega)).mp c_250
                          obtain rfl : k = M 11 0 := by omega
                          show gk_C p l e ({ frames := 6, cells := 18, slots := 123, locals := 139 } : Room) s m ([.ref h] : List Value).toArray below meth c 11 D A Q (2 + M 11 0) (27 + 6 * M 11 0) (gd_W cI h q F95 B (va_cpy (va_cpy f105 kp105 0 0 51) f201 0 0 51) (va_cpy f105 kp105 0 0 51) g201 ++ (gw_R cI ab 16 b1)) [(0, .ref h), (2, .long (gm_dsk M (gm_dst M (gm_dh M 11) (M 10 0)) (M 11 0))), (4, .ref ab), (5, .int (nI (M 11 0)))] 372 []
                          refine gk_iconst (v := nI 0) G dX2_digest_372 (by decide) ?_
                          refine gk_istore (lv' := [(5, .int (nI 0)), (0, .ref h), (2, .long (gm_dsk M (gm_dst M (gm_dh M 11) (M 10 0)) (M 11 0))), (4, .ref ab)]) G dX2_digest_373 (by decide) rfl ?_
                          refine gk_wsub (w' := (gd_W cI h q F95 B (va_cpy (va_cpy f105 kp105 0 0 51) f201 0 0 51) (va_cpy f105 kp105 0 0 51) g201)) [0, 1, 2, 3, 4, 5, 6, 7] rfl (by decide) ?_
                          refine gk_widen (k := 18) (n := 123) (by omega) (by omega) ?_
                          have L375 : ∀ (n : Nat) (k : Nat), 8 - k < n → (k ≤ 8) → gk_C p l e ({ frames := 6, cells := 18, slots := 123, locals := 139 } : Room) s m ([.ref h] : List Value).toArray below meth c 11 D A Q 18 123 (gd_W cI h q F95 B (va_cpy (va_cpy f105 kp105 0 0 51) f201 0 0 51) (va_cpy f105 kp105 0 0 51) g201) [(0, .ref h), (2, .long (gm_dbk M (gm_dsk M (gm_dst M (gm_dh M 11) (M 10 0)) (M 11 0)) k)), (5, .int (nI k))] 375 [] := by
                            intro n
                            induction n with
                            | zero => intro k h0; exact absurd h0 (Nat.not_lt_zero _)
                            | succ n ih =>
                              intro k h0 w0
                              refine gk_iload G dX2_digest_375 2 rfl ?_
                              refine gk_bipush (v := nI 8) G dX2_digest_377 (by decide) ?_
                              refine gk_icmp_ge (tgt := 402) G dX2_digest_379 (by decide) (fun c_379 => ?_) (fun c_379 => ?_)
                              · replace c_379 := (nI_leI (a := 8) (b := k) (by omega) (by omega)).mp c_379
                                refine gk_lload_n G dX2_digest_402 1 rfl ?_
                                exact RET _ _ _ _ _ _ (F95, B, (va_cpy (va_cpy f105 kp105 0 0 51) f201 0 0 51), (va_cpy f105 kp105 0 0 51), g201) dX2_digest_403 ⟨(by rw [show k = 8 by omega]; rfl), hs95, hn238, hT95⟩ rfl (Nat.le_of_ble_eq_true rfl) (Nat.le_of_ble_eq_true rfl)
                              · replace c_379 := (not_congr (nI_leI (a := 8) (b := k) (by omega) (by omega))).mp c_379
                                refine gk_lload_n G dX2_digest_382 1 rfl ?_
                                refine gk_ldc2 (v := (31)) G (G.2.2.2.2.1 (.constantLong RX2 145 (31)) (List.mem_cons_of_mem _ (List.mem_append_left _ (List.mem_append_left _ (List.mem_of_getElem? (i := 8) rfl))))) dX2_digest_383 ?_
                                refine gk_lmul (v := (gm_dbk M (gm_dsk M (gm_dst M (gm_dh M 11) (M 10 0)) (M 11 0)) k) * 31) G dX2_digest_386 rfl ?_
                                refine gk_aload_n G dX2_digest_387 0 rfl ?_
                                refine gk_iload G dX2_digest_388 2 rfl ?_
                                refine gk_callIV (wr := []) G (c2_rest l D cI cZ cJ h q F95 B (va_cpy (va_cpy f105 kp105 0 0 51) f201 0 0 51) (va_cpy f105 kp105 0 0 51) g201 M k wf hs95 hn238 (by omega)) gX2_digest_X2_rest rfl 1 (by decide +kernel) rfl rfl ⟨(Nat.le_of_ble_eq_true rfl), (Nat.le_of_ble_eq_true rfl)⟩ rfl (q0 := 0) rfl (T := TX2) (N := 12) rfl gk_ok0 trivial [0, 1, 2, 3, 4, 5, 6, 7] rfl (by decide) [] rfl (by decide) (by decide) rfl (Nat.le_of_ble_eq_true rfl) dX2_digest_390 ⟨(show 18 + 0 ≤ 18 by omega), (show 123 + 0 ≤ 123 by omega)⟩ (fun r390 u390 hp390 => ?_)
                                rw [show r390 = nI (gm_rst M k (M 11 0)) from hp390]
                                show gk_C p l e ({ frames := 6, cells := 18, slots := 123, locals := 139 } : Room) s m ([.ref h] : List Value).toArray below meth c 11 D A Q 18 123 (gd_W cI h q F95 B (va_cpy (va_cpy f105 kp105 0 0 51) f201 0 0 51) (va_cpy f105 kp105 0 0 51) g201) [(0, .ref h), (2, .long (gm_dbk M (gm_dsk M (gm_dst M (gm_dh M 11) (M 10 0)) (M 11 0)) k)), (5, .int (nI k))] 393 [.int (nI (gm_rst M k (M 11 0))), .long ((gm_dbk M (gm_dsk M (gm_dst M (gm_dh M 11) (M 10 0)) (M 11 0)) k) * 31)]
                                refine gk_i2l (v := ((nI (gm_rst M k (M 11 0)))).toInt64) G dX2_digest_393 rfl ?_
                                refine gk_ladd (v := gm_dbk M (gm_dsk M (gm_dst M (gm_dh M 11) (M 10 0)) (M 11 0)) (k + 1)) G dX2_digest_394 rfl ?_
                                refine gk_lstore_n (lv' := [(2, .long (gm_dbk M (gm_dsk M (gm_dst M (gm_dh M 11) (M 10 0)) (M 11 0)) (k + 1))), (0, .ref h), (5, .int (nI k))]) G dX2_digest_395 rfl (by decide) rfl ?_
                                refine gk_iinc (j := 2) (v := nI (k + 1)) (lv' := [(5, .int (nI (k + 1))), (2, .long (gm_dbk M (gm_dsk M (gm_dst M (gm_dh M 11) (M 10 0)) (M 11 0)) (k + 1))), (0, .ref h)]) G dX2_digest_396 rfl (nI_add k 1) (by decide) rfl ?_
                                refine gk_goto (tgt := 375) G dX2_digest_399 (by decide) ?_
                                exact gk_lsub [2,1,0] rfl (ih (k + 1) (by omega) (by omega))
                          exact gk_lsub [1,2,0] rfl (L375 9 0 (by omega) (by omega))
                        · replace c_250 := (not_congr (nI_leI (a := M 11 0) (b := k) (by omega) (by omega))).mp c_250
                          replace c_250 : k < M 11 0 := by omega
                          refine gk_bipush (v := nI 6) G dX2_digest_253 (by decide) ?_
                          refine gk_newa (atype := .int) (N := 6) (a0 := (6, .inl (fun _ => 0))) G (G.2.2.2.2.1 (.arrayClass .int) (List.mem_cons_of_mem _ (List.mem_append_left _ (List.mem_append_left _ (List.mem_of_getElem? (i := 1) rfl))))) rfl (fun C h => by cases h) 0 rfl (fun _ => rfl) rfl (Nat.le_of_ble_eq_true rfl) (Nat.le_of_ble_eq_true rfl) (show (2 + k) + 1 ≤ 18 by omega) (show (27 + 6 * k) + 6 ≤ 123 by omega) dX2_digest_255 (fun ac => ?_)
                          show gk_C p l e ({ frames := 6, cells := 18, slots := 123, locals := 139 } : Room) s m ([.ref h] : List Value).toArray below meth c 11 D A Q ((2 + k) + 1) ((27 + 6 * k) + 6) (gd_W cI h q F95 B (va_cpy (va_cpy f105 kp105 0 0 51) f201 0 0 51) (va_cpy f105 kp105 0 0 51) g201 ++ (gw_R cI ab 16 b1 ++ (gw_R cI ac 6 (fun _ => 0)))) [(0, .ref h), (2, .long (gm_dsk M (gm_dst M (gm_dh M 11) (M 10 0)) k)), (4, .ref ab), (5, .int (nI k))] 257 [.ref ac]
                          refine gk_dup G dX2_digest_257 rfl ?_
                          refine gk_iconst (v := nI 0) G dX2_digest_258 (by decide) ?_
                          refine gk_aload_n G dX2_digest_259 0 rfl ?_
                          refine gk_get (v' := .ref (q 9)) G hinX2 (q0 := 0) rfl rfl 9 (by decide) k22 rfl rfl dX2_digest_260 ?_
                          refine gk_bipush (v := nI 35) G dX2_digest_263 (by decide) ?_
                          refine gk_iload G dX2_digest_265 3 rfl ?_
                          refine gk_iadd (v := nI (35 + k)) G dX2_digest_267 (nI_add 35 k) ?_
                          refine gk_iald (v := gm_e (M 7 k)) G (q0 := 5) (t0 := 0) rfl rfl (35 + k) rfl (by omega) (by decide) (hn238.2.2.2.2.2 k (by omega)) dX2_digest_268 ?_
                          refine gk_topi (fun v269 ev269 => ?_)
                          refine gk_iast (w' := (gd_W cI h q F95 B (va_cpy (va_cpy f105 kp105 0 0 51) f201 0 0 51) (va_cpy f105 kp105 0 0 51) g201 ++ (gw_R cI ab 16 b1 ++ (gw_R cI ac 6 (upd (fun _ => 0) 0 v269))))) G (q0 := 9) (t0 := 0) rfl rfl 0 rfl (by omega) (by decide) rfl dX2_digest_269 ?_
                          refine gk_dup G dX2_digest_270 rfl ?_
                          refine gk_iconst (v := nI 1) G dX2_digest_271 (by decide) ?_
                          refine gk_aload_n G dX2_digest_272 0 rfl ?_
                          refine gk_get (v' := .ref (q 9)) G hinX2 (q0 := 0) rfl rfl 9 (by decide) k22 rfl rfl dX2_digest_273 ?_
                          refine gk_iconst (v := nI 3) G dX2_digest_276 (by decide) ?_
                          refine gk_iload G dX2_digest_277 3 rfl ?_
                          refine gk_iadd (v := nI (3 + k)) G dX2_digest_279 (nI_add 3 k) ?_
                          refine gk_iald (v := nI (M 5 k)) G (q0 := 5) (t0 := 0) rfl rfl (3 + k) rfl (by omega) (by decide) (hn238.2.2.2.1 k (by omega)) dX2_digest_280 ?_
                          refine gk_topi (fun v281 ev281 => ?_)
                          refine gk_iast (w' := (gd_W cI h q F95 B (va_cpy (va_cpy f105 kp105 0 0 51) f201 0 0 51) (va_cpy f105 kp105 0 0 51) g201 ++ (gw_R cI ab 16 b1 ++ (gw_R cI ac 6 (upd (upd (fun _ => 0) 0 v269) 1 v281))))) G (q0 := 9) (t0 := 0) rfl rfl 1 rfl (by omega) (by decide) rfl dX2_digest_281 ?_
                          refine gk_dup G dX2_digest_282 rfl ?_
                          refine gk_iconst (v := nI 2) G dX2_digest_283 (by decide) ?_
                          refine gk_aload_n G dX2_digest_284 0 rfl ?_
                          refine gk_get (v' := .ref (q 8)) G hinX2 (q0 := 0) rfl rfl 8 (by decide) k19 rfl rfl dX2_digest_285 ?_
                          refine gk_iload G dX2_digest_288 3 rfl ?_
                          refine gk_iald (v := nI (M 6 k)) G (q0 := 4) (t0 := 0) rfl rfl k rfl (by omega) (by decide) (hs95.2.2.2.2.2.2.2 k (by omega)) dX2_digest_290 ?_
                          refine gk_topi (fun v291 ev291 => ?_)
                          refine gk_iast (w' := (gd_W cI h q F95 B (va_cpy (va_cpy f105 kp105 0 0 51) f201 0 0 51) (va_cpy f105 kp105 0 0 51) g201 ++ (gw_R cI ab 16 b1 ++ (gw_R cI ac 6 (upd (upd (upd (fun _ => 0) 0 v269) 1 v281) 2 v291))))) G (q0 := 9) (t0 := 0) rfl rfl 2 rfl (by omega) (by decide) rfl dX2_digest_291 ?_
                          refine gk_dup G dX2_digest_292 rfl ?_
                          refine gk_iconst (v := nI 3) G dX2_digest_293 (by decide) ?_
                          refine gk_aload_n G dX2_digest_294 0 rfl ?_
                          refine gk_get (v' := .ref (q 9)) G hinX2 (q0 := 0) rfl rfl 9 (by decide) k22 rfl rfl dX2_digest_295 ?_
                          refine gk_bipush (v := nI 19) G dX2_digest_298 (by decide) ?_
                          refine gk_iload G dX2_digest_300 3 rfl ?_
                          refine gk_iadd (v := nI (19 + k)) G dX2_digest_302 (nI_add 19 k) ?_
                          refine gk_iald (v := gm_e (M 8 k)) G (q0 := 5) (t0 := 0) rfl rfl (19 + k) rfl (by omega) (by decide) (hn238.2.2.2.2.1 k (by omega)) dX2_digest_303 ?_
                          refine gk_topi (fun v304 ev304 => ?_)
                          refine gk_iast (w' := (gd_W cI h q F95 B (va_cpy (va_cpy f105 kp105 0 0 51) f201 0 0 51) (va_cpy f105 kp105 0 0 51) g201 ++ (gw_R cI ab 16 b1 ++ (gw_R cI ac 6 (upd (upd (upd (upd (fun _ => 0) 0 v269) 1 v281) 2 v291) 3 v304))))) G (q0 := 9) (t0 := 0) rfl rfl 3 rfl (by omega) (by decide) rfl dX2_digest_304 ?_
                          refine gk_dup G dX2_digest_305 rfl ?_
                          refine gk_iconst (v := nI 4) G dX2_digest_306 (by decide) ?_
                          refine gk_aload_n G dX2_digest_307 0 rfl ?_
                          refine gk_iload G dX2_digest_308 3 rfl ?_
                          refine gk_callIV (wr := (gw_R cI ab 16 b1 ++ (gw_R cI ac 6 (upd (upd (upd (upd (fun _ => 0) 0 v269) 1 v281) 2 v291) 3 v304)))) G (c2_place l D cI cZ cJ h q F95 B (va_cpy (va_cpy f105 kp105 0 0 51) f201 0 0 51) (va_cpy f105 kp105 0 0 51) g201 M k wf hs95 hn238 (by omega) c_250) gX2_digest_X2_place rfl 1 (by decide +kernel) rfl rfl ⟨(Nat.le_of_ble_eq_true rfl), (Nat.le_of_ble_eq_true rfl)⟩ rfl (q0 := 0) rfl (T := TX2) (N := 12) rfl gk_ok0 trivial [0, 1, 2, 3, 4, 5, 6, 7] rfl (by decide) [8, 9] rfl (by decide) (by decide) rfl (Nat.le_of_ble_eq_true rfl) dX2_digest_310 ⟨(show ((2 + k) + 1) + 0 ≤ 18 by omega), (show ((27 + 6 * k) + 6) + 0 ≤ 123 by omega)⟩ (fun r310 u310 hp310 => ?_)
                          rw [show r310 = gm_plc M k from hp310]
                          refine gk_wsub (w' := (gd_W cI h q F95 B (va_cpy (va_cpy f105 kp105 0 0 51) f201 0 0 51) (va_cpy f105 kp105 0 0 51) g201 ++ (gw_R cI ab 16 b1 ++ (gw_R cI ac 6 (upd (upd (upd (upd (fun _ => 0) 0 v269) 1 v281) 2 v291) 3 v304))))) [2, 3, 4, 5, 6, 7, 8, 9, 0, 1] rfl (by decide) ?_
                          show gk_C p l e ({ frames := 6, cells := 18, slots := 123, locals := 139 } : Room) s m ([.ref h] : List Value).toArray below meth c 11 D A Q ((2 + k) + 1) ((27 + 6 * k) + 6) (gd_W cI h q F95 B (va_cpy (va_cpy f105 kp105 0 0 51) f201 0 0 51) (va_cpy f105 kp105 0 0 51) g201 ++ (gw_R cI ab 16 b1 ++ (gw_R cI ac 6 (upd (upd (upd (upd (fun _ => 0) 0 v269) 1 v281) 2 v291) 3 v304)))) [(0, .ref h), (2, .long (gm_dsk M (gm_dst M (gm_dh M 11) (M 10 0)) k)), (4, .ref ab), (5, .int (nI k))] 313 [.int (gm_plc M k), .int (nI 4), .ref ac, .ref ac]
                          refine gk_topi (fun v313 ev313 => ?_)
                          refine gk_iast (w' := (gd_W cI h q F95 B (va_cpy (va_cpy f105 kp105 0 0 51) f201 0 0 51) (va_cpy f105 kp105 0 0 51) g201 ++ (gw_R cI ab 16 b1 ++ (gw_R cI ac 6 (upd (upd (upd (upd (upd (fun _ => 0) 0 v269) 1 v281) 2 v291) 3 v304) 4 v313))))) G (q0 := 9) (t0 := 0) rfl rfl 4 rfl (by omega) (by decide) rfl dX2_digest_313 ?_
                          refine gk_dup G dX2_digest_314 rfl ?_
                          refine gk_iconst (v := nI 5) G dX2_digest_315 (by decide) ?_
                          refine gk_aload G dX2_digest_316 2 rfl ?_
                          refine gk_iload G dX2_digest_318 3 rfl ?_
                          refine gk_iald (v := gm_e (gm_hrs M 200 8 k)) G (q0 := 8) (t0 := 0) rfl rfl k rfl (by omega) (by decide) (w1 k (by omega)) dX2_digest_320 ?_
                          refine gk_topi (fun v321 ev321 => ?_)
                          refine gk_iast (w' := (gd_W cI h q F95 B (va_cpy (va_cpy f105 kp105 0 0 51) f201 0 0 51) (va_cpy f105 kp105 0 0 51) g201 ++ (gw_R cI ab 16 b1 ++ (gw_R cI ac 6 (upd (upd (upd (upd (upd (upd (fun _ => 0) 0 v269) 1 v281) 2 v291) 3 v304) 4 v313) 5 v321))))) G (q0 := 9) (t0 := 0) rfl rfl 5 rfl (by omega) (by decide) rfl dX2_digest_321 ?_
                          refine gk_astore (lv' := [(6, .ref ac), (0, .ref h), (2, .long (gm_dsk M (gm_dst M (gm_dh M 11) (M 10 0)) k)), (4, .ref ab), (5, .int (nI k))]) G dX2_digest_322 (by decide) rfl ?_
                          refine gk_aload G dX2_digest_324 0 rfl ?_
                          refine gk_astore (lv' := [(7, .ref ac), (6, .ref ac), (0, .ref h), (2, .long (gm_dsk M (gm_dst M (gm_dh M 11) (M 10 0)) k)), (4, .ref ab), (5, .int (nI k))]) G dX2_digest_326 (by decide) rfl ?_
                          refine gk_aload G dX2_digest_328 0 rfl ?_
                          refine gk_alen (v := nI 6) G (q0 := 9) (t0 := 0) rfl rfl rfl dX2_digest_330 ?_
                          refine gk_istore (lv' := [(8, .int (nI 6)), (7, .ref ac), (6, .ref ac), (0, .ref h), (2, .long (gm_dsk M (gm_dst M (gm_dh M 11) (M 10 0)) k)), (4, .ref ab), (5, .int (nI k))]) G dX2_digest_331 (by decide) rfl ?_
                          refine gk_iconst (v := nI 0) G dX2_digest_333 (by decide) ?_
                          refine gk_istore (lv' := [(9, .int (nI 0)), (8, .int (nI 6)), (7, .ref ac), (6, .ref ac), (0, .ref h), (2, .long (gm_dsk M (gm_dst M (gm_dh M 11) (M 10 0)) k)), (4, .ref ab), (5, .int (nI k))]) G dX2_digest_334 (by decide) rfl ?_
                          have ihK := ih
                          generalize hnncc9 : (upd (upd (upd (upd (upd (upd (fun _ => 0) 0 v269) 1 v281) 2 v291) 3 v304) 4 v313) 5 v321) = cc9
                          have hq : ∀ i, i < 6 → cc9 i = gm_dp M k i := by
                            intro i hi
                            subst hnncc9
                            rcases (show i = 0 ∨ i = 1 ∨ i = 2 ∨ i = 3 ∨ i = 4 ∨ i = 5 by omega) with rfl | rfl | rfl | rfl | rfl | rfl
                            · exact (pk_un (by decide)).trans ((pk_un (by decide)).trans ((pk_un (by decide)).trans ((pk_un (by decide)).trans ((pk_un (by decide)).trans (pk_us.trans ev269)))))
                            · exact (pk_un (by decide)).trans ((pk_un (by decide)).trans ((pk_un (by decide)).trans ((pk_un (by decide)).trans (pk_us.trans ev281))))
                            · exact (pk_un (by decide)).trans ((pk_un (by decide)).trans ((pk_un (by decide)).trans (pk_us.trans ev291)))
                            · exact (pk_un (by decide)).trans ((pk_un (by decide)).trans (pk_us.trans ev304))
                            · exact (pk_un (by decide)).trans (pk_us.trans ev313)
                            · exact pk_us.trans ev321
                          have L336 : ∀ (n : Nat) (j : Nat), 6 - j < n → (j ≤ 6) → gk_C p l e ({ frames := 6, cells := 18, slots := 123, locals := 139 } : Room) s m ([.ref h] : List Value).toArray below meth c 11 D A Q ((2 + k) + 1) ((27 + 6 * k) + 6) (gd_W cI h q F95 B (va_cpy (va_cpy f105 kp105 0 0 51) f201 0 0 51) (va_cpy f105 kp105 0 0 51) g201 ++ (gw_R cI ab 16 b1 ++ (gw_R cI ac 6 cc9))) [(0, .ref h), (2, .long (gm_dr M (gm_dsk M (gm_dst M (gm_dh M 11) (M 10 0)) k) k j)), (4, .ref ab), (5, .int (nI k)), (7, .ref ac), (8, .int (nI 6)), (9, .int (nI j))] 336 [] := by
                            intro n
                            induction n with
                            | zero => intro j h0; exact absurd h0 (Nat.not_lt_zero _)
                            | succ n ih =>
                              intro j h0 w0
                              refine gk_iload G dX2_digest_336 6 rfl ?_
                              refine gk_iload G dX2_digest_338 5 rfl ?_
                              refine gk_icmp_ge (tgt := 366) G dX2_digest_340 (by decide) (fun c_340 => ?_) (fun c_340 => ?_)
                              · replace c_340 := (nI_leI (a := 6) (b := j) (by omega) (by omega)).mp c_340
                                obtain rfl : j = 6 := by omega
                                show gk_C p l e ({ frames := 6, cells := 18, slots := 123, locals := 139 } : Room) s m ([.ref h] : List Value).toArray below meth c 11 D A Q ((2 + k) + 1) ((27 + 6 * k) + 6) (gd_W cI h q F95 B (va_cpy (va_cpy f105 kp105 0 0 51) f201 0 0 51) (va_cpy f105 kp105 0 0 51) g201 ++ (gw_R cI ab 16 b1 ++ (gw_R cI ac 6 cc9))) [(0, .ref h), (2, .long (gm_dr M (gm_dsk M (gm_dst M (gm_dh M 11) (M 10 0)) k) k 6)), (4, .ref ab), (5, .int (nI k)), (7, .ref ac), (8, .int (nI 6)), (9, .int (nI 6))] 366 []
                                refine gk_iinc (j := 3) (v := nI (k + 1)) (lv' := [(5, .int (nI (k + 1))), (0, .ref h), (2, .long (gm_dr M (gm_dsk M (gm_dst M (gm_dh M 11) (M 10 0)) k) k 6)), (4, .ref ab), (7, .ref ac), (8, .int (nI 6)), (9, .int (nI 6))]) G dX2_digest_366 rfl (nI_add k 1) (by decide) rfl ?_
                                refine gk_goto (tgt := 244) G dX2_digest_369 (by decide) ?_
                                refine gk_wsub (w' := (gd_W cI h q F95 B (va_cpy (va_cpy f105 kp105 0 0 51) f201 0 0 51) (va_cpy f105 kp105 0 0 51) g201 ++ (gw_R cI ab 16 b1))) [0, 1, 2, 3, 4, 5, 6, 7, 8] rfl (by decide) ?_
                                refine gk_widen (k := 2 + (k + 1)) (n := 27 + 6 * (k + 1)) (by omega) (by omega) ?_
                                have e9 : gm_dsk M (gm_dst M (gm_dh M 11) (M 10 0)) (k + 1) = gm_dr M (gm_dsk M (gm_dst M (gm_dh M 11) (M 10 0)) k) k 6 := (gm_dr6 M _ k).symm
                                have t9 := ihK (k + 1) (by omega) (by omega)
                                rw [e9] at t9
                                exact gk_lsub [1,2,3,0] rfl t9
                              · replace c_340 := (not_congr (nI_leI (a := 6) (b := j) (by omega) (by omega))).mp c_340
                                refine gk_aload G dX2_digest_343 4 rfl ?_
                                refine gk_iload G dX2_digest_345 6 rfl ?_
                                refine gk_iald (v := gm_dp M k j) G (q0 := 9) (t0 := 0) rfl rfl j rfl (by omega) (by decide) (hq j (by omega)) dX2_digest_347 ?_
                                refine gk_istore (lv' := [(10, .int (gm_dp M k j)), (0, .ref h), (2, .long (gm_dr M (gm_dsk M (gm_dst M (gm_dh M 11) (M 10 0)) k) k j)), (4, .ref ab), (5, .int (nI k)), (7, .ref ac), (8, .int (nI 6)), (9, .int (nI j))]) G dX2_digest_348 (by decide) rfl ?_
                                refine gk_lload_n G dX2_digest_350 2 rfl ?_
                                refine gk_ldc2 (v := (31)) G (G.2.2.2.2.1 (.constantLong RX2 145 (31)) (List.mem_cons_of_mem _ (List.mem_append_left _ (List.mem_append_left _ (List.mem_of_getElem? (i := 8) rfl))))) dX2_digest_351 ?_
                                refine gk_lmul (v := (gm_dr M (gm_dsk M (gm_dst M (gm_dh M 11) (M 10 0)) k) k j) * 31) G dX2_digest_354 rfl ?_
                                refine gk_iload G dX2_digest_355 0 rfl ?_
                                refine gk_i2l (v := ((gm_dp M k j)).toInt64) G dX2_digest_357 rfl ?_
                                refine gk_ladd (v := gm_dr M (gm_dsk M (gm_dst M (gm_dh M 11) (M 10 0)) k) k (j + 1)) G dX2_digest_358 rfl ?_
                                refine gk_lstore_n (lv' := [(2, .long (gm_dr M (gm_dsk M (gm_dst M (gm_dh M 11) (M 10 0)) k) k (j + 1))), (10, .int (gm_dp M k j)), (0, .ref h), (4, .ref ab), (5, .int (nI k)), (7, .ref ac), (8, .int (nI 6)), (9, .int (nI j))]) G dX2_digest_359 rfl (by decide) rfl ?_
                                refine gk_iinc (j := 7) (v := nI (j + 1)) (lv' := [(9, .int (nI (j + 1))), (2, .long (gm_dr M (gm_dsk M (gm_dst M (gm_dh M 11) (M 10 0)) k) k (j + 1))), (10, .int (gm_dp M k j)), (0, .ref h), (4, .ref ab), (5, .int (nI k)), (7, .ref ac), (8, .int (nI 6))]) G dX2_digest_360 rfl (nI_add j 1) (by decide) rfl ?_
                                refine gk_goto (tgt := 336) G dX2_digest_363 (by decide) ?_
                                exact gk_lsub [3,1,4,5,6,7,0] rfl (ih (j + 1) (by omega) (by omega))
                          exact gk_lsub [4,5,6,7,2,1,0] rfl (L336 7 0 (by omega) (by omega))
                    refine gk_widen (k := 2 + 0) (n := 27 + 6 * 0) (by decide) (by decide) ?_
                    exact gk_lsub [1,2,3,0] rfl (L244 (M 11 0 + 1) 0 (by omega) (by omega))
                  · replace c_213 := (not_congr (nI_leI (a := M 11 0) (b := k) (by omega) (by omega))).mp c_213
                    refine gk_aload G dX2_digest_216 2 rfl ?_
                    refine gk_iload G dX2_digest_218 3 rfl ?_
                    refine gk_aload_n G dX2_digest_220 0 rfl ?_
                    refine gk_get (v' := .ref (q 9)) G hinX2 (q0 := 0) rfl rfl 9 (by decide) k22 rfl rfl dX2_digest_221 ?_
                    refine gk_bipush (v := nI 19) G dX2_digest_224 (by decide) ?_
                    refine gk_iload G dX2_digest_226 3 rfl ?_
                    refine gk_iadd (v := nI (19 + k)) G dX2_digest_228 (nI_add 19 k) ?_
                    refine gk_iald (v := gm_e ((gm_hrs M 200) 8 k)) G (q0 := 5) (t0 := 0) rfl rfl (19 + k) rfl (by omega) (by decide) (hn201.2.2.2.2.1 k (by omega)) dX2_digest_229 ?_
                    refine gk_topi (fun v230 ev230 => ?_)
                    refine gk_iast (w' := (gd_W cI h q F95 B f201 (va_cpy f105 kp105 0 0 51) g201 ++ (gw_R cI ab 16 (upd b1 k v230)))) G (q0 := 8) (t0 := 0) rfl rfl k rfl (by omega) (by decide) rfl dX2_digest_230 ?_
                    refine gk_iinc (j := 3) (v := nI (k + 1)) (lv' := [(5, .int (nI (k + 1))), (0, .ref h), (2, .long (gm_dst M (gm_dh M 11) (M 10 0))), (4, .ref ab)]) G dX2_digest_231 rfl (nI_add k 1) (by decide) rfl ?_
                    refine gk_goto (tgt := 207) G dX2_digest_234 (by decide) ?_
                    have w2 : ∀ i, i < k + 1 → (upd b1 k v230) i = gm_e (gm_hrs M 200 8 i) := by
                      intro i hi
                      by_cases q9 : i = k
                      · subst q9; exact pk_us.trans ev230
                      · exact (pk_un q9).trans (w1 i (by omega))
                    exact gk_lsub [1,2,3,0] rfl (ih (k + 1) _ (by omega) (by omega) w2)
              exact gk_lsub [2,3,1,0] rfl (L207 (M 11 0 + 1) 0 _ (by omega) (by omega) (fun i hi => absurd hi (Nat.not_lt_zero i)))
            · replace c_164 := (not_congr (nI_leI (a := M 10 0) (b := k) (by omega) (by omega))).mp c_164
              refine gk_lload_n G dX2_digest_167 1 rfl ?_
              refine gk_ldc2 (v := (31)) G (G.2.2.2.2.1 (.constantLong RX2 145 (31)) (List.mem_cons_of_mem _ (List.mem_append_left _ (List.mem_append_left _ (List.mem_of_getElem? (i := 8) rfl))))) dX2_digest_168 ?_
              refine gk_lmul (v := (gm_dst M (gm_dh M 11) k) * 31) G dX2_digest_171 rfl ?_
              refine gk_aload_n G dX2_digest_172 0 rfl ?_
              refine gk_iload G dX2_digest_173 2 rfl ?_
              refine gk_callIV (wr := []) G (c2_on l D cI cZ cJ h q F95 B f105 kp105 g105 M k wf hs95 hn105 (by omega)) gX2_digest_X2_on rfl 1 (by decide +kernel) rfl rfl ⟨(Nat.le_of_ble_eq_true rfl), (Nat.le_of_ble_eq_true rfl)⟩ rfl (q0 := 0) rfl (T := TX2) (N := 12) rfl gk_ok0 trivial [0, 1, 2, 3, 4, 5, 6, 7] rfl (by decide) [] rfl (by decide) (by decide) rfl (Nat.le_of_ble_eq_true rfl) dX2_digest_175 ⟨(show (0 + 1) + 0 ≤ 18 by omega), (show (0 + 11) + 0 ≤ 123 by omega)⟩ (fun r175 u175 hp175 => ?_)
              rw [show r175 = gm_e (gm_who M k (M 11 0)) from hp175]
              show gk_C p l e ({ frames := 6, cells := 18, slots := 123, locals := 139 } : Room) s m ([.ref h] : List Value).toArray below meth c 11 D A Q (0 + 1) (0 + 11) (gd_W cI h q F95 B f105 kp105 g105) [(0, .ref h), (2, .long (gm_dst M (gm_dh M 11) k)), (4, .int (nI k))] 178 [.int (gm_e (gm_who M k (M 11 0))), .long ((gm_dst M (gm_dh M 11) k) * 31)]
              refine gk_i2l (v := ((gm_e (gm_who M k (M 11 0)))).toInt64) G dX2_digest_178 rfl ?_
              refine gk_ladd (v := gm_dst M (gm_dh M 11) (k + 1)) G dX2_digest_179 rfl ?_
              refine gk_lstore_n (lv' := [(2, .long (gm_dst M (gm_dh M 11) (k + 1))), (0, .ref h), (4, .int (nI k))]) G dX2_digest_180 rfl (by decide) rfl ?_
              refine gk_iinc (j := 2) (v := nI (k + 1)) (lv' := [(4, .int (nI (k + 1))), (2, .long (gm_dst M (gm_dh M 11) (k + 1))), (0, .ref h)]) G dX2_digest_181 rfl (nI_add k 1) (by decide) rfl ?_
              refine gk_goto (tgt := 158) G dX2_digest_184 (by decide) ?_
              exact gk_lsub [2,1,0] rfl (ih (k + 1) (by omega) (by omega))
        exact gk_lsub [1,2,0] rfl (L158 (M 10 0 + 1) 0 (by omega) (by omega))
      · replace c_129 := (not_congr (nI_leI (a := 11) (b := k) (by omega) (by omega))).mp c_129
        refine gk_aload G dX2_digest_132 2 rfl ?_
        refine gk_iload G dX2_digest_134 4 rfl ?_
        refine gk_iald (v := gm_dv M k) G (q0 := 8) (t0 := 0) rfl rfl k rfl (by omega) (by decide) (hv k (by omega)) dX2_digest_136 ?_
        refine gk_istore (lv' := [(7, .int (gm_dv M k)), (0, .ref h), (2, .long (gm_dh M k)), (4, .ref aa), (5, .int (nI 11)), (6, .int (nI k))]) G dX2_digest_137 (by decide) rfl ?_
        refine gk_lload_n G dX2_digest_139 2 rfl ?_
        refine gk_ldc2 (v := (31)) G (G.2.2.2.2.1 (.constantLong RX2 145 (31)) (List.mem_cons_of_mem _ (List.mem_append_left _ (List.mem_append_left _ (List.mem_of_getElem? (i := 8) rfl))))) dX2_digest_140 ?_
        refine gk_lmul (v := (gm_dh M k) * 31) G dX2_digest_143 rfl ?_
        refine gk_iload G dX2_digest_144 0 rfl ?_
        refine gk_i2l (v := ((gm_dv M k)).toInt64) G dX2_digest_146 rfl ?_
        refine gk_ladd (v := gm_dh M (k + 1)) G dX2_digest_147 rfl ?_
        refine gk_lstore_n (lv' := [(2, .long (gm_dh M (k + 1))), (7, .int (gm_dv M k)), (0, .ref h), (4, .ref aa), (5, .int (nI 11)), (6, .int (nI k))]) G dX2_digest_148 rfl (by decide) rfl ?_
        refine gk_iinc (j := 5) (v := nI (k + 1)) (lv' := [(6, .int (nI (k + 1))), (2, .long (gm_dh M (k + 1))), (7, .int (gm_dv M k)), (0, .ref h), (4, .ref aa), (5, .int (nI 11))]) G dX2_digest_149 rfl (nI_add k 1) (by decide) rfl ?_
        refine gk_goto (tgt := 125) G dX2_digest_152 (by decide) ?_
        exact gk_lsub [3,1,4,5,0] rfl (ih (k + 1) (by omega) (by omega))
  exact gk_lsub [5,3,2,1,0] rfl (L125 12 0 (by omega) (by omega))
