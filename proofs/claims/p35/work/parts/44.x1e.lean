theorem gm_d8 {X : gm_M} (wf : gm_wf X) {v : Nat} (hv : v < X 11 0) (h : X 5 v ≠ 0) : X 8 v = 0 :=
  Decidable.byContradiction (fun q9 => h ((wf.2.2.2.2.2.2.1 v hv).2.2.2.2.2.1 q9).2)
theorem gm_late_o (M : gm_M) (o : Nat) : ∀ n : Nat, gm_late M o n = gm_late M 0 n + o * (n - gm_gct M n)
  | 0 => rfl
  | n + 1 => by
    have ih := gm_late_o M o n
    have hg := gm_gct_le M n
    show gm_late M o n + (if M 8 n = 0 then o else M 8 n - 1 - M 6 n) = gm_late M 0 n + (if M 8 n = 0 then 0 else M 8 n - 1 - M 6 n) + o * (n + 1 - (gm_gct M n + (if M 8 n = 0 then 0 else 1)))
    rw [ih]
    by_cases h : M 8 n = 0
    · rw [if_pos h, if_pos h, if_pos h, show n + 1 - (gm_gct M n + 0) = (n - gm_gct M n) + 1 by omega, Nat.mul_add]; omega
    · rw [if_neg h, if_neg h, if_neg h, show n + 1 - (gm_gct M n + 1) = n - gm_gct M n by omega]; omega
set_option maxRecDepth 100000 in
set_option maxHeartbeats 1000000 in
theorem c1_lateWith_ok (l : Launch) (D : va_G) (cI cZ cJ : ClassId) (g h1 h2 : Nat) (q : Nat → Nat) (F : Nat → Int32) (B : Nat → Nat → Int32) (q2 : Nat → Nat) (F2 : Nat → Int32) (B2 : Nat → Nat → Int32) (M : gm_M) (v vo : Nat) (wf : gm_wf M) (hr : gc_rep F B M) (hrest : gm_rest M) (hh : M 9 0 < 1999000) (hv : v < 3) (hvo : vo ≤ 1) : gk_I l yX1_lateWith wsX1_lateWith ({ frames := 4, cells := 0, slots := 0, locals := 93 } : Room) D (g_T cI cZ cJ) gn_E [.ref g, .int (nI v), .int (nI vo)] (gw_G g h1 h2 ++ (gs_W cI cZ h1 q F B ++ (gs_W cI cZ h2 q2 F2 B2))) 0 0 (fun (r : Int32) (u : gw_U) => r = nI (gm_lw M v vo) ∧ gc_rep u.1.1 u.1.2 M) (fun u => (gw_X cI cZ g h1 h2 q q2 u)) := by
  refine gk_I_of (ty := .int) (cc := cX1_lateWith) (nL := 3) (by decide +kernel) rfl (Nat.le_of_ble_eq_true rfl) ?_
  intro p e s m below meth c A Q hnm hE G RET
  obtain ⟨hz1, hz2, hz3, hz4, hz5, hz6, hz7, hz8⟩ := id wf
  have hinX0 : ∀ w ∈ wsX00, w ∈ wsX1_lateWith := fun w h9 => (List.mem_cons_of_mem _ (List.mem_append_left _ (List.mem_append_right _ h9)))
  have hinX1 : ∀ w ∈ wsX10, w ∈ wsX1_lateWith := fun w h9 => (List.mem_cons_of_mem _ (List.mem_append_left _ (List.mem_append_left _ (List.mem_append_right _ h9))))
  have k10 := G.2.2.2.2.1 (.fieldLink RX1 10 "GustMill" "now" "LGustMill$State;") (List.mem_cons_of_mem _ (List.mem_append_left _ (List.mem_append_left _ (List.mem_append_left _ (List.mem_append_left _ (List.mem_of_getElem? (i := 1) rfl))))))
  have k16 := G.2.2.2.2.1 (.fieldLink RX1 16 "GustMill" "trial" "LGustMill$State;") (List.mem_cons_of_mem _ (List.mem_append_left _ (List.mem_append_left _ (List.mem_append_left _ (List.mem_append_left _ (List.mem_of_getElem? (i := 0) rfl))))))
  have kN54 := gn_54 (args := ([.ref g, .int (nI v), .int (nI vo)] : List Value).toArray) hE
  have kN57 := gn_57 (args := ([.ref g, .int (nI v), .int (nI vo)] : List Value).toArray) hE
  have kN70 := gn_70 (args := ([.ref g, .int (nI v), .int (nI vo)] : List Value).toArray) hE
  have kN117 := gn_117 (args := ([.ref g, .int (nI v), .int (nI vo)] : List Value).toArray) hE
  refine gk_iload_n G dX1_lateWith_0 1 rfl ?_
  refine gk_callVS (wc := []) (wr := (gw_G g h1 h2 ++ (gs_W cI cZ h1 q F B ++ (gs_W cI cZ h2 q2 F2 B2)))) (isC := []) (isR := [0, 1, 2, 3, 4, 5, 6, 7, 8, 9, 10, 11, 12, 13, 14, 15, 16, 17, 18, 19, 20]) G (c1_requireRule_ok l D cI cZ cJ v (by omega) (by omega)) gX1_lateWith_X1_requireRule rfl 1 (by decide +kernel) rfl rfl ⟨(Nat.le_of_ble_eq_true rfl), (Nat.le_of_ble_eq_true rfl)⟩ rfl gk_ok0 trivial rfl (by decide) rfl (by decide) (by decide) rfl (Nat.le_of_ble_eq_true rfl) dX1_lateWith_1 ⟨(Nat.le_of_ble_eq_true rfl), (Nat.le_of_ble_eq_true rfl)⟩ (fun u1 hp1 => ?_)
  show gk_C p l e ({ frames := 4, cells := 0, slots := 0, locals := 93 } : Room) s m ([.ref g, .int (nI v), .int (nI vo)] : List Value).toArray below meth c 3 D A Q 0 0 (gw_G g h1 h2 ++ (gs_W cI cZ h1 q F B ++ (gs_W cI cZ h2 q2 F2 B2))) [(0, .ref g), (1, .int (nI v)), (2, .int (nI vo))] 4 []
  refine gk_aload_n G dX1_lateWith_4 0 rfl ?_
  refine gk_get (v' := .ref h2) G hinX1 (q0 := 0) rfl rfl 1 (by decide) k16 rfl rfl dX1_lateWith_5 ?_
  refine gk_aload_n G dX1_lateWith_8 0 rfl ?_
  refine gk_get (v' := .ref h1) G hinX1 (q0 := 0) rfl rfl 0 (by decide) k10 rfl rfl dX1_lateWith_9 ?_
  refine gk_callVV (wr := gw_G g h1 h2) G (c0_become l D cI cZ cJ h2 q2 F2 B2 M h1 q F B wf hr) gX1_lateWith_X0_become rfl 1 (by decide +kernel) rfl rfl ⟨(Nat.le_of_ble_eq_true rfl), (Nat.le_of_ble_eq_true rfl)⟩ rfl (q0 := 0) rfl (T := TX0) (N := 16) rfl gk_ok0 trivial [11, 12, 13, 14, 15, 16, 17, 18, 19, 20, 1, 2, 3, 4, 5, 6, 7, 8, 9, 10] rfl (by decide) [0] rfl (by decide) (by decide) rfl (Nat.le_of_ble_eq_true rfl) dX1_lateWith_12 ⟨(Nat.le_of_ble_eq_true rfl), (Nat.le_of_ble_eq_true rfl)⟩ (fun u12 hp12 => ?_)
  obtain ⟨F12, B12⟩ := u12
  have hr12 : gc_rep F12 B12 M := hp12
  refine gk_wsub (w' := (gw_G g h1 h2 ++ (gs_W cI cZ h1 q F B ++ (gs_W cI cZ h2 q2 F12 B12)))) [0, 11, 12, 13, 14, 15, 16, 17, 18, 19, 20, 1, 2, 3, 4, 5, 6, 7, 8, 9, 10] rfl (by decide) ?_
  show gk_C p l e ({ frames := 4, cells := 0, slots := 0, locals := 93 } : Room) s m ([.ref g, .int (nI v), .int (nI vo)] : List Value).toArray below meth c 3 D A Q 0 0 (gw_G g h1 h2 ++ (gs_W cI cZ h1 q F B ++ (gs_W cI cZ h2 q2 F12 B12))) [(0, .ref g), (1, .int (nI v)), (2, .int (nI vo))] 15 []
  refine gk_aload_n G dX1_lateWith_15 0 rfl ?_
  refine gk_get (v' := .ref h2) G hinX1 (q0 := 0) rfl rfl 1 (by decide) k16 rfl rfl dX1_lateWith_16 ?_
  refine gk_iload_n G dX1_lateWith_19 1 rfl ?_
  refine gk_topi (fun v20 ev20 => ?_)
  refine gk_putN (w' := (gw_G g h1 h2 ++ (gs_W cI cZ h1 q F B ++ (gs_W cI cZ h2 q2 (upd F12 14 v20) B12)))) G hinX0 tyX0_ok nmX0 (q0 := 11) rfl rfl 14 (by decide) kN54 rfl rfl rfl (Nat.le_of_ble_eq_true rfl) rfl dX1_lateWith_20 ?_
  generalize eF20 : upd F12 14 v20 = F20
  refine gk_aload_n G dX1_lateWith_23 0 rfl ?_
  refine gk_get (v' := .ref h2) G hinX1 (q0 := 0) rfl rfl 1 (by decide) k16 rfl rfl dX1_lateWith_24 ?_
  refine gk_iload_n G dX1_lateWith_27 2 rfl ?_
  refine gk_topi (fun v28 ev28 => ?_)
  refine gk_putN (w' := (gw_G g h1 h2 ++ (gs_W cI cZ h1 q F B ++ (gs_W cI cZ h2 q2 (upd F20 15 v28) B12)))) G hinX0 tyX0_ok nmX0 (q0 := 11) rfl rfl 15 (by decide) kN57 rfl (gk_nz (by rw [ev28]; exact gm_01 hvo)) (gk_fz (by rw [ev28]; exact gm_01 hvo)) (Nat.le_of_ble_eq_true rfl) rfl dX1_lateWith_28 ?_
  generalize eF28 : upd F20 15 v28 = F28
  have hrT : gc_rep F28 B12 (gm_ru M v vo) := by subst eF28; subst ev28; subst eF20; subst ev20; exact gc_rep_set15 (gc_rep_set14 hr12)
  have wfT := gm_ru_wf wf (show v ≤ 2 by omega) hvo
  have restT := gm_ru_rest (r := v) (o := vo) hrest
  have e9T : (gm_ru M v vo) 9 0 = M 9 0 := gm_ru_ne M v vo 0 (by decide) (by decide)
  have e11T : (gm_hrs (gm_ru M v vo) 200) 11 0 = M 11 0 := (gm_hrs_ne _ 0 (by decide) (by decide) (by decide) (by decide) (by decide) (by decide) (by decide) 200).trans (gm_ru_ne M v vo 0 (by decide) (by decide))
  have wfX := gm_hrs_wf wfT 200
  have restX := gm_hrs_rest wfT restT 200
  have e9X : (gm_hrs (gm_ru M v vo) 200) 9 0 = (gm_ru M v vo) 9 0 + 200 := gm_hrs_9 _ 200
  have hg9 := gm_gct_le (gm_hrs (gm_ru M v vo) 200) ((gm_hrs (gm_ru M v vo) 200) 11 0)
  have hl9 := gm_late_o (gm_hrs (gm_ru M v vo) 200) 200 ((gm_hrs (gm_ru M v vo) 200) 11 0)
  have hlt := gm_lw_lt (r := v) (o := vo) wf (by omega) hvo hh
  refine gk_aload_n G dX1_lateWith_31 0 rfl ?_
  refine gk_get (v' := .ref h2) G hinX1 (q0 := 0) rfl rfl 1 (by decide) k16 rfl rfl dX1_lateWith_32 ?_
  refine gk_sipush (v := nI 200) G dX1_lateWith_35 (by decide) ?_
  refine gk_callIV (wr := (gw_G g h1 h2 ++ (gs_W cI cZ h1 q F B))) G (c0_run l D cI cZ cJ h2 q2 F28 B12 (gm_ru M v vo) 200 wfT hrT restT (by omega)) gX1_lateWith_X0_run rfl 1 (by decide +kernel) rfl rfl ⟨(Nat.le_of_ble_eq_true rfl), (Nat.le_of_ble_eq_true rfl)⟩ rfl (q0 := 0) rfl (T := TX0) (N := 16) rfl gk_ok0 trivial [11, 12, 13, 14, 15, 16, 17, 18, 19, 20] rfl (by decide) [0, 1, 2, 3, 4, 5, 6, 7, 8, 9, 10] rfl (by decide) (by decide) rfl (Nat.le_of_ble_eq_true rfl) dX1_lateWith_38 ⟨(Nat.le_of_ble_eq_true rfl), (Nat.le_of_ble_eq_true rfl)⟩ (fun r38 u38 hp38 => ?_)
  obtain ⟨F38, B38⟩ := u38
  have hr38 : gc_rep F38 B38 (gm_hrs (gm_ru M v vo) 200) := hp38.2
  obtain rfl : r38 = nI ((gm_hrs (gm_ru M v vo) 200) 16 0 - (gm_ru M v vo) 16 0) := hp38.1
  show gk_C p l e ({ frames := 4, cells := 0, slots := 0, locals := 93 } : Room) s m ([.ref g, .int (nI v), .int (nI vo)] : List Value).toArray below meth c 3 D A Q 0 0 (gw_G g h1 h2 ++ (gs_W cI cZ h1 q F B ++ (gs_W cI cZ h2 q2 F38 B38))) [(0, .ref g), (1, .int (nI v)), (2, .int (nI vo))] 41 [.int (nI ((gm_hrs (gm_ru M v vo) 200) 16 0 - (gm_ru M v vo) 16 0))]
  refine gk_pop G dX1_lateWith_41 rfl ?_
  refine gk_aload_n G dX1_lateWith_42 0 rfl ?_
  refine gk_get (v' := .ref h2) G hinX1 (q0 := 0) rfl rfl 1 (by decide) k16 rfl rfl dX1_lateWith_43 ?_
  refine gk_callIV (wr := (gw_G g h1 h2 ++ (gs_W cI cZ h1 q F B))) G (c0_hoursLate l D cI cZ cJ h2 q2 F38 B38 (gm_hrs (gm_ru M v vo) 200) wfX hr38 restX (by omega)) gX1_lateWith_X0_hoursLate rfl 0 (by decide +kernel) rfl rfl ⟨(Nat.le_of_ble_eq_true rfl), (Nat.le_of_ble_eq_true rfl)⟩ rfl (q0 := 0) rfl (T := TX0) (N := 16) rfl gk_ok0 trivial [11, 12, 13, 14, 15, 16, 17, 18, 19, 20] rfl (by decide) [0, 1, 2, 3, 4, 5, 6, 7, 8, 9, 10] rfl (by decide) (by decide) rfl (Nat.le_of_ble_eq_true rfl) dX1_lateWith_46 ⟨(Nat.le_of_ble_eq_true rfl), (Nat.le_of_ble_eq_true rfl)⟩ (fun r46 u46 hp46 => ?_)
  rw [show r46 = nI (gm_late (gm_hrs (gm_ru M v vo) 200) 0 ((gm_hrs (gm_ru M v vo) 200) 11 0)) from hp46]
  show gk_C p l e ({ frames := 4, cells := 0, slots := 0, locals := 93 } : Room) s m ([.ref g, .int (nI v), .int (nI vo)] : List Value).toArray below meth c 3 D A Q 0 0 (gw_G g h1 h2 ++ (gs_W cI cZ h1 q F B ++ (gs_W cI cZ h2 q2 F38 B38))) [(0, .ref g), (1, .int (nI v)), (2, .int (nI vo))] 49 [.int (nI (gm_late (gm_hrs (gm_ru M v vo) 200) 0 ((gm_hrs (gm_ru M v vo) 200) 11 0)))]
  refine gk_sipush (v := nI 200) G dX1_lateWith_49 (by decide) ?_
  refine gk_aload_n G dX1_lateWith_52 0 rfl ?_
  refine gk_get (v' := .ref h2) G hinX1 (q0 := 0) rfl rfl 1 (by decide) k16 rfl rfl dX1_lateWith_53 ?_
  refine gk_getN (v' := .int (nI ((gm_hrs (gm_ru M v vo) 200) 11 0))) G hinX0 (q0 := 11) rfl rfl 11 (by decide) kN70 rfl (congrArg Value.int (hr38.1.2.2.1)) dX1_lateWith_56 ?_
  refine gk_aload_n G dX1_lateWith_59 0 rfl ?_
  refine gk_get (v' := .ref h2) G hinX1 (q0 := 0) rfl rfl 1 (by decide) k16 rfl rfl dX1_lateWith_60 ?_
  refine gk_getN (v' := .int (nI (gm_gct (gm_hrs (gm_ru M v vo) 200) ((gm_hrs (gm_ru M v vo) 200) 11 0)))) G hinX0 (q0 := 11) rfl rfl 12 (by decide) kN117 rfl (congrArg Value.int (hr38.1.2.2.2.1)) dX1_lateWith_63 ?_
  refine gk_isub (v := nI (((gm_hrs (gm_ru M v vo) 200) 11 0) - (gm_gct (gm_hrs (gm_ru M v vo) 200) ((gm_hrs (gm_ru M v vo) 200) 11 0)))) G dX1_lateWith_66 (pk_sub (by omega)) ?_
  refine gk_imul (v := nI (200 * (((gm_hrs (gm_ru M v vo) 200) 11 0) - (gm_gct (gm_hrs (gm_ru M v vo) 200) ((gm_hrs (gm_ru M v vo) 200) 11 0))))) G dX1_lateWith_67 (pk_mul 200 (((gm_hrs (gm_ru M v vo) 200) 11 0) - (gm_gct (gm_hrs (gm_ru M v vo) 200) ((gm_hrs (gm_ru M v vo) 200) 11 0)))) ?_
  refine gk_iadd (v := nI ((gm_late (gm_hrs (gm_ru M v vo) 200) 0 ((gm_hrs (gm_ru M v vo) 200) 11 0)) + (200 * (((gm_hrs (gm_ru M v vo) 200) 11 0) - (gm_gct (gm_hrs (gm_ru M v vo) 200) ((gm_hrs (gm_ru M v vo) 200) 11 0)))))) G dX1_lateWith_68 (nI_add (gm_late (gm_hrs (gm_ru M v vo) 200) 0 ((gm_hrs (gm_ru M v vo) 200) 11 0)) (200 * (((gm_hrs (gm_ru M v vo) 200) 11 0) - (gm_gct (gm_hrs (gm_ru M v vo) 200) ((gm_hrs (gm_ru M v vo) 200) 11 0))))) ?_
  exact RET _ _ _ _ _ _ ((F, B), (F38, B38)) dX1_lateWith_69 rfl ⟨(by unfold gm_lw; rw [← e11T, hl9]), hr⟩ rfl (Nat.le_of_ble_eq_true rfl) (Nat.le_of_ble_eq_true rfl)
