set_option maxRecDepth 100000 in
set_option maxHeartbeats 2000000 in
theorem c2_pass (l : Launch) (D : va_G) (cI cZ cJ : ClassId) (a : Nat) (q : Nat → Nat) (F W0 : Nat → Int32) (nm nk : Nat) (fS fK : Nat → Option Nat) (Sx Kx : Nat → Nat) (T V : Nat → Nat → Int32) (M : gm_M) (wf : gm_wf M) (hr : gp_rep F W0 T V M) (hm : M 10 0 = nm) (hk : M 11 0 = nk) (hfS : gp_rows fS Sx nm) (hfK : gp_rows fK Kx nk) (hh : M 9 0 < 2000000) : gk_V l yX2_pass wsX2_pass ({ frames := 1, cells := 2, slots := 20, locals := 25 } : Room) D (g_T cI cZ cJ) gk_E0 [.ref a] (gp_W cI cJ a q F W0 nm nk fS fK Sx Kx T V) 2 20 (fun (u : ((Nat → Int32) × (Nat → Nat → Int32) × (Nat → Nat → Int32))) => gp_rep u.1 W0 u.2.1 u.2.2 (gm_hour M)) (fun u => (gp_W cI cJ a q u.1 W0 nm nk fS fK Sx Kx u.2.1 u.2.2)) := by
  refine gk_V_of (cc := cX2_pass) (nL := 9) (by decide +kernel) rfl (Nat.le_of_ble_eq_true rfl) ?_
  intro p e s m below meth c A Q hnm hE G RET
  have hinX2 : ∀ w ∈ wsX20, w ∈ wsX2_pass := fun w h9 => (List.mem_cons_of_mem _ (List.mem_append_right _ h9))
  have k14 := G.2.2.2.2.1 (.fieldLink RX2 14 "GustMillLaw$Sim" "stones" "[[I") (List.mem_cons_of_mem _ (List.mem_append_left _ (List.mem_of_getElem? (i := 0) rfl)))
  refine gk_aload_n G dX2_pass_0 0 rfl ?_
  refine gp_callRV (wr := []) G (c2_order l D cI cZ cJ a q F W0 nm nk fS fK Sx Kx T V M wf hr hm hk hfS hfK hh) gX2_pass_X2_order rfl 0 (by decide +kernel) rfl rfl ⟨(Nat.le_of_ble_eq_true rfl), (Nat.le_of_ble_eq_true rfl)⟩ rfl (q0 := 0) rfl (T := TX2) (N := 8) rfl gk_ok0 trivial (List.Perm.refl _) rfl (Nat.le_of_ble_eq_true rfl) dX2_pass_1 ⟨(Nat.le_of_ble_eq_true rfl), (Nat.le_of_ble_eq_true rfl)⟩ (fun fo o ho => ?_)
  show gk_C p l e ({ frames := 1, cells := 2, slots := 20, locals := 25 } : Room) s m ([.ref a] : List Value).toArray below meth c 9 D A Q 1 16 (gw_R cI o (gp_un M nk) fo ++ (gp_W cI cJ a q F W0 nm nk fS fK Sx Kx T V)) [(0, .ref a)] 4 [.ref o]
  refine gk_astore_n (lv' := [(1, .ref o), (0, .ref a)]) G dX2_pass_4 rfl (by decide) rfl ?_
  refine gk_aload_n G dX2_pass_5 1 rfl ?_
  refine gk_get (v' := .ref (q 1)) G hinX2 (q0 := 1) rfl rfl 6 (by decide) k14 rfl rfl dX2_pass_6 ?_
  refine gk_astore_n (lv' := [(2, .ref (q 1)), (1, .ref o), (0, .ref a)]) G dX2_pass_9 rfl (by decide) rfl ?_
  refine gk_aload_n G dX2_pass_10 0 rfl ?_
  refine gk_alen (v := nI nm) G (q0 := 3) (t0 := 2) rfl rfl rfl dX2_pass_11 ?_
  refine gk_istore_n (lv' := [(3, .int (nI nm)), (2, .ref (q 1)), (1, .ref o), (0, .ref a)]) G dX2_pass_12 rfl (by decide) rfl ?_
  refine gk_iconst (v := nI 0) G dX2_pass_13 (by decide) ?_
  refine gk_istore (lv' := [(4, .int (nI 0)), (3, .int (nI nm)), (2, .ref (q 1)), (1, .ref o), (0, .ref a)]) G dX2_pass_14 (by decide) rfl ?_
  refine gk_lsub (lv' := [(0, .ref a), (1, .ref o), (2, .ref (q 1)), (3, .int (nI nm)), (4, .int (nI 0))]) [4,3,2,1,0] rfl ?_
  refine sp_1 G o fo hr ho wf hm hk hfS hfK hh (fun T1 r1 => ?_)
  refine sp_2 G o fo r1 ho wf hm hk hfS hfK hh (fun ls fl F1 T2 r2 f2 => ?_)
  refine sp_3 G o ls fo fl r2 f2 wf hm hk hfS hfK hh (fun F2 V1 r3 => ?_)
  refine sp_4 G o ls fo fl r3 wf hm hk hfS hfK hh (fun T3 V3 r4 => ?_)
  exact RET _ _ _ _ _ (F2, T3, V3) dX2_pass_426 r4 rfl (Nat.le_of_ble_eq_true rfl) (Nat.le_of_ble_eq_true rfl)
set_option maxRecDepth 100000 in
set_option maxHeartbeats 2000000 in
theorem c2_behind (l : Launch) (D : va_G) (cI cZ cJ : ClassId) (a : Nat) (q : Nat → Nat) (F W0 : Nat → Int32) (nm nk : Nat) (fS fK : Nat → Option Nat) (Sx Kx : Nat → Nat) (T V : Nat → Nat → Int32) (M : gm_M) (v : Nat) (wf : gm_wf M) (hr : gp_rep F W0 T V M) (hm : M 10 0 = nm) (hk : M 11 0 = nk) (hfS : gp_rows fS Sx nm) (hfK : gp_rows fK Kx nk) (hh : M 9 0 < 1999000) (hv : v < 61) : gk_I l yX2_behind wsX2_behind ({ frames := 2, cells := 120, slots := 1200, locals := 53 } : Room) D (g_T cI cZ cJ) gk_E0 [.ref a, .int (nI v)] (gp_W cI cJ a q F W0 nm nk fS fK Sx Kx T V) 120 1200 (fun (r : Int32) (u : ((Nat → Int32) × (Nat → Nat → Int32) × (Nat → Nat → Int32))) => r = nI (gm_hrs M v 16 0 - M 16 0) ∧ gp_rep u.1 W0 u.2.1 u.2.2 (gm_hrs M v)) (fun u => (gp_W cI cJ a q u.1 W0 nm nk fS fK Sx Kx u.2.1 u.2.2)) := by
  refine gk_I_of (ty := .int) (cc := cX2_behind) (nL := 4) (by decide +kernel) rfl (Nat.le_of_ble_eq_true rfl) ?_
  intro p e s m below meth c A Q hnm hE G RET
  have hinX2 : ∀ w ∈ wsX20, w ∈ wsX2_behind := fun w h9 => (List.mem_cons_of_mem _ (List.mem_append_right _ h9))
  have k43 := G.2.2.2.2.1 (.fieldLink RX2 43 "GustMillLaw$Sim" "milled" "I") (List.mem_cons_of_mem _ (List.mem_append_left _ (List.mem_of_getElem? (i := 0) rfl)))
  have L7 : ∀ (n : Nat) (k : Nat) (F1 : Nat → Int32) (T1 V1 : Nat → Nat → Int32), v - k < n → (k ≤ v) → (gp_rep F1 W0 T1 V1 (gm_hrs M k)) → gk_C p l e ({ frames := 2, cells := 120, slots := 1200, locals := 53 } : Room) s m ([.ref a, .int (nI v)] : List Value).toArray below meth c 4 D A Q (2 * k) (20 * k) (gp_W cI cJ a q F1 W0 nm nk fS fK Sx Kx T1 V1) [(0, .ref a), (1, .int (nI v)), (2, .int (nI (M 16 0))), (3, .int (nI k))] 7 [] := by
    intro n
    induction n with
    | zero => intro k F1 T1 V1 h0; exact absurd h0 (Nat.not_lt_zero _)
    | succ n ih =>
      intro k F1 T1 V1 h0 w0 w1
      refine gk_iload_n G dX2_behind_7 3 rfl ?_
      refine gk_iload_n G dX2_behind_8 1 rfl ?_
      refine gk_icmp_ge (tgt := 22) G dX2_behind_9 (by decide) (fun c_9 => ?_) (fun c_9 => ?_)
      · replace c_9 := (nI_leI (a := v) (b := k) (by omega) (by omega)).mp c_9
        refine gk_aload_n G dX2_behind_22 0 rfl ?_
        refine gk_get (v' := .int (nI ((gm_hrs M k) 16 0))) G hinX2 (q0 := 0) rfl rfl 4 (by decide) k43 rfl (congrArg Value.int (w1.1.2.2.2.2)) dX2_behind_23 ?_
        refine gk_iload_n G dX2_behind_26 2 rfl ?_
        refine gk_isub (v := nI (gm_hrs M k 16 0 - M 16 0)) G dX2_behind_27 (pk_sub (gm_hrs_16 M k)) ?_
        exact RET _ _ _ _ _ _ (F1, T1, V1) dX2_behind_28 rfl (by rw [show v = k by omega]; exact ⟨rfl, w1⟩) rfl (by omega) (by omega)
      · replace c_9 := (not_congr (nI_leI (a := v) (b := k) (by omega) (by omega))).mp c_9
        refine gk_aload_n G dX2_behind_12 0 rfl ?_
        have x10 : gm_hrs M k 10 0 = nm := (gm_hrs_ne _ 0 (by decide) (by decide) (by decide) (by decide) (by decide) (by decide) (by decide) k).trans hm
        have x11 : gm_hrs M k 11 0 = nk := (gm_hrs_ne _ 0 (by decide) (by decide) (by decide) (by decide) (by decide) (by decide) (by decide) k).trans hk
        have x9 := gm_hrs_9 M k
        refine gp_callVV (wr := []) G (c2_pass l D cI cZ cJ a q F1 W0 nm nk fS fK Sx Kx T1 V1 (gm_hrs M k) (gm_hrs_wf wf k) w1 x10 x11 hfS hfK (by omega)) gX2_behind_X2_pass rfl 0 (by decide +kernel) rfl rfl ⟨(Nat.le_of_ble_eq_true rfl), (Nat.le_of_ble_eq_true rfl)⟩ rfl (q0 := 0) rfl (T := TX2) (N := 8) rfl gk_ok0 trivial (List.Perm.refl _) rfl (Nat.le_of_ble_eq_true rfl) dX2_behind_13 ⟨by show 2 * k + 2 ≤ 120; omega, by show 20 * k + 20 ≤ 1200; omega⟩ (fun u13 hp13 => ?_)
        obtain ⟨F13, T13, V13⟩ := u13
        have r13 : gp_rep F13 W0 T13 V13 (gm_hrs M (k + 1)) := hp13
        show gk_C p l e ({ frames := 2, cells := 120, slots := 1200, locals := 53 } : Room) s m ([.ref a, .int (nI v)] : List Value).toArray below meth c 4 D A Q (2 * k + 2) (20 * k + 20) (gp_W cI cJ a q F13 W0 nm nk fS fK Sx Kx T13 V13) [(0, .ref a), (1, .int (nI v)), (2, .int (nI (M 16 0))), (3, .int (nI k))] 16 []
        refine gk_iinc (j := 3) (v := nI (k + 1)) (lv' := [(3, .int (nI (k + 1))), (0, .ref a), (1, .int (nI v)), (2, .int (nI (M 16 0)))]) G dX2_behind_16 rfl (nI_add k 1) (by decide) rfl ?_
        refine gk_goto (tgt := 7) G dX2_behind_19 (by decide) ?_
        exact gk_lsub [1,2,3,0] rfl (ih (k + 1) _ _ _ (by omega) (by omega) r13)
  refine gk_aload_n G dX2_behind_0 0 rfl ?_
  refine gk_get (v' := .int (nI (M 16 0))) G hinX2 (q0 := 0) rfl rfl 4 (by decide) k43 rfl (congrArg Value.int (hr.1.2.2.2.2)) dX2_behind_1 ?_
  refine gk_istore_n (lv' := [(2, .int (nI (M 16 0))), (0, .ref a), (1, .int (nI v))]) G dX2_behind_4 rfl (by decide) rfl ?_
  refine gk_iconst (v := nI 0) G dX2_behind_5 (by decide) ?_
  refine gk_istore_n (lv' := [(3, .int (nI 0)), (2, .int (nI (M 16 0))), (0, .ref a), (1, .int (nI v))]) G dX2_behind_6 rfl (by decide) rfl ?_
  exact gk_lsub [2,3,1,0] rfl (L7 (v + 1) 0 F T V (by omega) (Nat.zero_le _) hr)
set_option maxRecDepth 100000 in
set_option maxHeartbeats 2000000 in
theorem c2_late (l : Launch) (D : va_G) (cI cZ cJ : ClassId) (a : Nat) (q : Nat → Nat) (F W0 : Nat → Int32) (nm nk : Nat) (fS fK : Nat → Option Nat) (Sx Kx : Nat → Nat) (T V : Nat → Nat → Int32) (M : gm_M) (wf : gm_wf M) (hr : gp_rep F W0 T V M) (hm : M 10 0 = nm) (hk : M 11 0 = nk) (hfS : gp_rows fS Sx nm) (hfK : gp_rows fK Kx nk) (hh : M 9 0 < 2000000) : gk_I l yX2_late wsX2_late ({ frames := 0, cells := 0, slots := 0, locals := 0 } : Room) D (g_T cI cZ cJ) gk_E0 [.ref a, .int (nI 0)] (gp_W cI cJ a q F W0 nm nk fS fK Sx Kx T V) 0 0 (fun (r : Int32) (u : Unit) => r = nI (gm_late M 0 nk)) (fun u => (gp_W cI cJ a q F W0 nm nk fS fK Sx Kx T V)) := by
  refine gk_I_of (ty := .int) (cc := cX2_late) (nL := 7) (by decide +kernel) rfl (Nat.le_of_ble_eq_true rfl) ?_
  intro p e s m below meth c A Q hnm hE G RET
  obtain ⟨hz1, hz2, hz3, hz4, hz5, hz6, hz7, hz8⟩ := id wf
  have hinX2 : ∀ w ∈ wsX20, w ∈ wsX2_late := fun w h9 => (List.mem_cons_of_mem _ (List.mem_append_right _ h9))
  have k18 := G.2.2.2.2.1 (.fieldLink RX2 18 "GustMillLaw$Sim" "sacks" "[[I") (List.mem_cons_of_mem _ (List.mem_append_left _ (List.mem_of_getElem? (i := 0) rfl)))
  have L14 : ∀ (n : Nat) (k : Nat), nk - k < n → (k ≤ nk) → gk_C p l e ({ frames := 0, cells := 0, slots := 0, locals := 0 } : Room) s m ([.ref a, .int (nI 0)] : List Value).toArray below meth c 7 D A Q 0 0 (gp_W cI cJ a q F W0 nm nk fS fK Sx Kx T V) [(0, .ref a), (1, .int (nI 0)), (2, .int (nI (gm_late M 0 k))), (3, .ref (q 2)), (4, .int (nI nk)), (5, .int (nI k))] 14 [] := by
    intro n
    induction n with
    | zero => intro k h0; exact absurd h0 (Nat.not_lt_zero _)
    | succ n ih =>
      intro k h0 w0
      refine gk_iload G dX2_late_14 5 rfl ?_
      refine gk_iload G dX2_late_16 4 rfl ?_
      refine gk_icmp_ge (tgt := 71) G dX2_late_18 (by decide) (fun c_18 => ?_) (fun c_18 => ?_)
      · replace c_18 := (nI_leI (a := nk) (b := k) (by omega) (by omega)).mp c_18
        refine gk_iload_n G dX2_late_71 2 rfl ?_
        exact RET _ _ _ _ _ _ () dX2_late_72 rfl (by rw [show nk = k by omega]) rfl (Nat.le_of_ble_eq_true rfl) (Nat.le_of_ble_eq_true rfl)
      · replace c_18 := (not_congr (nI_leI (a := nk) (b := k) (by omega) (by omega))).mp c_18
        have h8b := (hz7 k (by omega)).2.2.2.2.2.2
        have h6b := (hz7 k (by omega)).2.2.2.1
        refine gk_aload_n G dX2_late_21 3 rfl ?_
        refine gk_iload G dX2_late_22 5 rfl ?_
        refine gk_aald (v := Kx k) G (q0 := 3) (t0 := 2) rfl rfl k rfl (by omega) (by omega) (hfK k (by omega)) dX2_late_24 ?_
        refine gk_astore (lv' := [(6, .ref (Kx k)), (0, .ref a), (1, .int (nI 0)), (2, .int (nI (gm_late M 0 k))), (3, .ref (q 2)), (4, .int (nI nk)), (5, .int (nI k))]) G dX2_late_25 (by decide) rfl ?_
        refine gk_iload_n G dX2_late_27 3 rfl ?_
        refine gk_aload G dX2_late_28 0 rfl ?_
        refine gk_iconst (v := nI 3) G dX2_late_30 (by decide) ?_
        refine gk_iald (v := gm_e (M 8 k)) G (q0 := (nm + k + 4)) (t0 := 0) (gp_atK (by omega)) rfl 3 rfl (by decide) (by decide) (hr.2.2.2.2.2.2.2 k (by omega)) dX2_late_31 ?_
        refine gk_if_ge (tgt := 39) G dX2_late_32 (by decide) (fun c_32 => ?_) (fun c_32 => ?_)
        · replace c_32 := (gp_e_ge (n := M 8 k) (by omega)).mp c_32
          refine gk_aload G dX2_late_39 0 rfl ?_
          refine gk_iconst (v := nI 3) G dX2_late_41 (by decide) ?_
          refine gk_iald (v := nI (M 8 k - 1)) G (q0 := (nm + k + 4)) (t0 := 0) (gp_atK (by omega)) rfl 3 rfl (by decide) (by decide) ((hr.2.2.2.2.2.2.2 k (by omega)).trans (gm_e_pred c_32)) dX2_late_42 ?_
          refine gk_aload G dX2_late_43 0 rfl ?_
          refine gk_iconst (v := nI 2) G dX2_late_45 (by decide) ?_
          refine gk_iald (v := nI (M 6 k)) G (q0 := (nm + k + 4)) (t0 := 0) (gp_atK (by omega)) rfl 2 rfl (by decide) (by decide) (hr.2.2.2.2.2.2.1 k (by omega)) dX2_late_46 ?_
          refine gk_icmp_le (tgt := 62) G dX2_late_47 (by decide) (fun c_47 => ?_) (fun c_47 => ?_)
          · replace c_47 := (nI_leI (a := M 8 k - 1) (b := M 6 k) (by omega) (by omega)).mp c_47
            refine gk_iconst (v := nI 0) G dX2_late_62 (by decide) ?_
            refine gk_iadd (v := nI ((gm_late M 0 k) + 0)) G dX2_late_63 (nI_add (gm_late M 0 k) 0) ?_
            refine gk_istore_n (lv' := [(2, .int (nI ((gm_late M 0 k) + 0))), (6, .ref (Kx k)), (0, .ref a), (1, .int (nI 0)), (3, .ref (q 2)), (4, .int (nI nk)), (5, .int (nI k))]) G dX2_late_64 rfl (by decide) rfl ?_
            refine gk_iinc (j := 6) (v := nI (k + 1)) (lv' := [(5, .int (nI (k + 1))), (2, .int (nI ((gm_late M 0 k) + 0))), (6, .ref (Kx k)), (0, .ref a), (1, .int (nI 0)), (3, .ref (q 2)), (4, .int (nI nk))]) G dX2_late_65 rfl (nI_add k 1) (by decide) rfl ?_
            refine gk_goto (tgt := 14) G dX2_late_68 (by decide) ?_
            have e9 : gm_late M 0 (k + 1) = (gm_late M 0 k) + 0 := by
              show gm_late M 0 k + (if M 8 k = 0 then 0 else M 8 k - 1 - M 6 k) = _
              split <;> omega
            have t9 := ih (k + 1) (by omega) (by omega)
            rw [e9] at t9
            exact gk_lsub [3,4,1,5,6,0] rfl t9
          · replace c_47 := (not_congr (nI_leI (a := M 8 k - 1) (b := M 6 k) (by omega) (by omega))).mp c_47
            refine gk_aload G dX2_late_50 0 rfl ?_
            refine gk_iconst (v := nI 3) G dX2_late_52 (by decide) ?_
            refine gk_iald (v := nI (M 8 k - 1)) G (q0 := (nm + k + 4)) (t0 := 0) (gp_atK (by omega)) rfl 3 rfl (by decide) (by decide) ((hr.2.2.2.2.2.2.2 k (by omega)).trans (gm_e_pred c_32)) dX2_late_53 ?_
            refine gk_aload G dX2_late_54 0 rfl ?_
            refine gk_iconst (v := nI 2) G dX2_late_56 (by decide) ?_
            refine gk_iald (v := nI (M 6 k)) G (q0 := (nm + k + 4)) (t0 := 0) (gp_atK (by omega)) rfl 2 rfl (by decide) (by decide) (hr.2.2.2.2.2.2.1 k (by omega)) dX2_late_57 ?_
            refine gk_isub (v := nI ((M 8 k - 1) - (M 6 k))) G dX2_late_58 (pk_sub (by omega)) ?_
            refine gk_goto (tgt := 63) G dX2_late_59 (by decide) ?_
            refine gk_iadd (v := nI ((gm_late M 0 k) + ((M 8 k - 1) - (M 6 k)))) G dX2_late_63 (nI_add (gm_late M 0 k) ((M 8 k - 1) - (M 6 k))) ?_
            refine gk_istore_n (lv' := [(2, .int (nI ((gm_late M 0 k) + ((M 8 k - 1) - (M 6 k))))), (6, .ref (Kx k)), (0, .ref a), (1, .int (nI 0)), (3, .ref (q 2)), (4, .int (nI nk)), (5, .int (nI k))]) G dX2_late_64 rfl (by decide) rfl ?_
            refine gk_iinc (j := 6) (v := nI (k + 1)) (lv' := [(5, .int (nI (k + 1))), (2, .int (nI ((gm_late M 0 k) + ((M 8 k - 1) - (M 6 k))))), (6, .ref (Kx k)), (0, .ref a), (1, .int (nI 0)), (3, .ref (q 2)), (4, .int (nI nk))]) G dX2_late_65 rfl (nI_add k 1) (by decide) rfl ?_
            refine gk_goto (tgt := 14) G dX2_late_68 (by decide) ?_
            have e9 : gm_late M 0 (k + 1) = (gm_late M 0 k) + ((M 8 k - 1) - (M 6 k)) := by
              show gm_late M 0 k + (if M 8 k = 0 then 0 else M 8 k - 1 - M 6 k) = _
              split <;> omega
            have t9 := ih (k + 1) (by omega) (by omega)
            rw [e9] at t9
            exact gk_lsub [3,4,1,5,6,0] rfl t9
        · replace c_32 := (not_congr (gp_e_ge (n := M 8 k) (by omega))).mp c_32
          refine gk_iload_n G dX2_late_35 2 rfl ?_
          refine gk_goto (tgt := 63) G dX2_late_36 (by decide) ?_
          refine gk_iadd (v := nI ((gm_late M 0 k) + 0)) G dX2_late_63 (nI_add (gm_late M 0 k) 0) ?_
          refine gk_istore_n (lv' := [(2, .int (nI ((gm_late M 0 k) + 0))), (6, .ref (Kx k)), (0, .ref a), (1, .int (nI 0)), (3, .ref (q 2)), (4, .int (nI nk)), (5, .int (nI k))]) G dX2_late_64 rfl (by decide) rfl ?_
          refine gk_iinc (j := 6) (v := nI (k + 1)) (lv' := [(5, .int (nI (k + 1))), (2, .int (nI ((gm_late M 0 k) + 0))), (6, .ref (Kx k)), (0, .ref a), (1, .int (nI 0)), (3, .ref (q 2)), (4, .int (nI nk))]) G dX2_late_65 rfl (nI_add k 1) (by decide) rfl ?_
          refine gk_goto (tgt := 14) G dX2_late_68 (by decide) ?_
          have e9 : gm_late M 0 (k + 1) = (gm_late M 0 k) + 0 := by
            show gm_late M 0 k + (if M 8 k = 0 then 0 else M 8 k - 1 - M 6 k) = _
            split <;> omega
          have t9 := ih (k + 1) (by omega) (by omega)
          rw [e9] at t9
          exact gk_lsub [3,4,1,5,6,0] rfl t9
  refine gk_iconst (v := nI 0) G dX2_late_0 (by decide) ?_
  refine gk_istore_n (lv' := [(2, .int (nI 0)), (0, .ref a), (1, .int (nI 0))]) G dX2_late_1 rfl (by decide) rfl ?_
  refine gk_aload_n G dX2_late_2 1 rfl ?_
  refine gk_get (v' := .ref (q 2)) G hinX2 (q0 := 0) rfl rfl 7 (by decide) k18 rfl rfl dX2_late_3 ?_
  refine gk_astore_n (lv' := [(3, .ref (q 2)), (2, .int (nI 0)), (0, .ref a), (1, .int (nI 0))]) G dX2_late_6 rfl (by decide) rfl ?_
  refine gk_aload_n G dX2_late_7 0 rfl ?_
  refine gk_alen (v := nI nk) G (q0 := 3) (t0 := 2) rfl rfl rfl dX2_late_8 ?_
  refine gk_istore (lv' := [(4, .int (nI nk)), (3, .ref (q 2)), (2, .int (nI 0)), (0, .ref a), (1, .int (nI 0))]) G dX2_late_9 (by decide) rfl ?_
  refine gk_iconst (v := nI 0) G dX2_late_11 (by decide) ?_
  refine gk_istore (lv' := [(5, .int (nI 0)), (4, .int (nI nk)), (3, .ref (q 2)), (2, .int (nI 0)), (0, .ref a), (1, .int (nI 0))]) G dX2_late_12 (by decide) rfl ?_
  exact gk_lsub [4,5,3,2,1,0] rfl (L14 (nk + 1) 0 (by omega) (Nat.zero_le _))
def gw_J (cJ : ClassId) (a n : Nat) (f : Nat → Option Nat) : va_W := [(a, .inl (cJ, n, .inr (.inr (.inr (.inr f)))))]
def gp_snoc (S : Nat → Nat) (n x : Nat) : Nat → Nat := fun i => if i < n then S i else x
theorem gp_snoc_lt {S : Nat → Nat} {n x i : Nat} (h : i < n) : gp_snoc S n x i = S i := if_pos h
theorem gp_snoc_at (S : Nat → Nat) (n x : Nat) : gp_snoc S n x n = x := if_neg (Nat.lt_irrefl n)
set_option maxRecDepth 100000 in
set_option maxHeartbeats 2000000 in
theorem c2_with (l : Launch) (D : va_G) (cI cZ cJ : ClassId) (r0 r1 n0 z : Nat) (fS : Nat → Option Nat) (f1 : Nat → Int32) (Sx : Nat → Nat) (T : Nat → Nat → Int32) (hfS : gp_rows fS Sx n0) (hn : n0 ≤ 16) : gk_R l yX2_with wsX2_with ({ frames := 0, cells := 1, slots := 17, locals := 0 } : Room) D (g_T cI cZ cJ) gp_AO [.ref r0, .ref r1] (gw_J cJ r0 n0 fS ++ (gw_R cI r1 z f1 ++ (gp_r cI z Sx T n0))) 1 17 (fun (u : (Nat → Option Nat)) => gp_rows u (gp_snoc Sx n0 r1) (n0 + 1)) (fun u ra => (gw_J cJ ra (n0 + 1) u ++ (gw_J cJ r0 n0 fS ++ (gw_R cI r1 z f1 ++ (gp_r cI z Sx T n0))))) := by
  refine gk_R_of (rt := (.array (.array .int))) (cc := cX2_with) (nL := 4) (Or.inr ⟨_, rfl⟩) (by decide +kernel) rfl (Nat.le_of_ble_eq_true rfl) ?_
  intro p e s m below meth c A Q hnm hE G RET
  refine gk_aload_n G dX2_with_0 0 rfl ?_
  refine gk_alen (v := nI n0) G (q0 := 0) (t0 := 2) rfl rfl rfl dX2_with_1 ?_
  refine gk_iconst (v := nI 1) G dX2_with_2 (by decide) ?_
  refine gk_iadd (v := nI (n0 + 1)) G dX2_with_3 (nI_add n0 1) ?_
  refine gk_anew (cJ := cJ) (t0 := 2) (N := n0 + 1) G hE (G.2.2.2.2.1 (.classLink RX2 13 "[I") (List.mem_cons_of_mem _ (List.mem_of_getElem? (i := 0) rfl))) rfl rfl (by omega) (Nat.le_of_ble_eq_true rfl) (by show 0 + (n0 + 1) ≤ 17; omega) dX2_with_4 (fun r2 => ?_)
  refine gk_widen (k := 1) (n := 17) (Nat.le_of_ble_eq_true rfl) (by omega) ?_
  show gk_C p l e ({ frames := 0, cells := 1, slots := 17, locals := 0 } : Room) s m ([.ref r0, .ref r1] : List Value).toArray below meth c 4 D A Q 1 17 (gw_J cJ r2 (n0 + 1) (fun _ => none) ++ (gw_J cJ r0 n0 fS ++ (gw_R cI r1 z f1 ++ (gp_r cI z Sx T n0)))) [(0, .ref r0), (1, .ref r1)] 7 [.ref r2]
  refine gk_astore_n (lv' := [(2, .ref r2), (0, .ref r0), (1, .ref r1)]) G dX2_with_7 rfl (by decide) rfl ?_
  have L10 : ∀ (n : Nat) (k : Nat) (f2 : Nat → Option Nat), n0 - k < n → (k ≤ n0) → (∀ i, i < k → f2 i = some (Sx i)) → gk_C p l e ({ frames := 0, cells := 1, slots := 17, locals := 0 } : Room) s m ([.ref r0, .ref r1] : List Value).toArray below meth c 4 D A Q 1 17 (gw_J cJ r2 (n0 + 1) f2 ++ (gw_J cJ r0 n0 fS ++ (gw_R cI r1 z f1 ++ (gp_r cI z Sx T n0)))) [(0, .ref r0), (1, .ref r1), (2, .ref r2), (3, .int (nI k))] 10 [] := by
    intro n
    induction n with
    | zero => intro k f2 h0; exact absurd h0 (Nat.not_lt_zero _)
    | succ n ih =>
      intro k f2 h0 w0 w1
      refine gk_iload_n G dX2_with_10 3 rfl ?_
      refine gk_aload_n G dX2_with_11 0 rfl ?_
      refine gk_alen (v := nI n0) G (q0 := 1) (t0 := 2) rfl rfl rfl dX2_with_12 ?_
      refine gk_icmp_ge (tgt := 28) G dX2_with_13 (by decide) (fun c_13 => ?_) (fun c_13 => ?_)
      · replace c_13 := (nI_leI (a := n0) (b := k) (by omega) (by omega)).mp c_13
        refine gk_aload_n G dX2_with_28 2 rfl ?_
        refine gk_aload_n G dX2_with_29 0 rfl ?_
        refine gk_alen (v := nI n0) G (q0 := 1) (t0 := 2) rfl rfl rfl dX2_with_30 ?_
        refine gk_aload_n G dX2_with_31 1 rfl ?_
        refine gk_aast (w' := (gw_J cJ r2 (n0 + 1) (va_up f2 n0 (some r1)) ++ (gw_J cJ r0 n0 fS ++ (gw_R cI r1 z f1 ++ (gp_r cI z Sx T n0))))) (t0 := 2) (t1 := 0) (q0 := 0) (qk := 2) G hE rfl rfl rfl rfl n0 rfl (by omega) (by omega) rfl dX2_with_32 ?_
        refine gk_aload_n G dX2_with_33 2 rfl ?_
        exact RET _ _ _ _ _ _ _ [] dX2_with_34 (fun i hi => by
          by_cases h9 : i = n0
          · rw [h9, gp_snoc_at]; exact if_pos rfl
          · rw [gp_snoc_lt (show i < n0 by omega), show va_up f2 n0 (some r1) i = f2 i from if_neg h9]; exact w1 i (by omega)) (gk_pnil _) (Nat.le_of_ble_eq_true rfl) (Nat.le_of_ble_eq_true rfl)
      · replace c_13 := (not_congr (nI_leI (a := n0) (b := k) (by omega) (by omega))).mp c_13
        refine gk_aload_n G dX2_with_16 2 rfl ?_
        refine gk_iload_n G dX2_with_17 3 rfl ?_
        refine gk_aload_n G dX2_with_18 0 rfl ?_
        refine gk_iload_n G dX2_with_19 3 rfl ?_
        refine gk_aald (v := Sx k) G (q0 := 1) (t0 := 2) rfl rfl k rfl (by omega) (by omega) (hfS k (by omega)) dX2_with_20 ?_
        refine gk_aast (w' := (gw_J cJ r2 (n0 + 1) (va_up f2 k (some (Sx k))) ++ (gw_J cJ r0 n0 fS ++ (gw_R cI r1 z f1 ++ (gp_r cI z Sx T n0))))) (t0 := 2) (t1 := 0) (q0 := 0) (qk := k + 1 + 1 + 1) G hE rfl rfl (gp_s1 (gp_s1 (gp_s1 (gp_r_at (by omega))))) rfl k rfl (by omega) (by omega) rfl dX2_with_21 ?_
        refine gk_iinc (j := 3) (v := nI (k + 1)) (lv' := [(3, .int (nI (k + 1))), (0, .ref r0), (1, .ref r1), (2, .ref r2)]) G dX2_with_22 rfl (nI_add k 1) (by decide) rfl ?_
        refine gk_goto (tgt := 10) G dX2_with_25 (by decide) ?_
        exact gk_lsub [1,2,3,0] rfl (ih (k + 1) _ (by omega) (by omega) (fun i hi => by
          by_cases h9 : i = k
          · rw [h9]; exact if_pos rfl
          · rw [show va_up f2 k (some (Sx k)) i = f2 i from if_neg h9]; exact w1 i (by omega)))
  refine gk_iconst (v := nI 0) G dX2_with_8 (by decide) ?_
  refine gk_istore_n (lv' := [(3, .int (nI 0)), (2, .ref r2), (0, .ref r0), (1, .ref r1)]) G dX2_with_9 rfl (by decide) rfl ?_
  exact gk_lsub [2,3,1,0] rfl (L10 (n0 + 1) 0 _ (by omega) (Nat.zero_le _) (fun i h9 => absurd h9 (Nat.not_lt_zero _)))
