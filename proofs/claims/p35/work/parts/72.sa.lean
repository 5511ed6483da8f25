set_option maxRecDepth 100000 in
set_option maxHeartbeats 2000000 in
theorem c2_stoneOf (l : Launch) (D : va_G) (cI cZ cJ : ClassId) (a : Nat) (q : Nat → Nat) (F W0 : Nat → Int32) (nm nk : Nat) (fS fK : Nat → Option Nat) (Sx Kx : Nat → Nat) (T V : Nat → Nat → Int32) (M : gm_M) (v : Nat) (wf : gm_wf M) (hr : gp_rep F W0 T V M) (hm : M 10 0 = nm) (hk : M 11 0 = nk) (hfS : gp_rows fS Sx nm) (hfK : gp_rows fK Kx nk) (hv : v < nk) : gk_I l yX2_stoneOf wsX2_stoneOf ({ frames := 0, cells := 0, slots := 0, locals := 0 } : Room) D (g_T cI cZ cJ) gk_E0 [.ref a, .int (nI v)] (gp_W cI cJ a q F W0 nm nk fS fK Sx Kx T V) 0 0 (fun (r : Int32) (u : Unit) => r = gm_e (M 7 v)) (fun u => (gp_W cI cJ a q F W0 nm nk fS fK Sx Kx T V)) := by
  refine gk_I_of (ty := .int) (cc := cX2_stoneOf) (nL := 3) (by decide +kernel) rfl (Nat.le_of_ble_eq_true rfl) ?_
  intro p e s m below meth c A Q hnm hE G RET
  obtain ⟨hz1, hz2, hz3, hz4, hz5, hz6, hz7, hz8⟩ := id wf
  have hinX2 : ∀ w ∈ wsX20, w ∈ wsX2_stoneOf := fun w h9 => (List.mem_cons_of_mem _ (List.mem_append_right _ h9))
  have k14 := G.2.2.2.2.1 (.fieldLink RX2 14 "GustMillLaw$Sim" "stones" "[[I") (List.mem_cons_of_mem _ (List.mem_append_left _ (List.mem_of_getElem? (i := 0) rfl)))
  have L2 : ∀ (n : Nat) (k : Nat), nm - k < n → (k ≤ nm) → (∀ i, i < k → ∀ x, x = i + 1 → M 7 v ≠ x) → gk_C p l e ({ frames := 0, cells := 0, slots := 0, locals := 0 } : Room) s m ([.ref a, .int (nI v)] : List Value).toArray below meth c 3 D A Q 0 0 (gp_W cI cJ a q F W0 nm nk fS fK Sx Kx T V) [(0, .ref a), (1, .int (nI v)), (2, .int (nI k))] 2 [] := by
    intro n
    induction n with
    | zero => intro k h0; exact absurd h0 (Nat.not_lt_zero _)
    | succ n ih =>
      intro k h0 w0 w1
      refine gk_iload_n G dX2_stoneOf_2 2 rfl ?_
      refine gk_aload_n G dX2_stoneOf_3 0 rfl ?_
      refine gk_get (v' := .ref (q 1)) G hinX2 (q0 := 0) rfl rfl 6 (by decide) k14 rfl rfl dX2_stoneOf_4 ?_
      refine gk_alen (v := nI nm) G (q0 := 2) (t0 := 2) rfl rfl rfl dX2_stoneOf_7 ?_
      refine gk_icmp_ge (tgt := 31) G dX2_stoneOf_8 (by decide) (fun c_8 => ?_) (fun c_8 => ?_)
      · replace c_8 := (nI_leI (a := nm) (b := k) (by omega) (by omega)).mp c_8
        refine gk_iconst (v := -1) G dX2_stoneOf_31 (by decide) ?_
        exact RET _ _ _ _ _ _ () dX2_stoneOf_32 rfl (by rw [show M 7 v = 0 by have := (hz7 v (by omega)).2.2.2.2.1; by_cases h9 : M 7 v = 0; exact h9; exact absurd rfl (w1 (M 7 v - 1) (by omega) _ (by omega)), gm_e0]) rfl (Nat.le_of_ble_eq_true rfl) (Nat.le_of_ble_eq_true rfl)
      · replace c_8 := (not_congr (nI_leI (a := nm) (b := k) (by omega) (by omega))).mp c_8
        have hwl := gm_who_le M k (M 11 0)
        refine gk_aload_n G dX2_stoneOf_11 0 rfl ?_
        refine gk_get (v' := .ref (q 1)) G hinX2 (q0 := 0) rfl rfl 6 (by decide) k14 rfl rfl dX2_stoneOf_12 ?_
        refine gk_iload_n G dX2_stoneOf_15 2 rfl ?_
        refine gk_aald (v := Sx k) G (q0 := 2) (t0 := 2) rfl rfl k rfl (by omega) (by omega) (hfS k (by omega)) dX2_stoneOf_16 ?_
        refine gk_iconst (v := nI 1) G dX2_stoneOf_17 (by decide) ?_
        refine gk_iald (v := gm_e (gm_who M k (M 11 0))) G (q0 := (k + 4)) (t0 := 0) (gp_atS (by omega)) rfl 1 rfl (by decide) (by decide) (hr.2.2.2.1 k (by omega)) dX2_stoneOf_18 ?_
        refine gk_iload_n G dX2_stoneOf_19 1 rfl ?_
        refine gk_icmp_ne (tgt := 25) G dX2_stoneOf_20 (by decide) (fun c_20 => ?_) (fun c_20 => ?_)
        · have hne : M 7 v ≠ k + 1 := fun q9 => c_20 (by rw [gm_who_is (by omega) q9 (fun i hi h9 => hz8 i v hi (by omega) (by omega) (by omega)), gm_eS])
          refine gk_iinc (j := 2) (v := nI (k + 1)) (lv' := [(2, .int (nI (k + 1))), (0, .ref a), (1, .int (nI v))]) G dX2_stoneOf_25 rfl (nI_add k 1) (by decide) rfl ?_
          refine gk_goto (tgt := 2) G dX2_stoneOf_28 (by decide) ?_
          exact gk_lsub [1,2,0] rfl (ih (k + 1) (by omega) (by omega) (fun i hi x hx => by
            rcases Nat.lt_succ_iff_lt_or_eq.mp hi with g9 | g9
            · exact w1 i g9 x hx
            · rw [hx, g9]; exact hne))
        · have heq : M 7 v = k + 1 := by
            rw [← gm_eS v] at c_20
            have e8 := (gm_e_inj (by omega) (by omega)).mp c_20
            have e7 := gm_who_on (M := M) (m := k) (M 11 0) (by omega)
            rw [e8] at e7; exact e7
          refine gk_iload_n G dX2_stoneOf_23 2 rfl ?_
          exact RET _ _ _ _ _ _ () dX2_stoneOf_24 rfl (by rw [heq, gm_eS]) rfl (Nat.le_of_ble_eq_true rfl) (Nat.le_of_ble_eq_true rfl)
  refine gk_iconst (v := nI 0) G dX2_stoneOf_0 (by decide) ?_
  refine gk_istore_n (lv' := [(2, .int (nI 0)), (0, .ref a), (1, .int (nI v))]) G dX2_stoneOf_1 rfl (by decide) rfl ?_
  exact gk_lsub [1,2,0] rfl (L2 (nm + 1) 0 (by omega) (by omega) (fun i hi => absurd hi (Nat.not_lt_zero _)))
