abbrev gw_U : Type := ((Nat → Int32) × (Nat → Nat → Int32)) × ((Nat → Int32) × (Nat → Nat → Int32))
def gw_X (cI cZ : ClassId) (g h1 h2 : Nat) (q q2 : Nat → Nat) (u : gw_U) : va_W := gw_G g h1 h2 ++ (gs_W cI cZ h1 q u.1.1 u.1.2 ++ (gs_W cI cZ h2 q2 u.2.1 u.2.2))
theorem gm_rgT {p : Int32} {lo hi : Nat} (hh : hi ≤ 2000000) (h1 : (lo : Int) ≤ p.toInt) (h2 : p.toInt < (hi : Int)) : gm_rg p lo hi := by
  refine ⟨p.toInt.toNat, by omega, by omega, ?_⟩
  apply Int32.toInt_inj.mp
  rw [nI_toInt (by omega)]; omega
set_option maxRecDepth 100000 in
set_option maxHeartbeats 1000000 in
theorem c1_requireRule_ok (l : Launch) (D : va_G) (cI cZ cJ : ClassId) (v : Nat) (hv0 : 0 ≤ v) (hv : v < 3) : gk_V l yX1_requireRule wsX1_requireRule ({ frames := 0, cells := 0, slots := 0, locals := 0 } : Room) D (g_T cI cZ cJ) gk_E0 [.int (nI v)] ([] : va_W) 0 0 (fun (u : Unit) => True) (fun u => ([] : va_W)) := by
  refine gk_V_of (cc := cX1_requireRule) (nL := 1) (by decide +kernel) rfl (Nat.le_of_ble_eq_true rfl) ?_
  intro p e s m below meth c A Q hnm hE G RET
  refine gk_iload_n G dX1_requireRule_0 0 rfl ?_
  refine gk_if_lt (tgt := 9) G dX1_requireRule_1 (by decide) (fun c_1 => ?_) (fun c_1 => ?_)
  · replace c_1 := (nI_ltI (a := v) (b := 0) (by omega) (by omega)).mp c_1
    exact absurd c_1 (by omega)
  · replace c_1 := (not_congr (nI_ltI (a := v) (b := 0) (by omega) (by omega))).mp c_1
    refine gk_iload_n G dX1_requireRule_4 0 rfl ?_
    refine gk_iconst (v := nI 3) G dX1_requireRule_5 (by decide) ?_
    refine gk_icmp_lt (tgt := 19) G dX1_requireRule_6 (by decide) (fun c_6 => ?_) (fun c_6 => ?_)
    · replace c_6 := (nI_ltI (a := v) (b := 3) (by omega) (by omega)).mp c_6
      exact RET _ _ _ _ _ () dX1_requireRule_19 trivial rfl (Nat.le_of_ble_eq_true rfl) (Nat.le_of_ble_eq_true rfl)
    · replace c_6 := (not_congr (nI_ltI (a := v) (b := 3) (by omega) (by omega))).mp c_6
      exact absurd c_6 (by omega)
set_option maxRecDepth 100000 in
set_option maxHeartbeats 1000000 in
theorem c1_requireBaker_ok (l : Launch) (D : va_G) (cI cZ cJ : ClassId) (v : Nat) (hv0 : 0 ≤ v) (hv : v < 8) : gk_V l yX1_requireBaker wsX1_requireBaker ({ frames := 0, cells := 0, slots := 0, locals := 0 } : Room) D (g_T cI cZ cJ) gk_E0 [.int (nI v)] ([] : va_W) 0 0 (fun (u : Unit) => True) (fun u => ([] : va_W)) := by
  refine gk_V_of (cc := cX1_requireBaker) (nL := 1) (by decide +kernel) rfl (Nat.le_of_ble_eq_true rfl) ?_
  intro p e s m below meth c A Q hnm hE G RET
  refine gk_iload_n G dX1_requireBaker_0 0 rfl ?_
  refine gk_if_lt (tgt := 10) G dX1_requireBaker_1 (by decide) (fun c_1 => ?_) (fun c_1 => ?_)
  · replace c_1 := (nI_ltI (a := v) (b := 0) (by omega) (by omega)).mp c_1
    exact absurd c_1 (by omega)
  · replace c_1 := (not_congr (nI_ltI (a := v) (b := 0) (by omega) (by omega))).mp c_1
    refine gk_iload_n G dX1_requireBaker_4 0 rfl ?_
    refine gk_bipush (v := nI 8) G dX1_requireBaker_5 (by decide) ?_
    refine gk_icmp_lt (tgt := 20) G dX1_requireBaker_7 (by decide) (fun c_7 => ?_) (fun c_7 => ?_)
    · replace c_7 := (nI_ltI (a := v) (b := 8) (by omega) (by omega)).mp c_7
      exact RET _ _ _ _ _ () dX1_requireBaker_20 trivial rfl (Nat.le_of_ble_eq_true rfl) (Nat.le_of_ble_eq_true rfl)
    · replace c_7 := (not_congr (nI_ltI (a := v) (b := 8) (by omega) (by omega))).mp c_7
      exact absurd c_7 (by omega)
set_option maxRecDepth 100000 in
set_option maxHeartbeats 1000000 in
theorem c1_requireGrain_ok (l : Launch) (D : va_G) (cI cZ cJ : ClassId) (v : Nat) (hv0 : 1 ≤ v) (hv : v < 61) : gk_V l yX1_requireGrain wsX1_requireGrain ({ frames := 0, cells := 0, slots := 0, locals := 0 } : Room) D (g_T cI cZ cJ) gk_E0 [.int (nI v)] ([] : va_W) 0 0 (fun (u : Unit) => True) (fun u => ([] : va_W)) := by
  refine gk_V_of (cc := cX1_requireGrain) (nL := 1) (by decide +kernel) rfl (Nat.le_of_ble_eq_true rfl) ?_
  intro p e s m below meth c A Q hnm hE G RET
  refine gk_iload_n G dX1_requireGrain_0 0 rfl ?_
  refine gk_iconst (v := nI 1) G dX1_requireGrain_1 (by decide) ?_
  refine gk_icmp_lt (tgt := 11) G dX1_requireGrain_2 (by decide) (fun c_2 => ?_) (fun c_2 => ?_)
  · replace c_2 := (nI_ltI (a := v) (b := 1) (by omega) (by omega)).mp c_2
    exact absurd c_2 (by omega)
  · replace c_2 := (not_congr (nI_ltI (a := v) (b := 1) (by omega) (by omega))).mp c_2
    refine gk_iload_n G dX1_requireGrain_5 0 rfl ?_
    refine gk_bipush (v := nI 60) G dX1_requireGrain_6 (by decide) ?_
    refine gk_icmp_le (tgt := 21) G dX1_requireGrain_8 (by decide) (fun c_8 => ?_) (fun c_8 => ?_)
    · replace c_8 := (nI_leI (a := v) (b := 60) (by omega) (by omega)).mp c_8
      exact RET _ _ _ _ _ () dX1_requireGrain_21 trivial rfl (Nat.le_of_ble_eq_true rfl) (Nat.le_of_ble_eq_true rfl)
    · replace c_8 := (not_congr (nI_leI (a := v) (b := 60) (by omega) (by omega))).mp c_8
      exact absurd c_8 (by omega)
set_option maxRecDepth 100000 in
set_option maxHeartbeats 1000000 in
theorem c1_requireUntil_ok (l : Launch) (D : va_G) (cI cZ cJ : ClassId) (v : Nat) (hv0 : 1 ≤ v) (hv : v < 201) : gk_V l yX1_requireUntil wsX1_requireUntil ({ frames := 0, cells := 0, slots := 0, locals := 0 } : Room) D (g_T cI cZ cJ) gk_E0 [.int (nI v)] ([] : va_W) 0 0 (fun (u : Unit) => True) (fun u => ([] : va_W)) := by
  refine gk_V_of (cc := cX1_requireUntil) (nL := 1) (by decide +kernel) rfl (Nat.le_of_ble_eq_true rfl) ?_
  intro p e s m below meth c A Q hnm hE G RET
  refine gk_iload_n G dX1_requireUntil_0 0 rfl ?_
  refine gk_iconst (v := nI 1) G dX1_requireUntil_1 (by decide) ?_
  refine gk_icmp_lt (tgt := 12) G dX1_requireUntil_2 (by decide) (fun c_2 => ?_) (fun c_2 => ?_)
  · replace c_2 := (nI_ltI (a := v) (b := 1) (by omega) (by omega)).mp c_2
    exact absurd c_2 (by omega)
  · replace c_2 := (not_congr (nI_ltI (a := v) (b := 1) (by omega) (by omega))).mp c_2
    refine gk_iload_n G dX1_requireUntil_5 0 rfl ?_
    refine gk_sipush (v := nI 200) G dX1_requireUntil_6 (by decide) ?_
    refine gk_icmp_le (tgt := 22) G dX1_requireUntil_9 (by decide) (fun c_9 => ?_) (fun c_9 => ?_)
    · replace c_9 := (nI_leI (a := v) (b := 200) (by omega) (by omega)).mp c_9
      exact RET _ _ _ _ _ () dX1_requireUntil_22 trivial rfl (Nat.le_of_ble_eq_true rfl) (Nat.le_of_ble_eq_true rfl)
    · replace c_9 := (not_congr (nI_leI (a := v) (b := 200) (by omega) (by omega))).mp c_9
      exact absurd c_9 (by omega)
set_option maxRecDepth 100000 in
set_option maxHeartbeats 1000000 in
theorem c1_requireHours_ok (l : Launch) (D : va_G) (cI cZ cJ : ClassId) (v : Nat) (hv0 : 1 ≤ v) (hv : v < 61) : gk_V l yX1_requireHours wsX1_requireHours ({ frames := 0, cells := 0, slots := 0, locals := 0 } : Room) D (g_T cI cZ cJ) gk_E0 [.int (nI v)] ([] : va_W) 0 0 (fun (u : Unit) => True) (fun u => ([] : va_W)) := by
  refine gk_V_of (cc := cX1_requireHours) (nL := 1) (by decide +kernel) rfl (Nat.le_of_ble_eq_true rfl) ?_
  intro p e s m below meth c A Q hnm hE G RET
  refine gk_iload_n G dX1_requireHours_0 0 rfl ?_
  refine gk_iconst (v := nI 1) G dX1_requireHours_1 (by decide) ?_
  refine gk_icmp_lt (tgt := 11) G dX1_requireHours_2 (by decide) (fun c_2 => ?_) (fun c_2 => ?_)
  · replace c_2 := (nI_ltI (a := v) (b := 1) (by omega) (by omega)).mp c_2
    exact absurd c_2 (by omega)
  · replace c_2 := (not_congr (nI_ltI (a := v) (b := 1) (by omega) (by omega))).mp c_2
    refine gk_iload_n G dX1_requireHours_5 0 rfl ?_
    refine gk_bipush (v := nI 60) G dX1_requireHours_6 (by decide) ?_
    refine gk_icmp_le (tgt := 21) G dX1_requireHours_8 (by decide) (fun c_8 => ?_) (fun c_8 => ?_)
    · replace c_8 := (nI_leI (a := v) (b := 60) (by omega) (by omega)).mp c_8
      exact RET _ _ _ _ _ () dX1_requireHours_21 trivial rfl (Nat.le_of_ble_eq_true rfl) (Nat.le_of_ble_eq_true rfl)
    · replace c_8 := (not_congr (nI_leI (a := v) (b := 60) (by omega) (by omega))).mp c_8
      exact absurd c_8 (by omega)
set_option maxRecDepth 100000 in
set_option maxHeartbeats 1000000 in
theorem c1_requireSack_ok (l : Launch) (D : va_G) (cI cZ cJ : ClassId) (g h1 h2 : Nat) (q : Nat → Nat) (F : Nat → Int32) (B : Nat → Nat → Int32) (q2 : Nat → Nat) (F2 : Nat → Int32) (B2 : Nat → Nat → Int32) (M : gm_M) (v : Nat) (wf : gm_wf M) (hr : gc_rep F B M) (hv : v < M 11 0) : gk_V l yX1_requireSack wsX1_requireSack ({ frames := 0, cells := 0, slots := 0, locals := 0 } : Room) D (g_T cI cZ cJ) gn_E [.ref g, .int (nI v)] (gw_G g h1 h2 ++ (gs_W cI cZ h1 q F B ++ (gs_W cI cZ h2 q2 F2 B2))) 0 0 (fun (u : Unit) => True) (fun u => (gw_G g h1 h2 ++ (gs_W cI cZ h1 q F B ++ (gs_W cI cZ h2 q2 F2 B2)))) := by
  refine gk_V_of (cc := cX1_requireSack) (nL := 2) (by decide +kernel) rfl (Nat.le_of_ble_eq_true rfl) ?_
  intro p e s m below meth c A Q hnm hE G RET
  obtain ⟨hz1, hz2, hz3, hz4, hz5, hz6, hz7, hz8⟩ := id wf
  have hinX0 : ∀ w ∈ wsX00, w ∈ wsX1_requireSack := fun w h9 => (List.mem_cons_of_mem _ (List.mem_append_left _ (List.mem_append_right _ h9)))
  have hinX1 : ∀ w ∈ wsX10, w ∈ wsX1_requireSack := fun w h9 => (List.mem_cons_of_mem _ (List.mem_append_left _ (List.mem_append_left _ (List.mem_append_right _ h9))))
  have k10 := G.2.2.2.2.1 (.fieldLink RX1 10 "GustMill" "now" "LGustMill$State;") (List.mem_cons_of_mem _ (List.mem_append_left _ (List.mem_append_left _ (List.mem_append_left _ (List.mem_of_getElem? (i := 2) rfl)))))
  have kN70 := gn_70 (args := ([.ref g, .int (nI v)] : List Value).toArray) hE
  refine gk_iload_n G dX1_requireSack_0 1 rfl ?_
  refine gk_if_lt (tgt := 15) G dX1_requireSack_1 (by decide) (fun c_1 => ?_) (fun c_1 => ?_)
  · replace c_1 := (nI_ltI (a := v) (b := 0) (by omega) (by omega)).mp c_1
    exact absurd c_1 (by omega)
  · replace c_1 := (not_congr (nI_ltI (a := v) (b := 0) (by omega) (by omega))).mp c_1
    refine gk_iload_n G dX1_requireSack_4 1 rfl ?_
    refine gk_aload_n G dX1_requireSack_5 0 rfl ?_
    refine gk_get (v' := .ref h1) G hinX1 (q0 := 0) rfl rfl 0 (by decide) k10 rfl rfl dX1_requireSack_6 ?_
    refine gk_getN (v' := .int (nI (M 11 0))) G hinX0 (q0 := 1) rfl rfl 11 (by decide) kN70 rfl (congrArg Value.int (hr.1.2.2.1)) dX1_requireSack_9 ?_
    refine gk_icmp_lt (tgt := 25) G dX1_requireSack_12 (by decide) (fun c_12 => ?_) (fun c_12 => ?_)
    · replace c_12 := (nI_ltI (a := v) (b := M 11 0) (by omega) (by omega)).mp c_12
      exact RET _ _ _ _ _ () dX1_requireSack_25 trivial rfl (Nat.le_of_ble_eq_true rfl) (Nat.le_of_ble_eq_true rfl)
    · replace c_12 := (not_congr (nI_ltI (a := v) (b := M 11 0) (by omega) (by omega))).mp c_12
      exact absurd c_12 (by omega)
