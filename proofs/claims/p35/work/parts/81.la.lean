def gp_bel (v : Int32) (n : Nat) : Nat := v.toBitVec.toNat % 2 ^ 31 % n
theorem gp_bel_lt (v : Int32) {n : Nat} (h : 0 < n) : gp_bel v n < n := Nat.mod_lt _ h
def gp_cel (L : Nat) (xs : Nat → Int32) (k : Nat) : Int32 := if k < L then xs k else 790386105 * nI (k + 3)
/-- the script, which nothing changes -/
def gp_X (b L : Nat) (xs : Nat → Int32) : (Nat → Prop) → State → Heap → Prop := fun A U H => va_X b L xs U H ∧ ¬ A b ∧ b < H.size
theorem gp_x_ok (b L : Nat) (xs : Nat → Int32) : gk_Ok (gp_X b L xs) := by
  intro A B u U H H1 hvm _ hB hz hk h
  exact ⟨(h.1.moved hvm).kept (hk b h.2.2 h.2.1), fun q => h.2.1 (hB b h.2.2 q), Nat.lt_of_lt_of_le h.2.2 hz⟩
theorem gp_and_ok {E1 E2 : (Nat → Prop) → State → Heap → Prop} (h1 : gk_Ok E1) (h2 : gk_Ok E2) : gk_Ok (fun A U H => E1 A U H ∧ E2 A U H) := by
  intro A B u U H H1 a1 a2 a3 a4 a5 h
  exact ⟨h1 A B u U H H1 a1 a2 a3 a4 a5 h.1, h2 A B u U H H1 a1 a2 a3 a4 a5 h.2⟩
set_option maxRecDepth 100000 in
set_option maxHeartbeats 2000000 in
theorem c3_below (l : Launch) (D : va_G) (cI cZ cJ : ClassId) (v : Int32) (w : Nat) (hw0 : 0 < w) (hw : w < 2 ^ 31) : gk_I l yL_below wsL_below ({ frames := 0, cells := 0, slots := 0, locals := 0 } : Room) D (g_T cI cZ cJ) gk_E0 [.int v, .int (nI w)] ([] : va_W) 0 0 (fun (r : Int32) (u : Unit) => r = nI (gp_bel v w)) (fun u => ([] : va_W)) := by
  refine gk_I_of (ty := .int) (cc := cL_below) (nL := 2) (by decide +kernel) rfl (Nat.le_of_ble_eq_true rfl) ?_
  intro p e s m below meth c A Q hnm hE G RET
  refine gk_iload_n G dL_below_0 0 rfl ?_
  refine gk_ldc (v := (2147483647)) G (G.2.2.2.2.1 (.constant RL 7 (2147483647)) (List.mem_cons_of_mem _ (List.mem_of_getElem? (i := 0) rfl))) dL_below_1 ?_
  refine gk_iand (v := nI (v.toBitVec.toNat % 2 ^ 31)) G dL_below_3 (pk_and v 31 (by decide)) ?_
  refine gk_iload_n G dL_below_4 1 rfl ?_
  refine gk_irem (v := nI (gp_bel v w)) G dL_below_5 (nI_ne0 hw0 hw) (pk_rem (Nat.mod_lt _ (Nat.two_pow_pos 31)) hw0 hw) ?_
  exact RET _ _ _ _ _ _ () dL_below_6 rfl rfl rfl (Nat.le_of_ble_eq_true rfl) (Nat.le_of_ble_eq_true rfl)
set_option maxRecDepth 100000 in
set_option maxHeartbeats 2000000 in
theorem c3_cell (l : Launch) (D : va_G) (cI cZ cJ : ClassId) (b L : Nat) (xs : Nat → Int32) (k : Nat) (hL : L ≤ 260) (hk : k < 1000) : gk_I l yL_cell wsL_cell ({ frames := 0, cells := 0, slots := 0, locals := 0 } : Room) D (g_T cI cZ cJ) (gp_X b L xs) [.ref b, .int (nI k)] ([] : va_W) 0 0 (fun (r : Int32) (u : Unit) => r = gp_cel L xs k) (fun u => ([] : va_W)) := by
  refine gk_I_of (ty := .int) (cc := cL_cell) (nL := 2) (by decide +kernel) rfl (Nat.le_of_ble_eq_true rfl) ?_
  intro p e s m below meth c A Q hnm hE G RET
  refine gk_iload_n G dL_cell_0 1 rfl ?_
  refine gk_aload_n G dL_cell_1 0 rfl ?_
  refine gk_slen G hE.1 hE.2.2 hE.2.1 dL_cell_2 ?_
  refine gk_icmp_ge (tgt := 12) G dL_cell_3 (by decide) (fun c_3 => ?_) (fun c_3 => ?_)
  · replace c_3 := (nI_leI (a := L) (b := k) (by omega) (by omega)).mp c_3
    refine gk_ldc (v := (790386105)) G (G.2.2.2.2.1 (.constant RL 8 (790386105)) (List.mem_cons_of_mem _ (List.mem_of_getElem? (i := 0) rfl))) dL_cell_12 ?_
    refine gk_iload_n G dL_cell_14 1 rfl ?_
    refine gk_iconst (v := nI 3) G dL_cell_15 (by decide) ?_
    refine gk_iadd (v := nI (k + 3)) G dL_cell_16 (nI_add k 3) ?_
    refine gk_imul (v := 790386105 * nI (k + 3)) G dL_cell_17 rfl ?_
    exact RET _ _ _ _ _ _ () dL_cell_18 rfl (by unfold gp_cel; rw [if_neg (by omega)]) rfl (Nat.le_of_ble_eq_true rfl) (Nat.le_of_ble_eq_true rfl)
  · replace c_3 := (not_congr (nI_leI (a := L) (b := k) (by omega) (by omega))).mp c_3
    refine gk_aload_n G dL_cell_6 0 rfl ?_
    refine gk_iload_n G dL_cell_7 1 rfl ?_
    refine gk_sld (v := xs k) G hE.1 hE.2.2 hE.2.1 k rfl (by omega) (by omega) rfl dL_cell_8 ?_
    refine gk_goto (tgt := 18) G dL_cell_9 (by decide) ?_
    exact RET _ _ _ _ _ _ () dL_cell_18 rfl (by unfold gp_cel; rw [if_pos (by omega)]) rfl (Nat.le_of_ble_eq_true rfl) (Nat.le_of_ble_eq_true rfl)
