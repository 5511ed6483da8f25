def gw_R (cI : ClassId) (a n : Nat) (f : Nat → Int32) : va_W := [(a, .inl (cI, n, .inl f))]
def gm_cp (f g : Nat → Int32) (k : Nat) : Nat → Int32 := fun i => if i < k then f i else g i
theorem gm_cp_lt {f g : Nat → Int32} {k i : Nat} (h : i < k) : gm_cp f g k i = f i := if_pos h
theorem gm_cp_0 (f g : Nat → Int32) : gm_cp f g 0 = g := by
  funext i
  exact if_neg (Nat.not_lt_zero i)
theorem gm_cp_S (f g : Nat → Int32) (k : Nat) : upd (gm_cp f g k) k (f k) = gm_cp f g (k + 1) := by
  funext i
  unfold gm_cp
  by_cases hi : i = k
  · rw [hi, pk_us, if_pos (Nat.lt_succ_self k)]
  · rw [pk_un hi]
    by_cases h2 : i < k
    · rw [if_pos h2, if_pos (Nat.lt_succ_of_lt h2)]
    · rw [if_neg h2, if_neg (by omega)]

set_option maxRecDepth 100000 in
set_option maxHeartbeats 1000000 in
theorem c0_copyRow (l : Launch) (D : va_G) (cI cZ cJ : ClassId) (a b nw : Nat) (f g : Nat → Int32) (hn31 : nw < 2 ^ 31) : gk_V l yX0_copyRow wsX0_copyRow ({ frames := 0, cells := 0, slots := 0, locals := 0 } : Room) D (g_T cI cZ cJ) gk_E0 [.ref a, .ref b] (gw_R cI a nw f ++ gw_R cI b nw g) 0 0 (fun (u : Unit) => True) (fun u => (gw_R cI a nw f ++ gw_R cI b nw (gm_cp f g nw))) := by
  refine gk_V_of (cc := cX0_copyRow) (nL := 3) (by decide +kernel) rfl (Nat.le_of_ble_eq_true rfl) ?_
  intro p e s m below meth c A Q hnm hE G RET
  have L2 : ∀ (n : Nat) (k : Nat), nw - k < n → (k ≤ nw) → gk_C p l e ({ frames := 0, cells := 0, slots := 0, locals := 0 } : Room) s m ([.ref a, .ref b] : List Value).toArray below meth c 3 D A Q 0 0 (gw_R cI a nw f ++ (gw_R cI b nw (gm_cp f g k))) [(0, .ref a), (1, .ref b), (2, .int (nI k))] 2 [] := by
    intro n
    induction n with
    | zero => intro k h0; exact absurd h0 (Nat.not_lt_zero _)
    | succ n ih =>
      intro k h0 w0
      refine gk_iload_n G dX0_copyRow_2 2 rfl ?_
      refine gk_aload_n G dX0_copyRow_3 0 rfl ?_
      refine gk_alen (v := nI nw) G (q0 := 0) (t0 := 0) rfl rfl rfl dX0_copyRow_4 ?_
      refine gk_icmp_ge (tgt := 26) G dX0_copyRow_5 (by decide) (fun c_5 => ?_) (fun c_5 => ?_)
      · replace c_5 := (nI_leI (a := nw) (b := k) (by omega) (by omega)).mp c_5
        exact RET _ _ _ _ _ () dX0_copyRow_26 trivial (by rw [show nw = k by omega]) (Nat.le_of_ble_eq_true rfl) (Nat.le_of_ble_eq_true rfl)
      · replace c_5 := (not_congr (nI_leI (a := nw) (b := k) (by omega) (by omega))).mp c_5
        refine gk_iload_n G dX0_copyRow_8 2 rfl ?_
        refine gk_aload_n G dX0_copyRow_9 1 rfl ?_
        refine gk_alen (v := nI nw) G (q0 := 1) (t0 := 0) rfl rfl rfl dX0_copyRow_10 ?_
        refine gk_icmp_ge (tgt := 26) G dX0_copyRow_11 (by decide) (fun c_11 => ?_) (fun c_11 => ?_)
        · replace c_11 := (nI_leI (a := nw) (b := k) (by omega) (by omega)).mp c_11
          exact RET _ _ _ _ _ () dX0_copyRow_26 trivial (by rw [show nw = k by omega]) (Nat.le_of_ble_eq_true rfl) (Nat.le_of_ble_eq_true rfl)
        · replace c_11 := (not_congr (nI_leI (a := nw) (b := k) (by omega) (by omega))).mp c_11
          refine gk_aload_n G dX0_copyRow_14 1 rfl ?_
          refine gk_iload_n G dX0_copyRow_15 2 rfl ?_
          refine gk_aload_n G dX0_copyRow_16 0 rfl ?_
          refine gk_iload_n G dX0_copyRow_17 2 rfl ?_
          refine gk_iald (v := f k) G (q0 := 0) (t0 := 0) rfl rfl k rfl (by omega) hn31 rfl dX0_copyRow_18 ?_
          refine gk_topi (fun v19 ev19 => ?_)
          refine gk_iast (w' := (gw_R cI a nw f ++ (gw_R cI b nw (upd (gm_cp f g k) k v19)))) G (q0 := 1) (t0 := 0) rfl rfl k rfl (by omega) hn31 rfl dX0_copyRow_19 ?_
          refine gk_iinc (j := 2) (v := nI (k + 1)) (lv' := [(2, .int (nI (k + 1))), (0, .ref a), (1, .ref b)]) G dX0_copyRow_20 rfl (nI_add k 1) (by decide) rfl ?_
          refine gk_goto (tgt := 2) G dX0_copyRow_23 (by decide) ?_
          have t9 := ih (k + 1) (by omega) (by omega)
          rw [← gm_cp_S, ← ev19] at t9
          exact gk_lsub [1,2,0] rfl t9
  refine gk_iconst (v := nI 0) G dX0_copyRow_0 (by decide) ?_
  refine gk_istore_n (lv' := [(2, .int (nI 0)), (0, .ref a), (1, .ref b)]) G dX0_copyRow_1 rfl (by decide) rfl ?_
  have t9 := L2 (nw + 1) 0 (by omega) (by omega)
  rw [gm_cp_0] at t9
  exact gk_lsub [1,2,0] rfl t9
