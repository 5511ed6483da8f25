def gm_new : gm_M := fun k i => if k = 0 then 5 else 0
theorem gm_i0 {B1 B2 : Nat → Nat → Int32} {k : Nat} {v : Int32} (e : gc_up B1 0 (upd (B1 0) k v) = B2) (hv : v = nI 5) (h : B1 = fun r i => if r = 0 ∧ i < k then 5 else 0) : B2 = fun r i => if r = 0 ∧ i < k + 1 then 5 else 0 := by
  subst e; subst hv
  funext r i
  by_cases hr : r = 0
  · subst hr
    rw [gc_up_at]
    by_cases hi : i = k
    · rw [hi, pk_us, if_pos (by omega)]; rfl
    · rw [pk_un hi, h]
      dsimp only
      by_cases h2 : i < k
      · rw [if_pos ⟨rfl, h2⟩, if_pos ⟨rfl, by omega⟩]
      · rw [if_neg (by omega), if_neg (by omega)]
  · rw [gc_up_ne _ _ hr, h]
    dsimp only
    rw [if_neg (by omega), if_neg (by omega)]
theorem gm_i1 {F : Nat → Int32} {B : Nat → Nat → Int32} (hF : ∀ k, F k = 0) (h : B = fun r i => if r = 0 ∧ i < 12 then 5 else 0) : gc_rep F B gm_new := by
  refine ⟨⟨hF 9, hF 10, hF 11, hF 12, hF 13, hF 14, hF 15⟩, fun i hi => ?_, fun i hi => absurd hi (Nat.not_lt_zero i), fun i hi => absurd hi (Nat.not_lt_zero i), fun i hi => absurd hi (Nat.not_lt_zero i), fun i hi => absurd hi (Nat.not_lt_zero i), fun i hi => absurd hi (Nat.not_lt_zero i), fun i hi => absurd hi (Nat.not_lt_zero i), fun i hi => absurd hi (Nat.not_lt_zero i)⟩
  rw [h]
  dsimp only
  rw [if_pos ⟨rfl, hi⟩]
  rfl

set_option maxRecDepth 100000 in
set_option maxHeartbeats 400000 in
theorem c0_init (l : Launch) (D : va_G) (cI cZ cJ : ClassId) (h : Nat)  : gk_V l yX0_init wsX0_init ({ frames := 1, cells := 9, slots := 104, locals := 20 } : Room) D (g_T cI cZ cJ) gk_E0 [.ref h] [(h, .inr (0, [.null, .null, .null, .null, .null, .null, .null, .null, .null, .int 0, .int 0, .int 0, .int 0, .int 0, .int 0, .int 0]))] 9 104 (fun (u : (Nat → Nat) × (Nat → Int32) × (Nat → Nat → Int32)) => gc_rep u.2.1 u.2.2 gm_new) (fun u => (gs_W cI cZ h u.1 u.2.1 u.2.2)) := by
  refine gk_V_of (cc := cX0_init) (nL := 2) (by decide +kernel) rfl (Nat.le_of_ble_eq_true rfl) ?_
  intro p e s m below meth c A Q hnm hE G RET
  have hinX0 : ∀ w ∈ wsX00, w ∈ wsX0_init := fun w h9 => (List.mem_cons_of_mem _ (List.mem_append_right _ h9))
  have k9 := G.2.2.2.2.1 (.fieldLink RX0 9 "GustMill$State" "winds" "[I") (List.mem_cons_of_mem _ (List.mem_append_left _ (List.mem_of_getElem? (i := 4) rfl)))
  have k15 := G.2.2.2.2.1 (.fieldLink RX0 15 "GustMill$State" "sizes" "[I") (List.mem_cons_of_mem _ (List.mem_append_left _ (List.mem_of_getElem? (i := 5) rfl)))
  have k18 := G.2.2.2.2.1 (.fieldLink RX0 18 "GustMill$State" "sacksUpon" "[I") (List.mem_cons_of_mem _ (List.mem_append_left _ (List.mem_of_getElem? (i := 6) rfl)))
  have k21 := G.2.2.2.2.1 (.fieldLink RX0 21 "GustMill$State" "isFresh" "[Z") (List.mem_cons_of_mem _ (List.mem_append_left _ (List.mem_of_getElem? (i := 8) rfl)))
  have k25 := G.2.2.2.2.1 (.fieldLink RX0 25 "GustMill$State" "bakers" "[I") (List.mem_cons_of_mem _ (List.mem_append_left _ (List.mem_of_getElem? (i := 9) rfl)))
  have k28 := G.2.2.2.2.1 (.fieldLink RX0 28 "GustMill$State" "lefts" "[I") (List.mem_cons_of_mem _ (List.mem_append_left _ (List.mem_of_getElem? (i := 10) rfl)))
  have k31 := G.2.2.2.2.1 (.fieldLink RX0 31 "GustMill$State" "untils" "[I") (List.mem_cons_of_mem _ (List.mem_append_left _ (List.mem_of_getElem? (i := 11) rfl)))
  have k34 := G.2.2.2.2.1 (.fieldLink RX0 34 "GustMill$State" "stonesUnder" "[I") (List.mem_cons_of_mem _ (List.mem_append_left _ (List.mem_of_getElem? (i := 12) rfl)))
  have k37 := G.2.2.2.2.1 (.fieldLink RX0 37 "GustMill$State" "groundHours" "[I") (List.mem_cons_of_mem _ (List.mem_append_left _ (List.mem_of_getElem? (i := 13) rfl)))
  have k40 := G.2.2.2.2.1 (.fieldLink RX0 40 "GustMill$State" "hour" "I") (List.mem_cons_of_mem _ (List.mem_append_left _ (List.mem_of_getElem? (i := 14) rfl)))
  have k44 := G.2.2.2.2.1 (.fieldLink RX0 44 "GustMill$State" "stoneCount" "I") (List.mem_cons_of_mem _ (List.mem_append_left _ (List.mem_of_getElem? (i := 15) rfl)))
  have k47 := G.2.2.2.2.1 (.fieldLink RX0 47 "GustMill$State" "sackCount" "I") (List.mem_cons_of_mem _ (List.mem_append_left _ (List.mem_of_getElem? (i := 16) rfl)))
  have k50 := G.2.2.2.2.1 (.fieldLink RX0 50 "GustMill$State" "groundCount" "I") (List.mem_cons_of_mem _ (List.mem_append_left _ (List.mem_of_getElem? (i := 17) rfl)))
  have k53 := G.2.2.2.2.1 (.fieldLink RX0 53 "GustMill$State" "changeCount" "I") (List.mem_cons_of_mem _ (List.mem_append_left _ (List.mem_of_getElem? (i := 18) rfl)))
  have k56 := G.2.2.2.2.1 (.fieldLink RX0 56 "GustMill$State" "rule" "I") (List.mem_cons_of_mem _ (List.mem_append_left _ (List.mem_of_getElem? (i := 19) rfl)))
  have k59 := G.2.2.2.2.1 (.fieldLink RX0 59 "GustMill$State" "isTakingOff" "Z") (List.mem_cons_of_mem _ (List.mem_append_left _ (List.mem_of_getElem? (i := 20) rfl)))
  refine gk_aload_n G dX0_init_0 0 rfl ?_
  refine gk_objInit G (G.2.2.2.2.1 (.methodLink RX0 3 objectInit) (List.mem_cons_of_mem _ (List.mem_append_left _ (List.mem_of_getElem? (i := 0) rfl)))) (G.2.2.2.2.1 (.instanceMethod objectInit) (List.mem_cons_of_mem _ (List.mem_append_left _ (List.mem_of_getElem? (i := 1) rfl)))) (G.2.2.2.2.1 (.code objectInit ⟨#[0xb1]⟩ 1 none) (List.mem_cons_of_mem _ (List.mem_append_left _ (List.mem_of_getElem? (i := 2) rfl)))) (Nat.le_of_ble_eq_true rfl) (Nat.le_of_ble_eq_true rfl) dX0_init_1 ?_
  refine gk_aload_n G dX0_init_4 0 rfl ?_
  refine gk_bipush (v := nI 12) G dX0_init_5 (by decide) ?_
  refine gk_newa (atype := .int) (N := 12) (a0 := (12, .inl (fun _ => 0))) G (G.2.2.2.2.1 (.arrayClass .int) (List.mem_cons_of_mem _ (List.mem_append_left _ (List.mem_of_getElem? (i := 3) rfl)))) rfl (fun C h => by cases h) 0 rfl (fun _ => rfl) rfl (Nat.le_of_ble_eq_true rfl) (Nat.le_of_ble_eq_true rfl) (Nat.le_of_ble_eq_true rfl) (Nat.le_of_ble_eq_true rfl) dX0_init_7 (fun q0 => ?_)
  show gk_C p l e ({ frames := 1, cells := 9, slots := 104, locals := 20 } : Room) s m ([.ref h] : List Value).toArray below meth c 2 D A Q 1 12 [(h, .inr (0, [.null, .null, .null, .null, .null, .null, .null, .null, .null, .int 0, .int 0, .int 0, .int 0, .int 0, .int 0, .int 0])), (q0, .inl (cI, 12, .inl (fun _ => 0)))] [(0, .ref h)] 9 [.ref q0, .ref h]
  refine gk_putF (w' := [(h, .inr (0, [.ref q0, .null, .null, .null, .null, .null, .null, .null, .null, .int 0, .int 0, .int 0, .int 0, .int 0, .int 0, .int 0])), (q0, .inl (cI, 12, .inl (fun _ => 0)))]) G hinX0 tyX0_ok nmX0 (q0 := 0) rfl rfl 0 (by decide) k9 rfl hnm rfl rfl rfl (Nat.le_of_ble_eq_true rfl) rfl dX0_init_9 ?_
  refine gk_aload_n G dX0_init_12 0 rfl ?_
  refine gk_iconst (v := nI 4) G dX0_init_13 (by decide) ?_
  refine gk_newa (atype := .int) (N := 4) (a0 := (4, .inl (fun _ => 0))) G (G.2.2.2.2.1 (.arrayClass .int) (List.mem_cons_of_mem _ (List.mem_append_left _ (List.mem_of_getElem? (i := 3) rfl)))) rfl (fun C h => by cases h) 0 rfl (fun _ => rfl) rfl (Nat.le_of_ble_eq_true rfl) (Nat.le_of_ble_eq_true rfl) (Nat.le_of_ble_eq_true rfl) (Nat.le_of_ble_eq_true rfl) dX0_init_14 (fun q1 => ?_)
  show gk_C p l e ({ frames := 1, cells := 9, slots := 104, locals := 20 } : Room) s m ([.ref h] : List Value).toArray below meth c 2 D A Q 2 16 [(h, .inr (0, [.ref q0, .null, .null, .null, .null, .null, .null, .null, .null, .int 0, .int 0, .int 0, .int 0, .int 0, .int 0, .int 0])), (q0, .inl (cI, 12, .inl (fun _ => 0))), (q1, .inl (cI, 4, .inl (fun _ => 0)))] [(0, .ref h)] 16 [.ref q1, .ref h]
  refine gk_putF (w' := [(h, .inr (0, [.ref q0, .ref q1, .null, .null, .null, .null, .null, .null, .null, .int 0, .int 0, .int 0, .int 0, .int 0, .int 0, .int 0])), (q0, .inl (cI, 12, .inl (fun _ => 0))), (q1, .inl (cI, 4, .inl (fun _ => 0)))]) G hinX0 tyX0_ok nmX0 (q0 := 0) rfl rfl 1 (by decide) k15 rfl hnm rfl rfl rfl (Nat.le_of_ble_eq_true rfl) rfl dX0_init_16 ?_
  refine gk_aload_n G dX0_init_19 0 rfl ?_
  refine gk_iconst (v := nI 4) G dX0_init_20 (by decide) ?_
  refine gk_newa (atype := .int) (N := 4) (a0 := (4, .inl (fun _ => 0))) G (G.2.2.2.2.1 (.arrayClass .int) (List.mem_cons_of_mem _ (List.mem_append_left _ (List.mem_of_getElem? (i := 3) rfl)))) rfl (fun C h => by cases h) 0 rfl (fun _ => rfl) rfl (Nat.le_of_ble_eq_true rfl) (Nat.le_of_ble_eq_true rfl) (Nat.le_of_ble_eq_true rfl) (Nat.le_of_ble_eq_true rfl) dX0_init_21 (fun q2 => ?_)
  show gk_C p l e ({ frames := 1, cells := 9, slots := 104, locals := 20 } : Room) s m ([.ref h] : List Value).toArray below meth c 2 D A Q 3 20 [(h, .inr (0, [.ref q0, .ref q1, .null, .null, .null, .null, .null, .null, .null, .int 0, .int 0, .int 0, .int 0, .int 0, .int 0, .int 0])), (q0, .inl (cI, 12, .inl (fun _ => 0))), (q1, .inl (cI, 4, .inl (fun _ => 0))), (q2, .inl (cI, 4, .inl (fun _ => 0)))] [(0, .ref h)] 23 [.ref q2, .ref h]
  refine gk_putF (w' := [(h, .inr (0, [.ref q0, .ref q1, .ref q2, .null, .null, .null, .null, .null, .null, .int 0, .int 0, .int 0, .int 0, .int 0, .int 0, .int 0])), (q0, .inl (cI, 12, .inl (fun _ => 0))), (q1, .inl (cI, 4, .inl (fun _ => 0))), (q2, .inl (cI, 4, .inl (fun _ => 0)))]) G hinX0 tyX0_ok nmX0 (q0 := 0) rfl rfl 2 (by decide) k18 rfl hnm rfl rfl rfl (Nat.le_of_ble_eq_true rfl) rfl dX0_init_23 ?_
  refine gk_aload_n G dX0_init_26 0 rfl ?_
  refine gk_iconst (v := nI 4) G dX0_init_27 (by decide) ?_
  refine gk_newa (atype := .boolean) (N := 4) (a0 := (4, .inl (fun _ => 0))) G (G.2.2.2.2.1 (.arrayClass .boolean) (List.mem_cons_of_mem _ (List.mem_append_left _ (List.mem_of_getElem? (i := 7) rfl)))) rfl (fun C h => by cases h) 1 rfl (fun _ => rfl) rfl (Nat.le_of_ble_eq_true rfl) (Nat.le_of_ble_eq_true rfl) (Nat.le_of_ble_eq_true rfl) (Nat.le_of_ble_eq_true rfl) dX0_init_28 (fun q3 => ?_)
  show gk_C p l e ({ frames := 1, cells := 9, slots := 104, locals := 20 } : Room) s m ([.ref h] : List Value).toArray below meth c 2 D A Q 4 24 [(h, .inr (0, [.ref q0, .ref q1, .ref q2, .null, .null, .null, .null, .null, .null, .int 0, .int 0, .int 0, .int 0, .int 0, .int 0, .int 0])), (q0, .inl (cI, 12, .inl (fun _ => 0))), (q1, .inl (cI, 4, .inl (fun _ => 0))), (q2, .inl (cI, 4, .inl (fun _ => 0))), (q3, .inl (cZ, 4, .inl (fun _ => 0)))] [(0, .ref h)] 30 [.ref q3, .ref h]
  refine gk_putF (w' := [(h, .inr (0, [.ref q0, .ref q1, .ref q2, .ref q3, .null, .null, .null, .null, .null, .int 0, .int 0, .int 0, .int 0, .int 0, .int 0, .int 0])), (q0, .inl (cI, 12, .inl (fun _ => 0))), (q1, .inl (cI, 4, .inl (fun _ => 0))), (q2, .inl (cI, 4, .inl (fun _ => 0))), (q3, .inl (cZ, 4, .inl (fun _ => 0)))]) G hinX0 tyX0_ok nmX0 (q0 := 0) rfl rfl 3 (by decide) k21 rfl hnm rfl rfl rfl (Nat.le_of_ble_eq_true rfl) rfl dX0_init_30 ?_
  refine gk_aload_n G dX0_init_33 0 rfl ?_
  refine gk_bipush (v := nI 16) G dX0_init_34 (by decide) ?_
  refine gk_newa (atype := .int) (N := 16) (a0 := (16, .inl (fun _ => 0))) G (G.2.2.2.2.1 (.arrayClass .int) (List.mem_cons_of_mem _ (List.mem_append_left _ (List.mem_of_getElem? (i := 3) rfl)))) rfl (fun C h => by cases h) 0 rfl (fun _ => rfl) rfl (Nat.le_of_ble_eq_true rfl) (Nat.le_of_ble_eq_true rfl) (Nat.le_of_ble_eq_true rfl) (Nat.le_of_ble_eq_true rfl) dX0_init_36 (fun q4 => ?_)
  show gk_C p l e ({ frames := 1, cells := 9, slots := 104, locals := 20 } : Room) s m ([.ref h] : List Value).toArray below meth c 2 D A Q 5 40 [(h, .inr (0, [.ref q0, .ref q1, .ref q2, .ref q3, .null, .null, .null, .null, .null, .int 0, .int 0, .int 0, .int 0, .int 0, .int 0, .int 0])), (q0, .inl (cI, 12, .inl (fun _ => 0))), (q1, .inl (cI, 4, .inl (fun _ => 0))), (q2, .inl (cI, 4, .inl (fun _ => 0))), (q3, .inl (cZ, 4, .inl (fun _ => 0))), (q4, .inl (cI, 16, .inl (fun _ => 0)))] [(0, .ref h)] 38 [.ref q4, .ref h]
  refine gk_putF (w' := [(h, .inr (0, [.ref q0, .ref q1, .ref q2, .ref q3, .ref q4, .null, .null, .null, .null, .int 0, .int 0, .int 0, .int 0, .int 0, .int 0, .int 0])), (q0, .inl (cI, 12, .inl (fun _ => 0))), (q1, .inl (cI, 4, .inl (fun _ => 0))), (q2, .inl (cI, 4, .inl (fun _ => 0))), (q3, .inl (cZ, 4, .inl (fun _ => 0))), (q4, .inl (cI, 16, .inl (fun _ => 0)))]) G hinX0 tyX0_ok nmX0 (q0 := 0) rfl rfl 4 (by decide) k25 rfl hnm rfl rfl rfl (Nat.le_of_ble_eq_true rfl) rfl dX0_init_38 ?_
  refine gk_aload_n G dX0_init_41 0 rfl ?_
  refine gk_bipush (v := nI 16) G dX0_init_42 (by decide) ?_
  refine gk_newa (atype := .int) (N := 16) (a0 := (16, .inl (fun _ => 0))) G (G.2.2.2.2.1 (.arrayClass .int) (List.mem_cons_of_mem _ (List.mem_append_left _ (List.mem_of_getElem? (i := 3) rfl)))) rfl (fun C h => by cases h) 0 rfl (fun _ => rfl) rfl (Nat.le_of_ble_eq_true rfl) (Nat.le_of_ble_eq_true rfl) (Nat.le_of_ble_eq_true rfl) (Nat.le_of_ble_eq_true rfl) dX0_init_44 (fun q5 => ?_)
  show gk_C p l e ({ frames := 1, cells := 9, slots := 104, locals := 20 } : Room) s m ([.ref h] : List Value).toArray below meth c 2 D A Q 6 56 [(h, .inr (0, [.ref q0, .ref q1, .ref q2, .ref q3, .ref q4, .null, .null, .null, .null, .int 0, .int 0, .int 0, .int 0, .int 0, .int 0, .int 0])), (q0, .inl (cI, 12, .inl (fun _ => 0))), (q1, .inl (cI, 4, .inl (fun _ => 0))), (q2, .inl (cI, 4, .inl (fun _ => 0))), (q3, .inl (cZ, 4, .inl (fun _ => 0))), (q4, .inl (cI, 16, .inl (fun _ => 0))), (q5, .inl (cI, 16, .inl (fun _ => 0)))] [(0, .ref h)] 46 [.ref q5, .ref h]
  refine gk_putF (w' := [(h, .inr (0, [.ref q0, .ref q1, .ref q2, .ref q3, .ref q4, .ref q5, .null, .null, .null, .int 0, .int 0, .int 0, .int 0, .int 0, .int 0, .int 0])), (q0, .inl (cI, 12, .inl (fun _ => 0))), (q1, .inl (cI, 4, .inl (fun _ => 0))), (q2, .inl (cI, 4, .inl (fun _ => 0))), (q3, .inl (cZ, 4, .inl (fun _ => 0))), (q4, .inl (cI, 16, .inl (fun _ => 0))), (q5, .inl (cI, 16, .inl (fun _ => 0)))]) G hinX0 tyX0_ok nmX0 (q0 := 0) rfl rfl 5 (by decide) k28 rfl hnm rfl rfl rfl (Nat.le_of_ble_eq_true rfl) rfl dX0_init_46 ?_
  refine gk_aload_n G dX0_init_49 0 rfl ?_
  refine gk_bipush (v := nI 16) G dX0_init_50 (by decide) ?_
  refine gk_newa (atype := .int) (N := 16) (a0 := (16, .inl (fun _ => 0))) G (G.2.2.2.2.1 (.arrayClass .int) (List.mem_cons_of_mem _ (List.mem_append_left _ (List.mem_of_getElem? (i := 3) rfl)))) rfl (fun C h => by cases h) 0 rfl (fun _ => rfl) rfl (Nat.le_of_ble_eq_true rfl) (Nat.le_of_ble_eq_true rfl) (Nat.le_of_ble_eq_true rfl) (Nat.le_of_ble_eq_true rfl) dX0_init_52 (fun q6 => ?_)
  show gk_C p l e ({ frames := 1, cells := 9, slots := 104, locals := 20 } : Room) s m ([.ref h] : List Value).toArray below meth c 2 D A Q 7 72 [(h, .inr (0, [.ref q0, .ref q1, .ref q2, .ref q3, .ref q4, .ref q5, .null, .null, .null, .int 0, .int 0, .int 0, .int 0, .int 0, .int 0, .int 0])), (q0, .inl (cI, 12, .inl (fun _ => 0))), (q1, .inl (cI, 4, .inl (fun _ => 0))), (q2, .inl (cI, 4, .inl (fun _ => 0))), (q3, .inl (cZ, 4, .inl (fun _ => 0))), (q4, .inl (cI, 16, .inl (fun _ => 0))), (q5, .inl (cI, 16, .inl (fun _ => 0))), (q6, .inl (cI, 16, .inl (fun _ => 0)))] [(0, .ref h)] 54 [.ref q6, .ref h]
  refine gk_putF (w' := [(h, .inr (0, [.ref q0, .ref q1, .ref q2, .ref q3, .ref q4, .ref q5, .ref q6, .null, .null, .int 0, .int 0, .int 0, .int 0, .int 0, .int 0, .int 0])), (q0, .inl (cI, 12, .inl (fun _ => 0))), (q1, .inl (cI, 4, .inl (fun _ => 0))), (q2, .inl (cI, 4, .inl (fun _ => 0))), (q3, .inl (cZ, 4, .inl (fun _ => 0))), (q4, .inl (cI, 16, .inl (fun _ => 0))), (q5, .inl (cI, 16, .inl (fun _ => 0))), (q6, .inl (cI, 16, .inl (fun _ => 0)))]) G hinX0 tyX0_ok nmX0 (q0 := 0) rfl rfl 6 (by decide) k31 rfl hnm rfl rfl rfl (Nat.le_of_ble_eq_true rfl) rfl dX0_init_54 ?_
  refine gk_aload_n G dX0_init_57 0 rfl ?_
  refine gk_bipush (v := nI 16) G dX0_init_58 (by decide) ?_
  refine gk_newa (atype := .int) (N := 16) (a0 := (16, .inl (fun _ => 0))) G (G.2.2.2.2.1 (.arrayClass .int) (List.mem_cons_of_mem _ (List.mem_append_left _ (List.mem_of_getElem? (i := 3) rfl)))) rfl (fun C h => by cases h) 0 rfl (fun _ => rfl) rfl (Nat.le_of_ble_eq_true rfl) (Nat.le_of_ble_eq_true rfl) (Nat.le_of_ble_eq_true rfl) (Nat.le_of_ble_eq_true rfl) dX0_init_60 (fun q7 => ?_)
  show gk_C p l e ({ frames := 1, cells := 9, slots := 104, locals := 20 } : Room) s m ([.ref h] : List Value).toArray below meth c 2 D A Q 8 88 [(h, .inr (0, [.ref q0, .ref q1, .ref q2, .ref q3, .ref q4, .ref q5, .ref q6, .null, .null, .int 0, .int 0, .int 0, .int 0, .int 0, .int 0, .int 0])), (q0, .inl (cI, 12, .inl (fun _ => 0))), (q1, .inl (cI, 4, .inl (fun _ => 0))), (q2, .inl (cI, 4, .inl (fun _ => 0))), (q3, .inl (cZ, 4, .inl (fun _ => 0))), (q4, .inl (cI, 16, .inl (fun _ => 0))), (q5, .inl (cI, 16, .inl (fun _ => 0))), (q6, .inl (cI, 16, .inl (fun _ => 0))), (q7, .inl (cI, 16, .inl (fun _ => 0)))] [(0, .ref h)] 62 [.ref q7, .ref h]
  refine gk_putF (w' := [(h, .inr (0, [.ref q0, .ref q1, .ref q2, .ref q3, .ref q4, .ref q5, .ref q6, .ref q7, .null, .int 0, .int 0, .int 0, .int 0, .int 0, .int 0, .int 0])), (q0, .inl (cI, 12, .inl (fun _ => 0))), (q1, .inl (cI, 4, .inl (fun _ => 0))), (q2, .inl (cI, 4, .inl (fun _ => 0))), (q3, .inl (cZ, 4, .inl (fun _ => 0))), (q4, .inl (cI, 16, .inl (fun _ => 0))), (q5, .inl (cI, 16, .inl (fun _ => 0))), (q6, .inl (cI, 16, .inl (fun _ => 0))), (q7, .inl (cI, 16, .inl (fun _ => 0)))]) G hinX0 tyX0_ok nmX0 (q0 := 0) rfl rfl 7 (by decide) k34 rfl hnm rfl rfl rfl (Nat.le_of_ble_eq_true rfl) rfl dX0_init_62 ?_
  refine gk_aload_n G dX0_init_65 0 rfl ?_
  refine gk_bipush (v := nI 16) G dX0_init_66 (by decide) ?_
  refine gk_newa (atype := .int) (N := 16) (a0 := (16, .inl (fun _ => 0))) G (G.2.2.2.2.1 (.arrayClass .int) (List.mem_cons_of_mem _ (List.mem_append_left _ (List.mem_of_getElem? (i := 3) rfl)))) rfl (fun C h => by cases h) 0 rfl (fun _ => rfl) rfl (Nat.le_of_ble_eq_true rfl) (Nat.le_of_ble_eq_true rfl) (Nat.le_of_ble_eq_true rfl) (Nat.le_of_ble_eq_true rfl) dX0_init_68 (fun q8 => ?_)
  show gk_C p l e ({ frames := 1, cells := 9, slots := 104, locals := 20 } : Room) s m ([.ref h] : List Value).toArray below meth c 2 D A Q 9 104 [(h, .inr (0, [.ref q0, .ref q1, .ref q2, .ref q3, .ref q4, .ref q5, .ref q6, .ref q7, .null, .int 0, .int 0, .int 0, .int 0, .int 0, .int 0, .int 0])), (q0, .inl (cI, 12, .inl (fun _ => 0))), (q1, .inl (cI, 4, .inl (fun _ => 0))), (q2, .inl (cI, 4, .inl (fun _ => 0))), (q3, .inl (cZ, 4, .inl (fun _ => 0))), (q4, .inl (cI, 16, .inl (fun _ => 0))), (q5, .inl (cI, 16, .inl (fun _ => 0))), (q6, .inl (cI, 16, .inl (fun _ => 0))), (q7, .inl (cI, 16, .inl (fun _ => 0))), (q8, .inl (cI, 16, .inl (fun _ => 0)))] [(0, .ref h)] 70 [.ref q8, .ref h]
  refine gk_putF (w' := [(h, .inr (0, [.ref q0, .ref q1, .ref q2, .ref q3, .ref q4, .ref q5, .ref q6, .ref q7, .ref q8, .int 0, .int 0, .int 0, .int 0, .int 0, .int 0, .int 0])), (q0, .inl (cI, 12, .inl (fun _ => 0))), (q1, .inl (cI, 4, .inl (fun _ => 0))), (q2, .inl (cI, 4, .inl (fun _ => 0))), (q3, .inl (cZ, 4, .inl (fun _ => 0))), (q4, .inl (cI, 16, .inl (fun _ => 0))), (q5, .inl (cI, 16, .inl (fun _ => 0))), (q6, .inl (cI, 16, .inl (fun _ => 0))), (q7, .inl (cI, 16, .inl (fun _ => 0))), (q8, .inl (cI, 16, .inl (fun _ => 0)))]) G hinX0 tyX0_ok nmX0 (q0 := 0) rfl rfl 8 (by decide) k37 rfl hnm rfl rfl rfl (Nat.le_of_ble_eq_true rfl) rfl dX0_init_70 ?_
  obtain ⟨q, hq⟩ : ∃ q : Nat → Nat, q = fun k => if k = 0 then q0 else if k = 1 then q1 else if k = 2 then q2 else if k = 3 then q3 else if k = 4 then q4 else if k = 5 then q5 else if k = 6 then q6 else if k = 7 then q7 else q8 := ⟨_, rfl⟩
  obtain rfl : q 0 = q0 := by rw [hq]; rfl
  obtain rfl : q 1 = q1 := by rw [hq]; rfl
  obtain rfl : q 2 = q2 := by rw [hq]; rfl
  obtain rfl : q 3 = q3 := by rw [hq]; rfl
  obtain rfl : q 4 = q4 := by rw [hq]; rfl
  obtain rfl : q 5 = q5 := by rw [hq]; rfl
  obtain rfl : q 6 = q6 := by rw [hq]; rfl
  obtain rfl : q 7 = q7 := by rw [hq]; rfl
  obtain rfl : q 8 = q8 := by rw [hq]; rfl
  clear hq
  suffices K9 : ∀ (F : Nat → Int32) (B : Nat → Nat → Int32), (∀ k, F k = 0) → (∀ k i, B k i = 0) → gk_C p l e ({ frames := 1, cells := 9, slots := 104, locals := 20 } : Room) s m ([.ref h] : List Value).toArray below meth c 2 D A Q 9 104 (gs_W cI cZ h q F B) [(0, .ref h)] 73 [] from K9 (fun _ => 0) (fun _ _ => 0) (fun _ => rfl) (fun _ _ => rfl)
  intro F B hF0 hB0
  refine gk_aload_n G dX0_init_73 0 rfl ?_
  refine gk_iconst (v := nI 0) G dX0_init_74 (by decide) ?_
  refine gk_topi (fun v75 ev75 => ?_)
  refine gk_put (w' := (gs_W cI cZ h q (upd F 9 v75) B)) G hinX0 tyX0_ok nmX0 (q0 := 0) rfl rfl 9 (by decide) k40 rfl rfl rfl (Nat.le_of_ble_eq_true rfl) rfl dX0_init_75 ?_
  generalize eF75 : upd F 9 v75 = F75
  refine gk_aload_n G dX0_init_78 0 rfl ?_
  refine gk_iconst (v := nI 0) G dX0_init_79 (by decide) ?_
  refine gk_topi (fun v80 ev80 => ?_)
  refine gk_put (w' := (gs_W cI cZ h q (upd F75 10 v80) B)) G hinX0 tyX0_ok nmX0 (q0 := 0) rfl rfl 10 (by decide) k44 rfl rfl rfl (Nat.le_of_ble_eq_true rfl) rfl dX0_init_80 ?_
  generalize eF80 : upd F75 10 v80 = F80
  refine gk_aload_n G dX0_init_83 0 rfl ?_
  refine gk_iconst (v := nI 0) G dX0_init_84 (by decide) ?_
  refine gk_topi (fun v85 ev85 => ?_)
  refine gk_put (w' := (gs_W cI cZ h q (upd F80 11 v85) B)) G hinX0 tyX0_ok nmX0 (q0 := 0) rfl rfl 11 (by decide) k47 rfl rfl rfl (Nat.le_of_ble_eq_true rfl) rfl dX0_init_85 ?_
  generalize eF85 : upd F80 11 v85 = F85
  refine gk_aload_n G dX0_init_88 0 rfl ?_
  refine gk_iconst (v := nI 0) G dX0_init_89 (by decide) ?_
  refine gk_topi (fun v90 ev90 => ?_)
  refine gk_put (w' := (gs_W cI cZ h q (upd F85 12 v90) B)) G hinX0 tyX0_ok nmX0 (q0 := 0) rfl rfl 12 (by decide) k50 rfl rfl rfl (Nat.le_of_ble_eq_true rfl) rfl dX0_init_90 ?_
  generalize eF90 : upd F85 12 v90 = F90
  refine gk_aload_n G dX0_init_93 0 rfl ?_
  refine gk_iconst (v := nI 0) G dX0_init_94 (by decide) ?_
  refine gk_topi (fun v95 ev95 => ?_)
  refine gk_put (w' := (gs_W cI cZ h q (upd F90 13 v95) B)) G hinX0 tyX0_ok nmX0 (q0 := 0) rfl rfl 13 (by decide) k53 rfl rfl rfl (Nat.le_of_ble_eq_true rfl) rfl dX0_init_95 ?_
  generalize eF95 : upd F90 13 v95 = F95
  refine gk_aload_n G dX0_init_98 0 rfl ?_
  refine gk_iconst (v := nI 0) G dX0_init_99 (by decide) ?_
  refine gk_topi (fun v100 ev100 => ?_)
  refine gk_put (w' := (gs_W cI cZ h q (upd F95 14 v100) B)) G hinX0 tyX0_ok nmX0 (q0 := 0) rfl rfl 14 (by decide) k56 rfl rfl rfl (Nat.le_of_ble_eq_true rfl) rfl dX0_init_100 ?_
  generalize eF100 : upd F95 14 v100 = F100
  refine gk_aload_n G dX0_init_103 0 rfl ?_
  refine gk_iconst (v := nI 0) G dX0_init_104 (by decide) ?_
  refine gk_topi (fun v105 ev105 => ?_)
  refine gk_put (w' := (gs_W cI cZ h q (upd F100 15 v105) B)) G hinX0 tyX0_ok nmX0 (q0 := 0) rfl rfl 15 (by decide) k59 rfl (gk_nz (by rw [ev105]; exact Or.inl rfl)) (gk_fz (by rw [ev105]; exact Or.inl rfl)) (Nat.le_of_ble_eq_true rfl) rfl dX0_init_105 ?_
  generalize eF105 : upd F100 15 v105 = F105
  refine gk_iconst (v := nI 0) G dX0_init_108 (by decide) ?_
  refine gk_istore_n (lv' := [(1, .int (nI 0)), (0, .ref h)]) G dX0_init_109 rfl (by decide) rfl ?_
  have hF1 : ∀ j, F105 j = 0 := by
    intro j
    by_cases h15 : j = 15
    · rw [← eF105, h15, pk_us, ev105]; rfl
    rw [← eF105, pk_un h15]
    by_cases h14 : j = 14
    · rw [← eF100, h14, pk_us, ev100]; rfl
    rw [← eF100, pk_un h14]
    by_cases h13 : j = 13
    · rw [← eF95, h13, pk_us, ev95]; rfl
    rw [← eF95, pk_un h13]
    by_cases h12 : j = 12
    · rw [← eF90, h12, pk_us, ev90]; rfl
    rw [← eF90, pk_un h12]
    by_cases h11 : j = 11
    · rw [← eF85, h11, pk_us, ev85]; rfl
    rw [← eF85, pk_un h11]
    by_cases h10 : j = 10
    · rw [← eF80, h10, pk_us, ev80]; rfl
    rw [← eF80, pk_un h10]
    by_cases h9 : j = 9
    · rw [← eF75, h9, pk_us, ev75]; rfl
    rw [← eF75, pk_un h9]
    exact hF0 j
  generalize F105 = F1 at hF1 ⊢
  have L110 : ∀ (n : Nat) (k : Nat) (B1 : Nat → Nat → Int32), 12 - k < n → (k ≤ 12) → (B1 = fun r i => if r = 0 ∧ i < k then 5 else 0) → gk_C p l e ({ frames := 1, cells := 9, slots := 104, locals := 20 } : Room) s m ([.ref h] : List Value).toArray below meth c 2 D A Q 9 104 (gs_W cI cZ h q F1 B1) [(0, .ref h), (1, .int (nI k))] 110 [] := by
    intro n
    induction n with
    | zero => intro k B1 h0; exact absurd h0 (Nat.not_lt_zero _)
    | succ n ih =>
      intro k B1 h0 w0 w1
      refine gk_iload_n G dX0_init_110 1 rfl ?_
      refine gk_bipush (v := nI 12) G dX0_init_111 (by decide) ?_
      refine gk_icmp_ge (tgt := 129) G dX0_init_113 (by decide) (fun c_113 => ?_) (fun c_113 => ?_)
      · replace c_113 := (nI_leI (a := 12) (b := k) (by omega) (by omega)).mp c_113
        exact RET _ _ _ _ _ (q, F1, B1) dX0_init_129 (gm_i1 hF1 (by rw [show 12 = k by omega]; exact w1)) rfl (Nat.le_of_ble_eq_true rfl) (Nat.le_of_ble_eq_true rfl)
      · replace c_113 := (not_congr (nI_leI (a := 12) (b := k) (by omega) (by omega))).mp c_113
        refine gk_aload_n G dX0_init_116 0 rfl ?_
        refine gk_get (v' := .ref (q 0)) G hinX0 (q0 := 0) rfl rfl 0 (by decide) k9 rfl rfl dX0_init_117 ?_
        refine gk_iload_n G dX0_init_120 1 rfl ?_
        refine gk_iconst (v := nI 5) G dX0_init_121 (by decide) ?_
        refine gk_topi (fun v122 ev122 => ?_)
        refine gk_iast (w' := (gs_W cI cZ h q F1 (gc_up B1 0 (upd (B1 0) k v122)))) G (q0 := 1) (t0 := 0) rfl rfl k rfl (by omega) (by decide) rfl dX0_init_122 ?_
        generalize eB122 : gc_up B1 0 (upd (B1 0) k v122) = B122
        refine gk_iinc (j := 1) (v := nI (k + 1)) (lv' := [(1, .int (nI (k + 1))), (0, .ref h)]) G dX0_init_123 rfl (nI_add k 1) (by decide) rfl ?_
        refine gk_goto (tgt := 110) G dX0_init_126 (by decide) ?_
        exact gk_lsub [1,0] rfl (ih (k + 1) B122 (by omega) (by omega) (gm_i0 eB122 ev122 w1))
  exact gk_lsub [1,0] rfl (L110 13 0 B (by omega) (by omega) (by funext r i; rw [hB0, if_neg (by omega)]))
