theorem gm_j0 {B1 B2 : Nat → Nat → Int32} {k : Nat} {v : Int32} (e : gc_up B1 3 (upd (B1 3) k v) = B2) (hv : v = nI 5) (h : B1 = fun r i => if r = 3 ∧ i < k then 5 else 0) : B2 = fun r i => if r = 3 ∧ i < k + 1 then 5 else 0 := by
  subst e; subst hv
  funext r i
  by_cases hr : r = 3
  · subst hr
    rw [gc_up_at]
    by_cases hi : i = k
    · rw [hi, pk_us, if_pos (by omega)]; rfl
    · rw [pk_un hi, h]
      dsimp only
      by_cases h2 : i < k
      · rw [if_pos ⟨rfl, h2⟩, if_pos ⟨rfl, by omega⟩]
      · rw [if_neg (by omega), if_neg (by omega)]
  · rw [gc_up_ne _ _ hr, h]
    dsimp only
    rw [if_neg (by omega), if_neg (by omega)]
theorem gm_j1 {F f : Nat → Int32} {B : Nat → Nat → Int32} (hF : ∀ k, F k = 0) (hf : ∀ i, f i = 0) (h : B = fun r i => if r = 3 ∧ i < 12 then 5 else 0) : gr_st F B gm_new ∧ gr_now f gm_new := by
  refine ⟨⟨hF 1, hF 4, hF 5, hF 6, fun i hi => absurd hi (Nat.not_lt_zero i), fun i hi => ?_, fun i hi => absurd hi (Nat.not_lt_zero i), fun i hi => absurd hi (Nat.not_lt_zero i)⟩, hf 0, hf 1, hf 2, fun i hi => absurd hi (Nat.not_lt_zero i), fun i hi => absurd hi (Nat.not_lt_zero i), fun i hi => absurd hi (Nat.not_lt_zero i)⟩
  rw [h]
  dsimp only
  rw [if_pos ⟨rfl, hi⟩]
  rfl
set_option maxRecDepth 100000 in
set_option maxHeartbeats 1000000 in
theorem c2_init (l : Launch) (D : va_G) (cI cZ cJ : ClassId) (h : Nat)  : gk_V l yX2_init wsX2_init ({ frames := 1, cells := 7, slots := 154, locals := 20 } : Room) D (g_T cI cZ cJ) gk_E0 [.ref h] [(h, .inr (2, [.int 0, .int 0, .null, .null, .int 0, .int 0, .int 0, .null, .null, .null, .null, .null]))] 7 154 (fun (u : (Nat → Nat) × gd_U) => gr_st u.2.1 u.2.2.1 gm_new ∧ gr_now u.2.2.2.1 gm_new) (fun u => (gd_X cI h u.1 u.2)) := by
  refine gk_V_of (cc := cX2_init) (nL := 2) (by decide +kernel) rfl (Nat.le_of_ble_eq_true rfl) ?_
  intro p e s m below meth c A Q hnm hE G RET
  have hinX2 : ∀ w ∈ wsX20, w ∈ wsX2_init := fun w h9 => (List.mem_cons_of_mem _ (List.mem_append_right _ h9))
  have k9 := G.2.2.2.2.1 (.fieldLink RX2 9 "GustMillModel" "size" "[I") (List.mem_cons_of_mem _ (List.mem_append_left _ (List.mem_of_getElem? (i := 4) rfl)))
  have k13 := G.2.2.2.2.1 (.fieldLink RX2 13 "GustMillModel" "wind" "[I") (List.mem_cons_of_mem _ (List.mem_append_left _ (List.mem_of_getElem? (i := 5) rfl)))
  have k16 := G.2.2.2.2.1 (.fieldLink RX2 16 "GustMillModel" "baker" "[I") (List.mem_cons_of_mem _ (List.mem_append_left _ (List.mem_of_getElem? (i := 6) rfl)))
  have k19 := G.2.2.2.2.1 (.fieldLink RX2 19 "GustMillModel" "until" "[I") (List.mem_cons_of_mem _ (List.mem_append_left _ (List.mem_of_getElem? (i := 7) rfl)))
  have k22 := G.2.2.2.2.1 (.fieldLink RX2 22 "GustMillModel" "now" "[I") (List.mem_cons_of_mem _ (List.mem_append_left _ (List.mem_of_getElem? (i := 8) rfl)))
  have k25 := G.2.2.2.2.1 (.fieldLink RX2 25 "GustMillModel" "kept" "[I") (List.mem_cons_of_mem _ (List.mem_append_left _ (List.mem_of_getElem? (i := 9) rfl)))
  have k28 := G.2.2.2.2.1 (.fieldLink RX2 28 "GustMillModel" "fresh" "[I") (List.mem_cons_of_mem _ (List.mem_append_left _ (List.mem_of_getElem? (i := 10) rfl)))
  refine gk_aload_n G dX2_init_0 0 rfl ?_
  refine gk_objInit G (G.2.2.2.2.1 (.methodLink RX2 1 objectInit) (List.mem_cons_of_mem _ (List.mem_append_left _ (List.mem_of_getElem? (i := 0) rfl)))) (G.2.2.2.2.1 (.instanceMethod objectInit) (List.mem_cons_of_mem _ (List.mem_append_left _ (List.mem_of_getElem? (i := 1) rfl)))) (G.2.2.2.2.1 (.code objectInit ⟨#[0xb1]⟩ 1 none) (List.mem_cons_of_mem _ (List.mem_append_left _ (List.mem_of_getElem? (i := 2) rfl)))) (Nat.le_of_ble_eq_true rfl) (Nat.le_of_ble_eq_true rfl) dX2_init_1 ?_
  refine gk_aload_n G dX2_init_4 0 rfl ?_
  refine gk_iconst (v := nI 4) G dX2_init_5 (by decide) ?_
  refine gk_newa (atype := .int) (N := 4) (a0 := (4, .inl (fun _ => 0))) G (G.2.2.2.2.1 (.arrayClass .int) (List.mem_cons_of_mem _ (List.mem_append_left _ (List.mem_of_getElem? (i := 3) rfl)))) rfl (fun C h => by cases h) 0 rfl (fun _ => rfl) rfl (Nat.le_of_ble_eq_true rfl) (Nat.le_of_ble_eq_true rfl) (Nat.le_of_ble_eq_true rfl) (Nat.le_of_ble_eq_true rfl) dX2_init_6 (fun q2 => ?_)
  show gk_C p l e ({ frames := 1, cells := 7, slots := 154, locals := 20 } : Room) s m ([.ref h] : List Value).toArray below meth c 2 D A Q 1 4 [(h, .inr (2, [.int 0, .int 0, .null, .null, .int 0, .int 0, .int 0, .null, .null, .null, .null, .null])), (q2, .inl (cI, 4, .inl (fun _ => 0)))] [(0, .ref h)] 8 [.ref q2, .ref h]
  refine gk_putF (w' := [(h, .inr (2, [.int 0, .int 0, .ref q2, .null, .int 0, .int 0, .int 0, .null, .null, .null, .null, .null])), (q2, .inl (cI, 4, .inl (fun _ => 0)))]) G hinX2 tyX2_ok nmX2 (q0 := 0) rfl rfl 2 (by decide) k9 rfl hnm rfl rfl rfl (Nat.le_of_ble_eq_true rfl) rfl dX2_init_8 ?_
  refine gk_aload_n G dX2_init_11 0 rfl ?_
  refine gk_bipush (v := nI 12) G dX2_init_12 (by decide) ?_
  refine gk_newa (atype := .int) (N := 12) (a0 := (12, .inl (fun _ => 0))) G (G.2.2.2.2.1 (.arrayClass .int) (List.mem_cons_of_mem _ (List.mem_append_left _ (List.mem_of_getElem? (i := 3) rfl)))) rfl (fun C h => by cases h) 0 rfl (fun _ => rfl) rfl (Nat.le_of_ble_eq_true rfl) (Nat.le_of_ble_eq_true rfl) (Nat.le_of_ble_eq_true rfl) (Nat.le_of_ble_eq_true rfl) dX2_init_14 (fun q3 => ?_)
  show gk_C p l e ({ frames := 1, cells := 7, slots := 154, locals := 20 } : Room) s m ([.ref h] : List Value).toArray below meth c 2 D A Q 2 16 [(h, .inr (2, [.int 0, .int 0, .ref q2, .null, .int 0, .int 0, .int 0, .null, .null, .null, .null, .null])), (q2, .inl (cI, 4, .inl (fun _ => 0))), (q3, .inl (cI, 12, .inl (fun _ => 0)))] [(0, .ref h)] 16 [.ref q3, .ref h]
  refine gk_putF (w' := [(h, .inr (2, [.int 0, .int 0, .ref q2, .ref q3, .int 0, .int 0, .int 0, .null, .null, .null, .null, .null])), (q2, .inl (cI, 4, .inl (fun _ => 0))), (q3, .inl (cI, 12, .inl (fun _ => 0)))]) G hinX2 tyX2_ok nmX2 (q0 := 0) rfl rfl 3 (by decide) k13 rfl hnm rfl rfl rfl (Nat.le_of_ble_eq_true rfl) rfl dX2_init_16 ?_
  refine gk_aload_n G dX2_init_19 0 rfl ?_
  refine gk_bipush (v := nI 16) G dX2_init_20 (by decide) ?_
  refine gk_newa (atype := .int) (N := 16) (a0 := (16, .inl (fun _ => 0))) G (G.2.2.2.2.1 (.arrayClass .int) (List.mem_cons_of_mem _ (List.mem_append_left _ (List.mem_of_getElem? (i := 3) rfl)))) rfl (fun C h => by cases h) 0 rfl (fun _ => rfl) rfl (Nat.le_of_ble_eq_true rfl) (Nat.le_of_ble_eq_true rfl) (Nat.le_of_ble_eq_true rfl) (Nat.le_of_ble_eq_true rfl) dX2_init_22 (fun q7 => ?_)
  show gk_C p l e ({ frames := 1, cells := 7, slots := 154, locals := 20 } : Room) s m ([.ref h] : List Value).toArray below meth c 2 D A Q 3 32 [(h, .inr (2, [.int 0, .int 0, .ref q2, .ref q3, .int 0, .int 0, .int 0, .null, .null, .null, .null, .null])), (q2, .inl (cI, 4, .inl (fun _ => 0))), (q3, .inl (cI, 12, .inl (fun _ => 0))), (q7, .inl (cI, 16, .inl (fun _ => 0)))] [(0, .ref h)] 24 [.ref q7, .ref h]
  refine gk_putF (w' := [(h, .inr (2, [.int 0, .int 0, .ref q2, .ref q3, .int 0, .int 0, .int 0, .ref q7, .null, .null, .null, .null])), (q2, .inl (cI, 4, .inl (fun _ => 0))), (q3, .inl (cI, 12, .inl (fun _ => 0))), (q7, .inl (cI, 16, .inl (fun _ => 0)))]) G hinX2 tyX2_ok nmX2 (q0 := 0) rfl rfl 7 (by decide) k16 rfl hnm rfl rfl rfl (Nat.le_of_ble_eq_true rfl) rfl dX2_init_24 ?_
  refine gk_aload_n G dX2_init_27 0 rfl ?_
  refine gk_bipush (v := nI 16) G dX2_init_28 (by decide) ?_
  refine gk_newa (atype := .int) (N := 16) (a0 := (16, .inl (fun _ => 0))) G (G.2.2.2.2.1 (.arrayClass .int) (List.mem_cons_of_mem _ (List.mem_append_left _ (List.mem_of_getElem? (i := 3) rfl)))) rfl (fun C h => by cases h) 0 rfl (fun _ => rfl) rfl (Nat.le_of_ble_eq_true rfl) (Nat.le_of_ble_eq_true rfl) (Nat.le_of_ble_eq_true rfl) (Nat.le_of_ble_eq_true rfl) dX2_init_30 (fun q8 => ?_)
  show gk_C p l e ({ frames := 1, cells := 7, slots := 154, locals := 20 } : Room) s m ([.ref h] : List Value).toArray below meth c 2 D A Q 4 48 [(h, .inr (2, [.int 0, .int 0, .ref q2, .ref q3, .int 0, .int 0, .int 0, .ref q7, .null, .null, .null, .null])), (q2, .inl (cI, 4, .inl (fun _ => 0))), (q3, .inl (cI, 12, .inl (fun _ => 0))), (q7, .inl (cI, 16, .inl (fun _ => 0))), (q8, .inl (cI, 16, .inl (fun _ => 0)))] [(0, .ref h)] 32 [.ref q8, .ref h]
  refine gk_putF (w' := [(h, .inr (2, [.int 0, .int 0, .ref q2, .ref q3, .int 0, .int 0, .int 0, .ref q7, .ref q8, .null, .null, .null])), (q2, .inl (cI, 4, .inl (fun _ => 0))), (q3, .inl (cI, 12, .inl (fun _ => 0))), (q7, .inl (cI, 16, .inl (fun _ => 0))), (q8, .inl (cI, 16, .inl (fun _ => 0)))]) G hinX2 tyX2_ok nmX2 (q0 := 0) rfl rfl 8 (by decide) k19 rfl hnm rfl rfl rfl (Nat.le_of_ble_eq_true rfl) rfl dX2_init_32 ?_
  refine gk_aload_n G dX2_init_35 0 rfl ?_
  refine gk_bipush (v := nI 51) G dX2_init_36 (by decide) ?_
  refine gk_newa (atype := .int) (N := 51) (a0 := (51, .inl (fun _ => 0))) G (G.2.2.2.2.1 (.arrayClass .int) (List.mem_cons_of_mem _ (List.mem_append_left _ (List.mem_of_getElem? (i := 3) rfl)))) rfl (fun C h => by cases h) 0 rfl (fun _ => rfl) rfl (Nat.le_of_ble_eq_true rfl) (Nat.le_of_ble_eq_true rfl) (Nat.le_of_ble_eq_true rfl) (Nat.le_of_ble_eq_true rfl) dX2_init_38 (fun q9 => ?_)
  show gk_C p l e ({ frames := 1, cells := 7, slots := 154, locals := 20 } : Room) s m ([.ref h] : List Value).toArray below meth c 2 D A Q 5 99 [(h, .inr (2, [.int 0, .int 0, .ref q2, .ref q3, .int 0, .int 0, .int 0, .ref q7, .ref q8, .null, .null, .null])), (q2, .inl (cI, 4, .inl (fun _ => 0))), (q3, .inl (cI, 12, .inl (fun _ => 0))), (q7, .inl (cI, 16, .inl (fun _ => 0))), (q8, .inl (cI, 16, .inl (fun _ => 0))), (q9, .inl (cI, 51, .inl (fun _ => 0)))] [(0, .ref h)] 40 [.ref q9, .ref h]
  refine gk_putF (w' := [(h, .inr (2, [.int 0, .int 0, .ref q2, .ref q3, .int 0, .int 0, .int 0, .ref q7, .ref q8, .ref q9, .null, .null])), (q2, .inl (cI, 4, .inl (fun _ => 0))), (q3, .inl (cI, 12, .inl (fun _ => 0))), (q7, .inl (cI, 16, .inl (fun _ => 0))), (q8, .inl (cI, 16, .inl (fun _ => 0))), (q9, .inl (cI, 51, .inl (fun _ => 0)))]) G hinX2 tyX2_ok nmX2 (q0 := 0) rfl rfl 9 (by decide) k22 rfl hnm rfl rfl rfl (Nat.le_of_ble_eq_true rfl) rfl dX2_init_40 ?_
  refine gk_aload_n G dX2_init_43 0 rfl ?_
  refine gk_bipush (v := nI 51) G dX2_init_44 (by decide) ?_
  refine gk_newa (atype := .int) (N := 51) (a0 := (51, .inl (fun _ => 0))) G (G.2.2.2.2.1 (.arrayClass .int) (List.mem_cons_of_mem _ (List.mem_append_left _ (List.mem_of_getElem? (i := 3) rfl)))) rfl (fun C h => by cases h) 0 rfl (fun _ => rfl) rfl (Nat.le_of_ble_eq_true rfl) (Nat.le_of_ble_eq_true rfl) (Nat.le_of_ble_eq_true rfl) (Nat.le_of_ble_eq_true rfl) dX2_init_46 (fun q10 => ?_)
  show gk_C p l e ({ frames := 1, cells := 7, slots := 154, locals := 20 } : Room) s m ([.ref h] : List Value).toArray below meth c 2 D A Q 6 150 [(h, .inr (2, [.int 0, .int 0, .ref q2, .ref q3, .int 0, .int 0, .int 0, .ref q7, .ref q8, .ref q9, .null, .null])), (q2, .inl (cI, 4, .inl (fun _ => 0))), (q3, .inl (cI, 12, .inl (fun _ => 0))), (q7, .inl (cI, 16, .inl (fun _ => 0))), (q8, .inl (cI, 16, .inl (fun _ => 0))), (q9, .inl (cI, 51, .inl (fun _ => 0))), (q10, .inl (cI, 51, .inl (fun _ => 0)))] [(0, .ref h)] 48 [.ref q10, .ref h]
  refine gk_putF (w' := [(h, .inr (2, [.int 0, .int 0, .ref q2, .ref q3, .int 0, .int 0, .int 0, .ref q7, .ref q8, .ref q9, .ref q10, .null])), (q2, .inl (cI, 4, .inl (fun _ => 0))), (q3, .inl (cI, 12, .inl (fun _ => 0))), (q7, .inl (cI, 16, .inl (fun _ => 0))), (q8, .inl (cI, 16, .inl (fun _ => 0))), (q9, .inl (cI, 51, .inl (fun _ => 0))), (q10, .inl (cI, 51, .inl (fun _ => 0)))]) G hinX2 tyX2_ok nmX2 (q0 := 0) rfl rfl 10 (by decide) k25 rfl hnm rfl rfl rfl (Nat.le_of_ble_eq_true rfl) rfl dX2_init_48 ?_
  refine gk_aload_n G dX2_init_51 0 rfl ?_
  refine gk_iconst (v := nI 4) G dX2_init_52 (by decide) ?_
  refine gk_newa (atype := .int) (N := 4) (a0 := (4, .inl (fun _ => 0))) G (G.2.2.2.2.1 (.arrayClass .int) (List.mem_cons_of_mem _ (List.mem_append_left _ (List.mem_of_getElem? (i := 3) rfl)))) rfl (fun C h => by cases h) 0 rfl (fun _ => rfl) rfl (Nat.le_of_ble_eq_true rfl) (Nat.le_of_ble_eq_true rfl) (Nat.le_of_ble_eq_true rfl) (Nat.le_of_ble_eq_true rfl) dX2_init_53 (fun q11 => ?_)
  show gk_C p l e ({ frames := 1, cells := 7, slots := 154, locals := 20 } : Room) s m ([.ref h] : List Value).toArray below meth c 2 D A Q 7 154 [(h, .inr (2, [.int 0, .int 0, .ref q2, .ref q3, .int 0, .int 0, .int 0, .ref q7, .ref q8, .ref q9, .ref q10, .null])), (q2, .inl (cI, 4, .inl (fun _ => 0))), (q3, .inl (cI, 12, .inl (fun _ => 0))), (q7, .inl (cI, 16, .inl (fun _ => 0))), (q8, .inl (cI, 16, .inl (fun _ => 0))), (q9, .inl (cI, 51, .inl (fun _ => 0))), (q10, .inl (cI, 51, .inl (fun _ => 0))), (q11, .inl (cI, 4, .inl (fun _ => 0)))] [(0, .ref h)] 55 [.ref q11, .ref h]
  refine gk_putF (w' := [(h, .inr (2, [.int 0, .int 0, .ref q2, .ref q3, .int 0, .int 0, .int 0, .ref q7, .ref q8, .ref q9, .ref q10, .ref q11])), (q2, .inl (cI, 4, .inl (fun _ => 0))), (q3, .inl (cI, 12, .inl (fun _ => 0))), (q7, .inl (cI, 16, .inl (fun _ => 0))), (q8, .inl (cI, 16, .inl (fun _ => 0))), (q9, .inl (cI, 51, .inl (fun _ => 0))), (q10, .inl (cI, 51, .inl (fun _ => 0))), (q11, .inl (cI, 4, .inl (fun _ => 0)))]) G hinX2 tyX2_ok nmX2 (q0 := 0) rfl rfl 11 (by decide) k28 rfl hnm rfl rfl rfl (Nat.le_of_ble_eq_true rfl) rfl dX2_init_55 ?_
  obtain ⟨q, hq⟩ : ∃ q : Nat → Nat, q = fun k => if k = 2 then q2 else if k = 3 then q3 else if k = 7 then q7 else if k = 8 then q8 else if k = 9 then q9 else if k = 10 then q10 else q11 := ⟨_, rfl⟩
  obtain rfl : q 2 = q2 := by rw [hq]; rfl
  obtain rfl : q 3 = q3 := by rw [hq]; rfl
  obtain rfl : q 7 = q7 := by rw [hq]; rfl
  obtain rfl : q 8 = q8 := by rw [hq]; rfl
  obtain rfl : q 9 = q9 := by rw [hq]; rfl
  obtain rfl : q 10 = q10 := by rw [hq]; rfl
  obtain rfl : q 11 = q11 := by rw [hq]; rfl
  clear hq
  suffices K9 : ∀ (F : Nat → Int32) (B : Nat → Nat → Int32) (f kp g : Nat → Int32), (∀ k, F k = 0) → (∀ k i, B k i = 0) → (∀ i, f i = 0) → gk_C p l e ({ frames := 1, cells := 7, slots := 154, locals := 20 } : Room) s m ([.ref h] : List Value).toArray below meth c 2 D A Q 7 154 (gd_W cI h q F B f kp g) [(0, .ref h)] 58 [] from K9 (fun _ => 0) (fun _ _ => 0) (fun _ => 0) (fun _ => 0) (fun _ => 0) (fun _ => rfl) (fun _ _ => rfl) (fun _ => rfl)
  intro F B f kp g hF0 hB0 hf0
  refine gk_iconst (v := nI 0) G dX2_init_58 (by decide) ?_
  refine gk_istore_n (lv' := [(1, .int (nI 0)), (0, .ref h)]) G dX2_init_59 rfl (by decide) rfl ?_
  have L60 : ∀ (n : Nat) (k : Nat) (B1 : Nat → Nat → Int32), 12 - k < n → (k ≤ 12) → (B1 = fun r i => if r = 3 ∧ i < k then 5 else 0) → gk_C p l e ({ frames := 1, cells := 7, slots := 154, locals := 20 } : Room) s m ([.ref h] : List Value).toArray below meth c 2 D A Q 7 154 (gd_W cI h q F B1 f kp g) [(0, .ref h), (1, .int (nI k))] 60 [] := by
    intro n
    induction n with
    | zero => intro k B1 h0; exact absurd h0 (Nat.not_lt_zero _)
    | succ n ih =>
      intro k B1 h0 w0 w1
      refine gk_iload_n G dX2_init_60 1 rfl ?_
      refine gk_bipush (v := nI 12) G dX2_init_61 (by decide) ?_
      refine gk_icmp_ge (tgt := 79) G dX2_init_63 (by decide) (fun c_63 => ?_) (fun c_63 => ?_)
      · replace c_63 := (nI_leI (a := 12) (b := k) (by omega) (by omega)).mp c_63
        exact RET _ _ _ _ _ (q, F, B1, f, kp, g) dX2_init_79 (gm_j1 hF0 hf0 (by rw [show 12 = k by omega]; exact w1)) rfl (Nat.le_of_ble_eq_true rfl) (Nat.le_of_ble_eq_true rfl)
      · replace c_63 := (not_congr (nI_leI (a := 12) (b := k) (by omega) (by omega))).mp c_63
        refine gk_aload_n G dX2_init_66 0 rfl ?_
        refine gk_get (v' := .ref (q 3)) G hinX2 (q0 := 0) rfl rfl 3 (by decide) k13 rfl rfl dX2_init_67 ?_
        refine gk_iload_n G dX2_init_70 1 rfl ?_
        refine gk_iconst (v := nI 5) G dX2_init_71 (by decide) ?_
        refine gk_topi (fun v72 ev72 => ?_)
        refine gk_iast (w' := (gd_W cI h q F (gc_up B1 3 (upd (B1 3) k v72)) f kp g)) G (q0 := 2) (t0 := 0) rfl rfl k rfl (by omega) (by decide) rfl dX2_init_72 ?_
        generalize eB72 : gc_up B1 3 (upd (B1 3) k v72) = B72
        refine gk_iinc (j := 1) (v := nI (k + 1)) (lv' := [(1, .int (nI (k + 1))), (0, .ref h)]) G dX2_init_73 rfl (nI_add k 1) (by decide) rfl ?_
        refine gk_goto (tgt := 60) G dX2_init_76 (by decide) ?_
        exact gk_lsub [1,0] rfl (ih (k + 1) B72 (by omega) (by omega) (gm_j0 eB72 ev72 w1))
  exact gk_lsub [1,0] rfl (L60 13 0 B (by omega) (by omega) (by funext r i; rw [hB0, if_neg (by omega)]))
