/-! WHAT AN HOUR DOES: the law's checks, said of the store -/
def gp_ct (P : Nat → Prop) [DecidablePred P] : Nat → Nat
  | 0 => 0
  | k + 1 => gp_ct P k + (if P k then 1 else 0)
theorem gp_ct_le (P : Nat → Prop) [DecidablePred P] : ∀ n : Nat, gp_ct P n ≤ n
  | 0 => Nat.le_refl _
  | n + 1 => by
    have ih := gp_ct_le P n
    show gp_ct P n + (if P n then 1 else 0) ≤ n + 1
    split <;> omega
theorem gp_ct_mono {P R : Nat → Prop} [DecidablePred P] [DecidablePred R] : ∀ n : Nat, (∀ k, k < n → P k → R k) → gp_ct P n ≤ gp_ct R n
  | 0, _ => Nat.le_refl _
  | n + 1, h => by
    have ih := gp_ct_mono n (fun k hk => h k (Nat.lt_succ_of_lt hk))
    show gp_ct P n + (if P n then 1 else 0) ≤ gp_ct R n + (if R n then 1 else 0)
    by_cases hp : P n
    · rw [if_pos hp, if_pos (h n (Nat.lt_succ_self n) hp)]; omega
    · rw [if_neg hp]; omega
theorem gp_ct_one {P R : Nat → Prop} [DecidablePred P] [DecidablePred R] {j : Nat} (hR : R j) (hP : ¬ P j) : ∀ n : Nat, j < n → (∀ k, k < n → P k → R k) → gp_ct P n + 1 ≤ gp_ct R n
  | 0, hj, _ => absurd hj (Nat.not_lt_zero _)
  | n + 1, hj, h => by
    show gp_ct P n + (if P n then 1 else 0) + 1 ≤ gp_ct R n + (if R n then 1 else 0)
    by_cases hjn : j = n
    · subst hjn
      have ih := gp_ct_mono (P := P) (R := R) j (fun k hk => h k (Nat.lt_succ_of_lt hk))
      rw [if_neg hP, if_pos hR]; omega
    · have ih := gp_ct_one hR hP n (by omega) (fun k hk => h k (Nat.lt_succ_of_lt hk))
      by_cases hp : P n
      · rw [if_pos hp, if_pos (h n (Nat.lt_succ_self n) hp)]; omega
      · rw [if_neg hp]; omega
theorem gp_ct_pos {P : Nat → Prop} [DecidablePred P] : ∀ n : Nat, 0 < gp_ct P n → ∃ k, k < n ∧ P k
  | 0, h => absurd h (Nat.not_lt_zero _)
  | n + 1, h => by
    have hu : gp_ct P (n + 1) = gp_ct P n + (if P n then 1 else 0) := rfl
    by_cases hp : P n
    · exact ⟨n, Nat.lt_succ_self n, hp⟩
    · rw [hu, if_neg hp] at h
      obtain ⟨k, a, b⟩ := gp_ct_pos n (by omega)
      exact ⟨k, by omega, b⟩
/-! the amounts -/
theorem gp_grd_9 {b : Nat} {X : gm_M} (h : ∀ i, i < X 10 0 → X 1 i ≤ 9) : ∀ m : Nat, m ≤ X 10 0 → gm_grd b X m 16 0 ≤ X 16 0 + 9 * m
  | 0, _ => Nat.le_refl _
  | m + 1, hm => by
    have ih := gp_grd_9 (b := b) h m (by omega)
    have h1 : gm_grd b X m 1 m = X 1 m := gm_grd_ne b X m (by decide) (by decide) m
    have h9 := h m (by omega)
    show gm_gs b (gm_grd b X m) m 16 0 ≤ _
    by_cases hw : gm_who (gm_grd b X m) m (gm_grd b X m 11 0) = 0
    · rw [gm_gs_0 hw]; omega
    · rw [gm_gs_1 hw, gm_les_16]
      unfold gm_amt
      omega
/-- of what is left of a sack: nothing yet where its stone's turn comes later; at most nine -/
theorem gp_grd_5 {b : Nat} {X : gm_M} (h : ∀ i, i < X 10 0 → X 1 i ≤ 9) : ∀ m : Nat, m ≤ X 10 0 → ∀ j, (X 7 j = 0 ∨ m < X 7 j → gm_grd b X m 5 j = X 5 j) ∧ gm_grd b X m 5 j ≤ X 5 j ∧ X 5 j ≤ gm_grd b X m 5 j + 9
  | 0, _, j => ⟨fun _ => rfl, Nat.le_refl _, Nat.le_add_right _ _⟩
  | m + 1, hm, j => by
    obtain ⟨i1, i2, i3⟩ := gp_grd_5 (b := b) h m (by omega) j
    have h1 : gm_grd b X m 1 m = X 1 m := gm_grd_ne b X m (by decide) (by decide) m
    have h9 := h m (by omega)
    show (_ → gm_gs b (gm_grd b X m) m 5 j = X 5 j) ∧ gm_gs b (gm_grd b X m) m 5 j ≤ X 5 j ∧ X 5 j ≤ gm_gs b (gm_grd b X m) m 5 j + 9
    by_cases hw : gm_who (gm_grd b X m) m (gm_grd b X m 11 0) = 0
    · rw [gm_gs_0 hw]; exact ⟨fun q => i1 (by omega), i2, i3⟩
    · have hon := gm_who_on _ hw
      rw [gm_grd_ne b X _ (by decide) (by decide) m] at hon
      rw [gm_gs_1 hw, gm_les_5]
      by_cases hj : j = gm_who (gm_grd b X m) m (gm_grd b X m 11 0) - 1
      · rw [if_pos hj, ← hj]
        rw [← hj] at hon
        have e5 := i1 (Or.inr (by omega))
        have ha : gm_amt b (gm_grd b X m) m j ≤ 9 := by unfold gm_amt; omega
        refine ⟨fun q => ?_, ?_, ?_⟩ <;> omega
      · rw [if_neg hj]; exact ⟨fun q => i1 (by omega), i2, i3⟩
theorem gp_sum_les {X : gm_M} {s a : Nat} (h : a ≤ X 5 s) : ∀ n : Nat, (s < n → gm_sum (gm_les X s a) n + a = gm_sum X n) ∧ (n ≤ s → gm_sum (gm_les X s a) n = gm_sum X n)
  | 0 => ⟨fun q => absurd q (Nat.not_lt_zero _), fun _ => rfl⟩
  | n + 1 => by
    obtain ⟨i1, i2⟩ := gp_sum_les h n
    show (s < n + 1 → gm_sum (gm_les X s a) n + gm_les X s a 5 n + a = gm_sum X n + X 5 n) ∧ (n + 1 ≤ s → gm_sum (gm_les X s a) n + gm_les X s a 5 n = gm_sum X n + X 5 n)
    rw [gm_les_5]
    refine ⟨fun q => ?_, fun q => ?_⟩
    · by_cases hn : n = s
      · have := i2 (by omega)
        rw [if_pos hn, this, hn]; omega
      · have := i1 (by omega)
        rw [if_neg hn]; omega
    · have := i2 (by omega)
      rw [if_neg (by omega)]; omega
theorem gp_grd_sum {b : Nat} {X : gm_M} : ∀ m : Nat, gm_sum (gm_grd b X m) (X 11 0) + gm_grd b X m 16 0 = gm_sum X (X 11 0) + X 16 0
  | 0 => rfl
  | m + 1 => by
    have ih := gp_grd_sum (b := b) (X := X) m
    have e11 : gm_grd b X m 11 0 = X 11 0 := gm_grd_ne b X 0 (by decide) (by decide) m
    have hl := gm_who_le (gm_grd b X m) m (gm_grd b X m 11 0)
    show gm_sum (gm_gs b (gm_grd b X m) m) (X 11 0) + gm_gs b (gm_grd b X m) m 16 0 = _
    by_cases hw : gm_who (gm_grd b X m) m (gm_grd b X m 11 0) = 0
    · rw [gm_gs_0 hw]; exact ih
    · rw [gm_gs_1 hw, gm_les_16]
      have := (gp_sum_les (X := gm_grd b X m) (s := gm_who (gm_grd b X m) m (gm_grd b X m 11 0) - 1) (a := gm_amt b (gm_grd b X m) m (gm_who (gm_grd b X m) m (gm_grd b X m 11 0) - 1)) (by unfold gm_amt; omega) (X 11 0)).1 (by omega)
      omega
theorem gp_sum_congr {M X : gm_M} : ∀ n : Nat, (∀ k, k < n → X 5 k = M 5 k) → gm_sum X n = gm_sum M n
  | 0, _ => rfl
  | n + 1, h => by
    show gm_sum X n + X 5 n = gm_sum M n + M 5 n
    rw [gp_sum_congr n (fun k hk => h k (Nat.lt_succ_of_lt hk)), h n (Nat.lt_succ_self n)]
theorem gp_hour_5 (M : gm_M) (j : Nat) : gm_hour M 5 j = gm_h2 M 5 j := (gm_fnp_ne _ _ j (by decide) (by decide)).trans (gm_inc_ne _ j (by decide))
theorem gp_h1_1 {M : gm_M} (wf : gm_wf M) : ∀ i, i < gm_h1 M 10 0 → gm_h1 M 1 i ≤ 9 := by
  intro i hi
  rw [gm_h1_ne M 0 (by decide) (by decide) (by decide)] at hi
  rw [gm_h1_ne M i (by decide) (by decide) (by decide)]
  exact (wf.2.2.2.2.2.1 i hi).2
theorem gp_less {M : gm_M} (wf : gm_wf M) (j : Nat) : gm_hour M 5 j ≤ M 5 j ∧ M 5 j ≤ gm_hour M 5 j + 9 := by
  rw [gp_hour_5]
  have h := gp_grd_5 (b := M 16 0 + gm_wnd M) (gp_h1_1 wf) (M 10 0) (by rw [gm_h1_ne M 0 (by decide) (by decide) (by decide)]; exact Nat.le_refl _) j
  rw [gm_h1_ne M j (k := 5) (by decide) (by decide) (by decide)] at h
  exact h.2
theorem gp_ground9 {M : gm_M} (wf : gm_wf M) : gm_hour M 16 0 ≤ M 16 0 + 9 * M 10 0 := by
  rw [gm_hour_16]
  have h := gp_grd_9 (b := M 16 0 + gm_wnd M) (gp_h1_1 wf) (M 10 0) (by rw [gm_h1_ne M 0 (by decide) (by decide) (by decide)]; exact Nat.le_refl _)
  rw [gm_h1_ne M 0 (by decide) (by decide) (by decide)] at h
  exact h
theorem gp_ground_sum (M : gm_M) : gm_sum (gm_hour M) (M 11 0) + gm_hour M 16 0 = gm_sum M (M 11 0) + M 16 0 := by
  rw [gm_hour_16]
  have h := gp_grd_sum (b := M 16 0 + gm_wnd M) (X := gm_h1 M) (M 10 0)
  rw [gm_h1_ne M 0 (k := 11) (by decide) (by decide) (by decide), gm_h1_ne M 0 (k := 16) (by decide) (by decide) (by decide)] at h
  rw [gp_sum_congr (M := gm_h2 M) _ (fun k _ => gp_hour_5 M k)]
  rw [gp_sum_congr (M := M) (X := gm_h1 M) _ (fun k _ => gm_h1_ne M k (by decide) (by decide) (by decide))] at h
  exact h
/-- what sacks have less, added -/
def gp_dif (M X : gm_M) : Nat → Nat
  | 0 => 0
  | k + 1 => gp_dif M X k + (M 5 k - X 5 k)
theorem gp_dif_sum {M X : gm_M} : ∀ n : Nat, (∀ k, k < n → X 5 k ≤ M 5 k) → gp_dif M X n + gm_sum X n = gm_sum M n
  | 0, _ => rfl
  | n + 1, h => by
    have ih := gp_dif_sum n (fun k hk => h k (Nat.lt_succ_of_lt hk))
    have hn := h n (Nat.lt_succ_self n)
    show gp_dif M X n + (M 5 n - X 5 n) + (gm_sum X n + X 5 n) = gm_sum M n + M 5 n
    omega
theorem gp_dif_hour {M : gm_M} (wf : gm_wf M) : gp_dif M (gm_hour M) (M 11 0) = gm_hour M 16 0 - M 16 0 := by
  have h1 := gp_dif_sum (M := M) (X := gm_hour M) (M 11 0) (fun k _ => (gp_less wf k).1)
  have h2 := gp_ground_sum M
  omega
/-! how often a stone got a sack -/
theorem gp_fil_13 (X : gm_M) : ∀ m : Nat, X 13 0 ≤ gm_fil X m 13 0 ∧ gm_fil X m 13 0 ≤ X 13 0 + m
  | 0 => ⟨Nat.le_refl _, Nat.le_refl _⟩
  | m + 1 => by
    have ih := gp_fil_13 X m
    show X 13 0 ≤ gm_fs (gm_fil X m) m 13 0 ∧ gm_fs (gm_fil X m) m 13 0 ≤ X 13 0 + (m + 1)
    rcases gm_fs_cases (gm_fil X m) m with ⟨_, _, h⟩ | ⟨_, h⟩
    · rw [h, gm_set_k _ _ (by decide), gm_put_13]; omega
    · rw [h, gm_set_k _ _ (by decide)]; omega
theorem gp_hour_13 (M : gm_M) : M 13 0 ≤ gm_hour M 13 0 ∧ gm_hour M 13 0 ≤ M 13 0 + M 10 0 := by
  have e : gm_hour M 13 0 = gm_h1 M 13 0 := (gm_fnp_ne _ _ 0 (by decide) (by decide)).trans ((gm_inc_ne _ 0 (by decide)).trans (gm_grd_ne _ _ 0 (by decide) (by decide) _))
  have h := gp_fil_13 (gm_tk M) (M 10 0)
  rw [gm_tk_ne M 0 (k := 13) (by decide)] at h
  rw [e]; exact h
theorem gp_hrs_13 {M : gm_M} (h10 : M 10 0 ≤ 4) : ∀ n : Nat, gm_hrs M n 13 0 ≤ M 13 0 + 4 * n
  | 0 => Nat.le_refl _
  | n + 1 => by
    have ih := gp_hrs_13 h10 n
    have h := (gp_hour_13 (gm_hrs M n)).2
    rw [gm_hrs_ne M 0 (k := 10) (by decide) (by decide) (by decide) (by decide) (by decide) (by decide) (by decide) n] at h
    show gm_hour (gm_hrs M n) 13 0 ≤ _
    omega
/-! who is ground -/
theorem gp_hour_8 {M : gm_M} (wf : gm_wf M) {j : Nat} (hj : j < M 11 0) : (M 8 j ≠ 0 → gm_hour M 8 j = M 8 j) ∧ (M 8 j = 0 → gm_hour M 8 j = 0 ∨ gm_hour M 8 j = M 9 0 + 2) := by
  have e8 : gm_inc (gm_h2 M) 8 j = M 8 j := (gm_inc_ne _ j (by decide)).trans (gm_h2_ne M j (by decide) (by decide) (by decide) (by decide) (by decide))
  have e9 : gm_inc (gm_h2 M) 9 0 = M 9 0 + 1 := by rw [gm_inc_9, gm_h2_ne M 0 (by decide) (by decide) (by decide) (by decide) (by decide)]
  have e11 : gm_inc (gm_h2 M) 11 0 = M 11 0 := (gm_inc_ne _ 0 (by decide)).trans (gm_h2_ne M 0 (by decide) (by decide) (by decide) (by decide) (by decide))
  have w7 := (gm_inc_wf (gm_h2_wf wf)).2.2.2.2.2.2.1 j (by omega)
  have hu : gm_hour M 8 j = if j < M 11 0 ∧ gm_inc (gm_h2 M) 7 j ≠ 0 ∧ gm_inc (gm_h2 M) 5 j = 0 then gm_inc (gm_h2 M) 9 0 + 1 else gm_inc (gm_h2 M) 8 j := gm_fnp_8 _ _ j
  rw [hu, e8, e9]
  refine ⟨fun h => ?_, fun h => ?_⟩
  · rw [if_neg (fun q => q.2.1 (w7.2.2.2.2.2.1 (by rw [e8]; exact h)).1)]
  · split
    · exact Or.inr rfl
    · exact Or.inl h
theorem gp_hrs_8 {M : gm_M} (wf : gm_wf M) {j : Nat} (hj : j < M 11 0) (h : M 8 j ≠ 0) : ∀ n : Nat, gm_hrs M n 8 j = M 8 j
  | 0 => rfl
  | n + 1 => by
    have ih := gp_hrs_8 wf hj h n
    have e11 : gm_hrs M n 11 0 = M 11 0 := gm_hrs_ne M 0 (by decide) (by decide) (by decide) (by decide) (by decide) (by decide) (by decide) n
    show gm_hour (gm_hrs M n) 8 j = _
    rw [(gp_hour_8 (gm_hrs_wf wf n) (by omega)).1 (by rw [ih]; exact h), ih]
/-- no rule loses fewer hours than are late now -/
theorem gp_late_mono {M X : gm_M} {o : Nat} : ∀ n : Nat, (∀ k, k < n → M 8 k ≠ 0 → X 8 k = M 8 k) → (∀ k, k < n → X 6 k = M 6 k) → gm_late M 0 n ≤ gm_late X o n
  | 0, _, _ => Nat.le_refl _
  | n + 1, h8, h6 => by
    have ih := gp_late_mono (o := o) n (fun k hk => h8 k (Nat.lt_succ_of_lt hk)) (fun k hk => h6 k (Nat.lt_succ_of_lt hk))
    show gm_late M 0 n + (if M 8 n = 0 then 0 else M 8 n - 1 - M 6 n) ≤ gm_late X o n + (if X 8 n = 0 then o else X 8 n - 1 - X 6 n)
    by_cases h : M 8 n = 0
    · rw [if_pos h]; omega
    · have e8 := h8 n (Nat.lt_succ_self n) h
      rw [if_neg h, e8, if_neg h, h6 n (Nat.lt_succ_self n)]; omega
theorem gp_late_lw {M : gm_M} (wf : gm_wf M) {r o : Nat} (hr : r ≤ 2) (ho : o ≤ 1) : gm_late M 0 (M 11 0) ≤ gm_lw M r o := by
  unfold gm_lw
  refine gp_late_mono _ (fun k hk h => ?_) (fun k _ => ?_)
  · rw [gp_hrs_8 (gm_ru_wf wf hr ho) (by rw [gm_ru_ne M r o 0 (by decide) (by decide)]; exact hk) (by rw [gm_ru_ne M r o k (by decide) (by decide)]; exact h), gm_ru_ne M r o k (by decide) (by decide)]
  · rw [gm_hrs_ne _ k (by decide) (by decide) (by decide) (by decide) (by decide) (by decide) (by decide) 200, gm_ru_ne M r o k (by decide) (by decide)]
/-! a sack that is free: then every stone has got one -/
theorem gp_fil_full {Y : gm_M} {j : Nat} (hj : j < Y 11 0) (h8 : Y 8 j = 0) : ∀ m : Nat, gm_fil Y m 7 j = 0 → ∀ i, i < m → ∃ x, x < Y 11 0 ∧ gm_fil Y m 7 x = i + 1
  | 0, _, i, hi => absurd hi (Nat.not_lt_zero _)
  | m + 1, h7, i, hi => by
    have e11 : gm_fil Y m 11 0 = Y 11 0 := gm_fil_ne Y 0 (by decide) (by decide) (by decide) m
    have e8 : gm_fil Y m 8 j = 0 := (gm_fil_ne Y j (by decide) (by decide) (by decide) m).trans h8
    have hl := gm_who_le (gm_fil Y m) m (gm_fil Y m 11 0)
    have hu : gm_fil Y (m + 1) = gm_fs (gm_fil Y m) m := rfl
    rcases gm_fs_cases (gm_fil Y m) m with ⟨a1, a2, a3⟩ | ⟨a1, a3⟩
    · have hn := gm_nxt_ok _ a2
      have hnl := gm_nxt_le (gm_fil Y m) 1 (gm_fil Y m 11 0)
      have e7 : ∀ x, gm_fil Y (m + 1) 7 x = if x = gm_nxt (gm_fil Y m) 1 (gm_fil Y m 11 0) - 1 then m + 1 else gm_fil Y m 7 x := fun x => by rw [hu, a3, gm_set_k _ _ (by decide), gm_put_7]
      rcases Nat.lt_succ_iff_lt_or_eq.mp hi with g | g
      · have h7' : gm_fil Y m 7 j = 0 := by
          rw [e7] at h7
          split at h7
          · omega
          · exact h7
        obtain ⟨x, b1, b2⟩ := gp_fil_full hj h8 m h7' i g
        refine ⟨x, b1, ?_⟩
        rw [e7, if_neg (fun q => by rw [q] at b2; have := hn.2.resolve_left (by decide); omega)]
        exact b2
      · exact ⟨gm_nxt (gm_fil Y m) 1 (gm_fil Y m 11 0) - 1, by omega, by rw [e7, if_pos rfl, g]⟩
    · have e7 : ∀ x, gm_fil Y (m + 1) 7 x = gm_fil Y m 7 x := fun x => by rw [hu, a3, gm_set_k _ _ (by decide)]
      have h7' : gm_fil Y m 7 j = 0 := by rw [← e7]; exact h7
      rcases Nat.lt_succ_iff_lt_or_eq.mp hi with g | g
      · obtain ⟨x, b1, b2⟩ := gp_fil_full hj h8 m h7' i g
        exact ⟨x, b1, by rw [e7]; exact b2⟩
      · have hw : gm_who (gm_fil Y m) m (gm_fil Y m 11 0) ≠ 0 := by
          rcases a1 with a1 | a1
          · exact a1
          · exact (gp_nxt_no _ a1 j (by omega) e8 (Or.inr h7')).elim
        have hon := gm_who_on _ hw
        exact ⟨gm_who (gm_fil Y m) m (gm_fil Y m 11 0) - 1, by omega, by rw [e7, g]; exact hon⟩
theorem gp_empty {M : gm_M} (wf : gm_wf M) (hfree : 0 < gp_ct (fun k => gm_hour M 8 k = 0 ∧ gm_hour M 7 k = 0) (M 11 0)) : gp_ct (fun i => gm_who (gm_hour M) i (M 11 0) = 0) (M 10 0) ≤ gp_ct (fun k => gm_hour M 8 k = M 9 0 + 2) (M 11 0) := by
  obtain ⟨j, hj, h8, h7⟩ := gp_ct_pos _ hfree
  have e9 : gm_inc (gm_h2 M) 9 0 = M 9 0 + 1 := by rw [gm_inc_9, gm_h2_ne M 0 (by decide) (by decide) (by decide) (by decide) (by decide)]
  have e7 : ∀ x, gm_inc (gm_h2 M) 7 x = gm_h1 M 7 x := fun x => (gm_inc_ne _ x (by decide)).trans (gm_grd_ne _ _ x (by decide) (by decide) _)
  have u8 : ∀ x, gm_hour M 8 x = if x < M 11 0 ∧ gm_inc (gm_h2 M) 7 x ≠ 0 ∧ gm_inc (gm_h2 M) 5 x = 0 then gm_inc (gm_h2 M) 9 0 + 1 else gm_inc (gm_h2 M) 8 x := fun x => gm_fnp_8 _ _ x
  have u7 : ∀ x, gm_hour M 7 x = if x < M 11 0 ∧ gm_inc (gm_h2 M) 7 x ≠ 0 ∧ gm_inc (gm_h2 M) 5 x = 0 then 0 else gm_inc (gm_h2 M) 7 x := fun x => gm_fnp_7 _ _ x
  have hc : ¬ (j < M 11 0 ∧ gm_inc (gm_h2 M) 7 j ≠ 0 ∧ gm_inc (gm_h2 M) 5 j = 0) := fun q => by rw [u8, if_pos q] at h8; omega
  rw [u7, if_neg hc, e7] at h7
  have h80 : gm_tk M 8 j = 0 := by
    rw [u8, if_neg hc] at h8
    rw [gm_tk_ne M j (by decide)]
    rw [show gm_inc (gm_h2 M) 8 j = M 8 j from (gm_inc_ne _ j (by decide)).trans (gm_h2_ne M j (by decide) (by decide) (by decide) (by decide) (by decide))] at h8
    exact h8
  have e11 : gm_tk M 11 0 = M 11 0 := gm_tk_ne M 0 (by decide)
  have full := gp_fil_full (Y := gm_tk M) (j := j) (by omega) h80 (M 10 0) h7
  have key : ∀ i, i ≤ M 10 0 → gp_ct (fun i => gm_who (gm_hour M) i (M 11 0) = 0) i ≤ gp_ct (fun k => gm_hour M 8 k = M 9 0 + 2 ∧ gm_h1 M 7 k ≠ 0 ∧ gm_h1 M 7 k ≤ i) (M 11 0) := by
    intro i
    induction i with
    | zero => intro _; exact Nat.zero_le _
    | succ i ih =>
      intro hi
      have h1 := ih (by omega)
      have hm : gp_ct (fun k => gm_hour M 8 k = M 9 0 + 2 ∧ gm_h1 M 7 k ≠ 0 ∧ gm_h1 M 7 k ≤ i) (M 11 0) ≤ gp_ct (fun k => gm_hour M 8 k = M 9 0 + 2 ∧ gm_h1 M 7 k ≠ 0 ∧ gm_h1 M 7 k ≤ i + 1) (M 11 0) := gp_ct_mono _ (fun k _ q => ⟨q.1, q.2.1, by omega⟩)
      show gp_ct (fun i => gm_who (gm_hour M) i (M 11 0) = 0) i + (if gm_who (gm_hour M) i (M 11 0) = 0 then 1 else 0) ≤ _
      by_cases hw : gm_who (gm_hour M) i (M 11 0) = 0
      · rw [if_pos hw]
        obtain ⟨x, b1, b2⟩ := full i (by omega)
        have b3 : gm_h1 M 7 x = i + 1 := b2
        have hx : x < M 11 0 ∧ gm_inc (gm_h2 M) 7 x ≠ 0 ∧ gm_inc (gm_h2 M) 5 x = 0 := by
          refine Decidable.byContradiction (fun q => ?_)
          have := gm_who_no _ hw x (by omega)
          rw [u7, if_neg q, e7] at this
          exact this b3
        have h8x : gm_hour M 8 x = M 9 0 + 2 := by rw [u8, if_pos hx, e9]
        have := gp_ct_one (P := fun k => gm_hour M 8 k = M 9 0 + 2 ∧ gm_h1 M 7 k ≠ 0 ∧ gm_h1 M 7 k ≤ i) (R := fun k => gm_hour M 8 k = M 9 0 + 2 ∧ gm_h1 M 7 k ≠ 0 ∧ gm_h1 M 7 k ≤ i + 1) (j := x) ⟨h8x, by omega, by omega⟩ (fun q => by have := q.2.2; omega) (M 11 0) (by omega) (fun k _ q => ⟨q.1, q.2.1, by omega⟩)
        omega
      · rw [if_neg hw]; omega
  refine Nat.le_trans (key (M 10 0) (Nat.le_refl _)) ?_
  exact gp_ct_mono _ (fun k _ q => q.1)
/-! bakers' grain -/
def gp_bk (M : gm_M) (n : Nat) : Nat → Nat
  | 0 => 0
  | b + 1 => gp_bk M n b + gm_rst M b n
theorem gp_bk_succ (M : gm_M) (n : Nat) : ∀ b : Nat, gp_bk M (n + 1) b = gp_bk M n b + (if M 4 n < b then M 5 n else 0)
  | 0 => rfl
  | b + 1 => by
    have ih := gp_bk_succ M n b
    show gp_bk M (n + 1) b + (gm_rst M b n + (if M 4 n = b then M 5 n else 0)) = gp_bk M n b + gm_rst M b n + (if M 4 n < b + 1 then M 5 n else 0)
    rw [ih]
    by_cases h1 : M 4 n < b
    · rw [if_pos h1, if_neg (by omega), if_pos (by omega)]; omega
    · by_cases h2 : M 4 n = b
      · rw [if_neg h1, if_pos h2, if_pos (by omega)]; omega
      · rw [if_neg h1, if_neg h2, if_neg (by omega)]; omega
theorem gp_bk_0 (M : gm_M) : ∀ b : Nat, gp_bk M 0 b = 0
  | 0 => rfl
  | b + 1 => by
    show gp_bk M 0 b + 0 = 0
    rw [gp_bk_0 M b]
theorem gp_bk_le (M : gm_M) : ∀ n b : Nat, gp_bk M n b ≤ gm_sum M n
  | 0, b => by rw [gp_bk_0]; exact Nat.le_refl _
  | n + 1, b => by
    have ih := gp_bk_le M n b
    rw [gp_bk_succ]
    show _ ≤ gm_sum M n + M 5 n
    split <;> omega
theorem gp_bk_all {M : gm_M} : ∀ n : Nat, (∀ k, k < n → M 4 k ≤ 7) → gp_bk M n 8 = gm_sum M n
  | 0, _ => gp_bk_0 M 8
  | n + 1, h => by
    have ih := gp_bk_all n (fun k hk => h k (Nat.lt_succ_of_lt hk))
    have h4 := h n (Nat.lt_succ_self n)
    rw [gp_bk_succ, if_pos (by omega), ih]
    rfl
/-! whose turn it is -/
theorem gp_gct_full {M : gm_M} : ∀ n : Nat, (∀ i, i < n → M 8 i ≠ 0) → gm_gct M n = n
  | 0, _ => rfl
  | n + 1, h => by
    show gm_gct M n + (if M 8 n = 0 then 0 else 1) = n + 1
    rw [gp_gct_full n (fun i hi => h i (Nat.lt_succ_of_lt hi)), if_neg (h n (Nat.lt_succ_self n))]
theorem gp_first_no {M : gm_M} (n : Nat) : gm_nxt M 0 n = 0 ↔ gm_gct M n = n := by
  constructor
  · intro h
    exact gp_gct_full n (fun i hi q => gp_nxt_no n h i hi q (Or.inl rfl))
  · intro h
    exact gm_nxt_all n (gm_gct_all n (by omega))
theorem gp_first_is {M : gm_M} {n j : Nat} (hn : n ≤ 16) (hj : j < n) (h8 : M 8 j = 0) (h0 : gm_cnt M j n = 0) : gm_nxt M 0 n = j + 1 := by
  refine gp_nxt_is hn hj h8 (Or.inl rfl) (fun i hi g8 _ => Nat.le_of_not_lt (fun q => ?_))
  have := gp_cnt_str q g8 n hi
  omega
/-- of two sacks, the one with the smaller number ahead: as the law says it -/
theorem gp_ahead {M : gm_M} (h14 : M 14 0 ≤ 2) {i k n : Nat} (hik : i < k) (hk : k < n) (hn : n ≤ 16) (h8 : M 8 i = 0) (h9 : M 8 k = 0) :
    gm_cnt M i n < gm_cnt M k n ↔ (if M 14 0 = 1 ∧ M 6 i ≠ M 6 k then M 6 i < M 6 k else M 14 0 ≠ 2 ∨ M 5 i ≤ M 5 k) := by
  rw [gp_cnt_iff (by omega) hk hn h8 h9]
  unfold gm_trn
  by_cases h1 : M 14 0 = 1
  · have ky : ∀ x, gm_key M x = M 6 x := fun x => by unfold gm_key; rw [if_neg (by omega), if_pos h1]
    rw [ky, ky]
    by_cases h6 : M 6 i = M 6 k
    · rw [if_neg (fun q => q.2 h6)]
      constructor
      · intro _; exact Or.inl (by omega)
      · intro _; omega
    · rw [if_pos ⟨h1, h6⟩]
      omega
  · rw [if_neg (fun q => h1 (And.left q))]
    by_cases h0 : M 14 0 = 0
    · have ky : ∀ x, gm_key M x = 0 := fun x => by unfold gm_key; rw [if_pos h0]
      rw [ky, ky]
      constructor
      · intro _; exact Or.inl (by omega)
      · intro _; omega
    · have ky : ∀ x, gm_key M x = M 5 x := fun x => by unfold gm_key; rw [if_neg h0, if_neg h1]
      rw [ky, ky]
      constructor
      · intro q; exact Or.inr (by omega)
      · intro q
        rcases q with q | q
        · exact absurd (by omega) q
        · omega
