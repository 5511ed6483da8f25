/-! what of the reference's parts the class needs too -/
def gm_rg (p : Int32) (lo hi : Nat) : Prop := ∃ v, lo ≤ v ∧ v < hi ∧ p = nI v
def gm_plc (M : gm_M) (j : Nat) : Int32 := if M 8 j = 0 then nI (gm_cnt M j (M 11 0)) else -1
def gm_ru (M : gm_M) (r o : Nat) : gm_M := gm_set (gm_set M 14 0 r) 15 0 o
def gm_lw (M : gm_M) (r o : Nat) : Nat := gm_late (gm_hrs (gm_ru M r o) 200) 200 (M 11 0)
theorem gm_ru_ne (M : gm_M) (r o i : Nat) {k : Nat} (h4 : k ≠ 14) (h5 : k ≠ 15) : gm_ru M r o k i = M k i := by
  unfold gm_ru; rw [gm_set_k _ _ h5, gm_set_k _ _ h4]
theorem gm_late_le {M : gm_M} {o c : Nat} : ∀ n : Nat, (∀ i, i < n → M 8 i ≤ c) → gm_late M o n ≤ n * (o + c)
  | 0, _ => by show 0 ≤ _; exact Nat.zero_le _
  | n + 1, h => by
    have ih := gm_late_le (M := M) (o := o) (c := c) n (fun i hi => h i (Nat.lt_succ_of_lt hi))
    have hn := h n (Nat.lt_succ_self n)
    show gm_late M o n + (if M 8 n = 0 then o else M 8 n - 1 - M 6 n) ≤ _
    rw [Nat.add_mul, Nat.one_mul]
    split <;> omega
theorem gm_late_lt {M : gm_M} {o : Nat} (wf : gm_wf M) (ho : o ≤ 200) (hh : M 9 0 < 2000000) : gm_late M o (M 11 0) < 2 ^ 30 := by
  have h := gm_late_le (M := M) (o := o) (c := 2000000) (M 11 0) (fun i hi => by have := (wf.2.2.2.2.2.2.1 i hi).2.2.2.2.2.2; omega)
  have h16 := wf.2.1
  have : M 11 0 * (o + 2000000) ≤ 16 * (o + 2000000) := Nat.mul_le_mul_right _ h16
  omega
theorem gm_ru_wf {M : gm_M} {r o : Nat} (wf : gm_wf M) (hr : r ≤ 2) (ho : o ≤ 1) : gm_wf (gm_ru M r o) := by
  obtain ⟨w1, w2, w3, w4, w5, w6, w7, w8⟩ := wf
  have e : ∀ k i, k ≠ 14 → k ≠ 15 → gm_ru M r o k i = M k i := fun k i h1 h2 => gm_ru_ne M r o i h1 h2
  have e11 : gm_ru M r o 11 0 = M 11 0 := e 11 0 (by decide) (by decide)
  have e10 : gm_ru M r o 10 0 = M 10 0 := e 10 0 (by decide) (by decide)
  refine ⟨by rw [e10]; exact w1, by rw [e11]; exact w2, ?_, ?_, fun i hi => ?_, fun i hi => ?_, fun i hi => ?_, fun i j hi hj => ?_⟩
  · unfold gm_ru; rw [gm_set_k _ _ (by decide), gm_set_at]; exact hr
  · unfold gm_ru; rw [gm_set_at]; exact ho
  · rw [e 0 i (by decide) (by decide)]; exact w5 i hi
  · rw [e10] at hi; rw [e 1 i (by decide) (by decide)]; exact w6 i hi
  · rw [e11] at hi
    rw [e 4 i (by decide) (by decide), e 5 i (by decide) (by decide), e 6 i (by decide) (by decide), e 7 i (by decide) (by decide), e 8 i (by decide) (by decide), e10, e 9 0 (by decide) (by decide)]
    exact w7 i hi
  · rw [e11] at hi hj
    rw [e 7 i (by decide) (by decide), e 7 j (by decide) (by decide)]
    exact w8 i j hi hj
theorem gm_lw_lt {M : gm_M} {r o : Nat} (wf : gm_wf M) (hr : r ≤ 2) (ho : o ≤ 1) (hh : M 9 0 < 1999000) : gm_lw M r o < 2 ^ 30 := by
  have e11 : gm_hrs (gm_ru M r o) 200 11 0 = M 11 0 := (gm_hrs_ne _ 0 (by decide) (by decide) (by decide) (by decide) (by decide) (by decide) (by decide) 200).trans (gm_ru_ne M r o 0 (by decide) (by decide))
  have h := gm_late_lt (o := 200) (gm_hrs_wf (gm_ru_wf wf hr ho) 200) (Nat.le_refl _) (by rw [gm_hrs_9, gm_ru_ne M r o 0 (by decide) (by decide)]; omega)
  rw [e11] at h
  exact h
theorem gm_ru_rest {M : gm_M} {r o : Nat} (h : gm_rest M) : gm_rest (gm_ru M r o) := by
  intro i hi
  rw [gm_ru_ne _ _ _ _ (by decide) (by decide)] at hi
  rw [gm_ru_ne _ _ _ _ (by decide) (by decide), gm_ru_ne _ _ _ _ (by decide) (by decide)]
  exact h i hi
