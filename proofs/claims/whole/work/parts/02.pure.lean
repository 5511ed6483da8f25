/-! THE MILL AS A MATHEMATICAL VALUE: a store M of numbers, M k i; what class and reference compute, said once.
0 wind, 1 size, 3 fresh, 4 baker, 5 left, 6 until, 7 on (stone + 1, or 0), 8 done (hour + 1, or 0), 9 hour, 10 stones, 11 sacks, 13 changes, 14 rule, 15 taking off, 16 ground in all -/
abbrev gm_M : Type := Nat → Nat → Nat
def gm_set (M : gm_M) (k i v : Nat) : gm_M := fun k' i' => if k' = k ∧ i' = i then v else M k' i'
def gm_e (n : Nat) : Int32 := nI n + (-1)
def gm_b (P : Prop) [Decidable P] : Int32 := if P then 1 else 0
def gm_key (M : gm_M) (s : Nat) : Nat := if M 14 0 = 0 then 0 else if M 14 0 = 1 then M 6 s else M 5 s
def gm_trn (M : gm_M) (s : Nat) : Nat := 16 * gm_key M s + s
def gm_cnt (M : gm_M) (s : Nat) : Nat → Nat
  | 0 => 0
  | k + 1 => gm_cnt M s k + (if M 8 k = 0 ∧ gm_trn M k < gm_trn M s then 1 else 0)
def gm_nxt (M : gm_M) (f : Nat) : Nat → Nat
  | 0 => 0
  | k + 1 => if M 8 k = 0 ∧ (f = 0 ∨ M 7 k = 0) ∧ (gm_nxt M f k = 0 ∨ gm_trn M k < gm_trn M (gm_nxt M f k - 1)) then k + 1 else gm_nxt M f k
def gm_who (M : gm_M) (m : Nat) : Nat → Nat
  | 0 => 0
  | k + 1 => if gm_who M m k ≠ 0 then gm_who M m k else if M 7 k = m + 1 then k + 1 else 0
/-- taking off, of the first n sacks; of the first m stones -/
def gm_tkp (M : gm_M) (n : Nat) : gm_M := fun k i => if k = 7 ∧ i < n ∧ M 10 0 ≤ gm_cnt M i (M 11 0) then 0 else M k i
def gm_tkc (M : gm_M) (m : Nat) : gm_M := fun k i => if k = 7 ∧ M 7 i ≤ m ∧ M 10 0 ≤ gm_cnt M i (M 11 0) then 0 else M k i
def gm_clr (M : gm_M) (m : Nat) : gm_M := fun k i => if k = 7 ∧ M 7 i = m + 1 then 0 else M k i
def gm_fs (X : gm_M) (m : Nat) : gm_M :=
  if gm_who X m (X 11 0) = 0 then
    (if gm_nxt X 1 (X 11 0) = 0 then gm_set X 3 m 0 else gm_set (gm_set (gm_set X 7 (gm_nxt X 1 (X 11 0) - 1) (m + 1)) 13 0 (X 13 0 + 1)) 3 m 1)
  else gm_set X 3 m 0
def gm_fil (M : gm_M) : Nat → gm_M
  | 0 => M
  | m + 1 => gm_fs (gm_fil M m) m
def gm_amt (b : Nat) (X : gm_M) (m s : Nat) : Nat := min (min (X 1 m - X 3 m) (X 5 s)) (b - X 16 0)
def gm_gs (b : Nat) (X : gm_M) (m : Nat) : gm_M :=
  if gm_who X m (X 11 0) = 0 then X
  else gm_set (gm_set X 5 (gm_who X m (X 11 0) - 1) (X 5 (gm_who X m (X 11 0) - 1) - gm_amt b X m (gm_who X m (X 11 0) - 1))) 16 0 (X 16 0 + gm_amt b X m (gm_who X m (X 11 0) - 1))
def gm_grd (b : Nat) (M : gm_M) : Nat → gm_M
  | 0 => M
  | m + 1 => gm_gs b (gm_grd b M m) m
/-- the sacks of which nothing is left leave their stones, of the first n sacks; of the first m stones -/
def gm_fnp (X : gm_M) (n : Nat) : gm_M := fun k i => if (k = 8 ∨ k = 7) ∧ i < n ∧ X 7 i ≠ 0 ∧ X 5 i = 0 then (if k = 8 then X 9 0 + 1 else 0) else X k i
def gm_fnc (X : gm_M) (m : Nat) : gm_M := fun k i => if (k = 8 ∨ k = 7) ∧ X 7 i ≠ 0 ∧ X 7 i ≤ m ∧ X 5 i = 0 then (if k = 8 then X 9 0 + 1 else 0) else X k i
def gm_tk (M : gm_M) : gm_M := if M 15 0 = 0 then M else gm_tkp M (M 11 0)
def gm_wnd (M : gm_M) : Nat := M 0 (M 9 0 % 12)
def gm_inc (M : gm_M) : gm_M := gm_set M 9 0 (M 9 0 + 1)
def gm_h1 (M : gm_M) : gm_M := gm_fil (gm_tk M) (M 10 0)
def gm_h2 (M : gm_M) : gm_M := gm_grd (M 16 0 + gm_wnd M) (gm_h1 M) (M 10 0)
def gm_hour (M : gm_M) : gm_M := gm_fnp (gm_inc (gm_h2 M)) (M 11 0)
def gm_hrs (M : gm_M) : Nat → gm_M
  | 0 => M
  | n + 1 => gm_hour (gm_hrs M n)
/-- how many are ground -/
def gm_gct (M : gm_M) : Nat → Nat
  | 0 => 0
  | k + 1 => gm_gct M k + (if M 8 k = 0 then 0 else 1)
def gm_late (M : gm_M) (o : Nat) : Nat → Nat
  | 0 => 0
  | k + 1 => gm_late M o k + (if M 8 k = 0 then o else M 8 k - 1 - M 6 k)
def gm_rst (M : gm_M) (b : Nat) : Nat → Nat
  | 0 => 0
  | k + 1 => gm_rst M b k + (if M 4 k = b then M 5 k else 0)
def gm_sum (M : gm_M) : Nat → Nat
  | 0 => 0
  | k + 1 => gm_sum M k + M 5 k
def gm_wf (M : gm_M) : Prop := M 10 0 ≤ 4 ∧ M 11 0 ≤ 16 ∧ M 14 0 ≤ 2 ∧ M 15 0 ≤ 1 ∧ (∀ i, i < 12 → M 0 i ≤ 20) ∧ (∀ i, i < M 10 0 → 1 ≤ M 1 i ∧ M 1 i ≤ 9) ∧
  (∀ i, i < M 11 0 → M 4 i ≤ 7 ∧ M 5 i ≤ 60 ∧ 1 ≤ M 6 i ∧ M 6 i ≤ 200 ∧ M 7 i ≤ M 10 0 ∧ (M 8 i ≠ 0 → M 7 i = 0 ∧ M 5 i = 0) ∧ M 8 i ≤ M 9 0 + 1) ∧
  (∀ i j, i < M 11 0 → j < M 11 0 → M 7 i = M 7 j → M 7 i ≠ 0 → i = j)
/-- between hours: of every sack that is not ground something is left; within one: or it lies on a stone -/
def gm_rest (M : gm_M) : Prop := ∀ i, i < M 11 0 → M 5 i = 0 → M 8 i ≠ 0
def gm_mid (M : gm_M) : Prop := ∀ i, i < M 11 0 → M 5 i = 0 → M 8 i ≠ 0 ∨ M 7 i ≠ 0
/-! small numbers as ints -/
theorem gm_e0 : gm_e 0 = -1 := rfl
theorem gm_eS (n : Nat) : gm_e (n + 1) = nI n := pk_m1 n
theorem gm_e_toInt {n : Nat} (h : n < 2 ^ 31) : (gm_e n).toInt = (n : Int) - 1 := by
  cases n with
  | zero => rfl
  | succ n => rw [gm_eS, nI_toInt (by omega)]; omega
theorem gm_e_inj {a b : Nat} (ha : a < 2 ^ 31) (hb : b < 2 ^ 31) : gm_e a = gm_e b ↔ a = b := by
  constructor
  · intro h
    have := congrArg Int32.toInt h
    rw [gm_e_toInt ha, gm_e_toInt hb] at this
    omega
  · intro h; rw [h]
theorem gm_e_none {a : Nat} (ha : a < 2 ^ 31) : gm_e a = -1 ↔ a = 0 := gm_e_inj ha (by decide) (b := 0)
theorem gm_e_pred {a : Nat} (h : a ≠ 0) : gm_e a = nI (a - 1) := by
  obtain ⟨b, rfl⟩ : ∃ b, a = b + 1 := ⟨a - 1, by omega⟩
  rw [gm_eS]; rfl
theorem gm_b1 {P : Prop} [Decidable P] (h : P) : gm_b P = 1 := if_pos h
theorem gm_b0 {P : Prop} [Decidable P] (h : ¬ P) : gm_b P = 0 := if_neg h
theorem gm_b01 (P : Prop) [Decidable P] : gm_b P = 0 ∨ gm_b P = 1 := by
  by_cases h : P
  · exact Or.inr (if_pos h)
  · exact Or.inl (if_neg h)
theorem gm_b_ne {P : Prop} [Decidable P] : (¬ gm_b P = 0) ↔ P := by
  by_cases h : P
  · rw [gm_b1 h]; exact ⟨fun _ => h, fun _ => by decide⟩
  · rw [gm_b0 h]; exact ⟨fun q => absurd rfl q, fun q => absurd q h⟩
theorem gm_b_eq {P : Prop} [Decidable P] : gm_b P = 0 ↔ ¬ P := by
  by_cases h : P
  · rw [gm_b1 h]; exact ⟨fun q => absurd q (by decide), fun q => absurd h q⟩
  · rw [gm_b0 h]; exact ⟨fun _ => h, fun _ => rfl⟩
theorem gm_0 {n : Nat} (h : n < 2 ^ 31) : nI n = 0 ↔ n = 0 := nI_eq h (by decide) (b := 0)
/-! stores -/
theorem gm_set_at (M : gm_M) (k i v : Nat) : gm_set M k i v k i = v := if_pos ⟨rfl, rfl⟩
theorem gm_set_ne (M : gm_M) {k i v k' i' : Nat} (h : ¬ (k' = k ∧ i' = i)) : gm_set M k i v k' i' = M k' i' := if_neg h
theorem gm_set_k (M : gm_M) {k i v k' : Nat} (i' : Nat) (h : k' ≠ k) : gm_set M k i v k' i' = M k' i' := if_neg (fun q => h q.1)
theorem gm_set_i (M : gm_M) (k : Nat) {i v i' : Nat} (h : i' ≠ i) : gm_set M k i v k i' = M k i' := if_neg (fun q => h q.2)
/-! what depends on what -/
theorem gm_key_congr {M X : gm_M} {s : Nat} (h14 : X 14 0 = M 14 0) (h5 : X 5 s = M 5 s) (h6 : X 6 s = M 6 s) : gm_key X s = gm_key M s := by
  unfold gm_key; rw [h14, h5, h6]
theorem gm_trn_congr {M X : gm_M} {s : Nat} (h14 : X 14 0 = M 14 0) (h5 : X 5 s = M 5 s) (h6 : X 6 s = M 6 s) : gm_trn X s = gm_trn M s := by
  unfold gm_trn; rw [gm_key_congr h14 h5 h6]
theorem gm_cnt_congr {M X : gm_M} {s : Nat} (h14 : X 14 0 = M 14 0) (hs : X 5 s = M 5 s ∧ X 6 s = M 6 s) : ∀ n : Nat, (∀ k, k < n → X 5 k = M 5 k ∧ X 6 k = M 6 k ∧ X 8 k = M 8 k) → gm_cnt X s n = gm_cnt M s n
  | 0, _ => rfl
  | n + 1, h => by
    have hn := h n (Nat.lt_succ_self n)
    show gm_cnt X s n + _ = gm_cnt M s n + _
    rw [gm_cnt_congr h14 hs n (fun k hk => h k (Nat.lt_succ_of_lt hk)), hn.2.2, gm_trn_congr h14 hn.1 hn.2.1, gm_trn_congr h14 hs.1 hs.2]
theorem gm_who_congr {M X : gm_M} {m : Nat} : ∀ n : Nat, (∀ k, k < n → X 7 k = M 7 k) → gm_who X m n = gm_who M m n
  | 0, _ => rfl
  | n + 1, h => by
    show (if gm_who X m n ≠ 0 then gm_who X m n else if X 7 n = m + 1 then n + 1 else 0) = (if gm_who M m n ≠ 0 then gm_who M m n else if M 7 n = m + 1 then n + 1 else 0)
    rw [gm_who_congr n (fun k hk => h k (Nat.lt_succ_of_lt hk)), h n (Nat.lt_succ_self n)]
theorem gm_gct_congr {M X : gm_M} : ∀ n : Nat, (∀ k, k < n → X 8 k = M 8 k) → gm_gct X n = gm_gct M n
  | 0, _ => rfl
  | n + 1, h => by
    show gm_gct X n + _ = gm_gct M n + _
    rw [gm_gct_congr n (fun k hk => h k (Nat.lt_succ_of_lt hk)), h n (Nat.lt_succ_self n)]
/-! who lies on a stone -/
theorem gm_who_le (M : gm_M) (m : Nat) : ∀ n : Nat, gm_who M m n ≤ n
  | 0 => Nat.le_refl 0
  | n + 1 => by
    have ih := gm_who_le M m n
    show (if gm_who M m n ≠ 0 then gm_who M m n else if M 7 n = m + 1 then n + 1 else 0) ≤ n + 1
    split
    · omega
    · split <;> omega
theorem gm_who_on {M : gm_M} {m : Nat} : ∀ n : Nat, gm_who M m n ≠ 0 → M 7 (gm_who M m n - 1) = m + 1
  | 0, h => absurd rfl h
  | n + 1, h => by
    have hu : gm_who M m (n + 1) = (if gm_who M m n ≠ 0 then gm_who M m n else if M 7 n = m + 1 then n + 1 else 0) := rfl
    by_cases h1 : gm_who M m n ≠ 0
    · rw [hu, if_pos h1]; exact gm_who_on n h1
    · by_cases h2 : M 7 n = m + 1
      · rw [hu, if_neg h1, if_pos h2]; exact h2
      · rw [hu, if_neg h1, if_neg h2] at h; exact absurd rfl h
theorem gm_who_no {M : gm_M} {m : Nat} : ∀ n : Nat, gm_who M m n = 0 → ∀ k, k < n → M 7 k ≠ m + 1
  | 0, _, k, hk => absurd hk (Nat.not_lt_zero k)
  | n + 1, h, k, hk => by
    have hu : gm_who M m (n + 1) = (if gm_who M m n ≠ 0 then gm_who M m n else if M 7 n = m + 1 then n + 1 else 0) := rfl
    by_cases h1 : gm_who M m n ≠ 0
    · rw [hu, if_pos h1] at h; exact absurd h h1
    · by_cases h2 : M 7 n = m + 1
      · rw [hu, if_neg h1, if_pos h2] at h; omega
      · rcases Nat.lt_succ_iff_lt_or_eq.mp hk with q | q
        · exact gm_who_no n (by omega) k q
        · rw [q]; exact h2
theorem gm_who_zero {M : gm_M} {m : Nat} : ∀ n : Nat, (∀ k, k < n → M 7 k ≠ m + 1) → gm_who M m n = 0
  | 0, _ => rfl
  | n + 1, h => by
    show (if gm_who M m n ≠ 0 then gm_who M m n else if M 7 n = m + 1 then n + 1 else 0) = 0
    rw [gm_who_zero n (fun k hk => h k (Nat.lt_succ_of_lt hk)), if_neg (fun q => q rfl), if_neg (h n (Nat.lt_succ_self n))]
/-- with the sacks apart: just the one that lies there -/
theorem gm_who_is {M : gm_M} {m n s : Nat} (hs : s < n) (h : M 7 s = m + 1) (hap : ∀ i, i < n → M 7 i = m + 1 → i = s) : gm_who M m n = s + 1 := by
  by_cases h0 : gm_who M m n = 0
  · exact absurd h (gm_who_no n h0 s hs)
  · have h1 := gm_who_on n h0
    have h2 := gm_who_le M m n
    have := hap (gm_who M m n - 1) (by omega) h1
    omega
/-! the next one -/
theorem gm_nxt_le (M : gm_M) (f : Nat) : ∀ n : Nat, gm_nxt M f n ≤ n
  | 0 => Nat.le_refl 0
  | n + 1 => by
    have ih := gm_nxt_le M f n
    show (if M 8 n = 0 ∧ (f = 0 ∨ M 7 n = 0) ∧ (gm_nxt M f n = 0 ∨ gm_trn M n < gm_trn M (gm_nxt M f n - 1)) then n + 1 else gm_nxt M f n) ≤ n + 1
    split <;> omega
theorem gm_nxt_ok {M : gm_M} {f : Nat} : ∀ n : Nat, gm_nxt M f n ≠ 0 → M 8 (gm_nxt M f n - 1) = 0 ∧ (f = 0 ∨ M 7 (gm_nxt M f n - 1) = 0)
  | 0, h => absurd rfl h
  | n + 1, h => by
    have hu : gm_nxt M f (n + 1) = (if M 8 n = 0 ∧ (f = 0 ∨ M 7 n = 0) ∧ (gm_nxt M f n = 0 ∨ gm_trn M n < gm_trn M (gm_nxt M f n - 1)) then n + 1 else gm_nxt M f n) := rfl
    by_cases h1 : M 8 n = 0 ∧ (f = 0 ∨ M 7 n = 0) ∧ (gm_nxt M f n = 0 ∨ gm_trn M n < gm_trn M (gm_nxt M f n - 1))
    · rw [hu, if_pos h1]; exact ⟨h1.1, h1.2.1⟩
    · rw [hu, if_neg h1] at h ⊢; exact gm_nxt_ok n h
/-! the class's cells, read as a mill -/
def gc_up (B : Nat → Nat → Int32) (k : Nat) (f : Nat → Int32) : Nat → Nat → Int32 := fun k' => if k' = k then f else B k'
theorem gc_up_at (B : Nat → Nat → Int32) (k : Nat) (f : Nat → Int32) : gc_up B k f k = f := if_pos rfl
theorem gc_up_ne (B : Nat → Nat → Int32) {k k' : Nat} (f : Nat → Int32) (h : k' ≠ k) : gc_up B k f k' = B k' := if_neg h
def gc_rep (F : Nat → Int32) (B : Nat → Nat → Int32) (M : gm_M) : Prop :=
  (F 9 = nI (M 9 0) ∧ F 10 = nI (M 10 0) ∧ F 11 = nI (M 11 0) ∧ F 12 = nI (gm_gct M (M 11 0)) ∧ F 13 = nI (M 13 0) ∧ F 14 = nI (M 14 0) ∧ F 15 = nI (M 15 0)) ∧
  (∀ i, i < 12 → B 0 i = nI (M 0 i)) ∧ (∀ i, i < M 10 0 → B 1 i = nI (M 1 i)) ∧ (∀ i, i < M 10 0 → B 2 i = gm_e (gm_who M i (M 11 0))) ∧
  (∀ i, i < M 11 0 → B 4 i = nI (M 4 i)) ∧ (∀ i, i < M 11 0 → B 5 i = nI (M 5 i)) ∧ (∀ i, i < M 11 0 → B 6 i = nI (M 6 i)) ∧ (∀ i, i < M 11 0 → B 7 i = gm_e (M 7 i)) ∧ (∀ i, i < M 11 0 → B 8 i = gm_e (M 8 i))
/-- alike in all that can be asked -/
def gm_same (M X : gm_M) : Prop := ∀ k i, (k < 4 ∨ 8 < k ∨ i < M 11 0) → X k i = M k i
theorem gc_rep_same {F : Nat → Int32} {B : Nat → Nat → Int32} {M X : gm_M} (h : gc_rep F B M) (hs : gm_same M X) : gc_rep F B X := by
  obtain ⟨⟨h9, h10, h11, h12, h13, h14, h15⟩, r0, r1, r2, r4, r5, r6, r7, r8⟩ := h
  have e11 : X 11 0 = M 11 0 := hs 11 0 (by omega)
  have e10 : X 10 0 = M 10 0 := hs 10 0 (by omega)
  refine ⟨⟨?_, ?_, ?_, ?_, ?_, ?_, ?_⟩, ?_, ?_, ?_, ?_, ?_, ?_, ?_, ?_⟩
  · rw [hs 9 0 (by omega)]; exact h9
  · rw [e10]; exact h10
  · rw [e11]; exact h11
  · rw [e11, gm_gct_congr (M := M) _ (fun k hk => hs 8 k (by omega))]; exact h12
  · rw [hs 13 0 (by omega)]; exact h13
  · rw [hs 14 0 (by omega)]; exact h14
  · rw [hs 15 0 (by omega)]; exact h15
  · intro i hi; rw [hs 0 i (by omega)]; exact r0 i hi
  · intro i hi; rw [e10] at hi; rw [hs 1 i (by omega)]; exact r1 i hi
  · intro i hi; rw [e10] at hi; rw [e11, gm_who_congr (M := M) _ (fun k hk => hs 7 k (by omega))]; exact r2 i hi
  · intro i hi; rw [e11] at hi; rw [hs 4 i (by omega)]; exact r4 i hi
  · intro i hi; rw [e11] at hi; rw [hs 5 i (by omega)]; exact r5 i hi
  · intro i hi; rw [e11] at hi; rw [hs 6 i (by omega)]; exact r6 i hi
  · intro i hi; rw [e11] at hi; rw [hs 7 i (by omega)]; exact r7 i hi
  · intro i hi; rw [e11] at hi; rw [hs 8 i (by omega)]; exact r8 i hi
theorem gm_wf_same {M X : gm_M} (h : gm_wf M) (hs : gm_same M X) : gm_wf X := by
  obtain ⟨w1, w2, w3, w4, w5, w6, w7, w8⟩ := h
  have e11 : X 11 0 = M 11 0 := hs 11 0 (by omega)
  have e10 : X 10 0 = M 10 0 := hs 10 0 (by omega)
  refine ⟨by rw [e10]; exact w1, by rw [e11]; exact w2, by rw [hs 14 0 (by omega)]; exact w3, by rw [hs 15 0 (by omega)]; exact w4, fun i hi => ?_, fun i hi => ?_, fun i hi => ?_, fun i j hi hj => ?_⟩
  · rw [hs 0 i (by omega)]; exact w5 i hi
  · rw [e10] at hi; rw [hs 1 i (by omega)]; exact w6 i hi
  · rw [e11] at hi; rw [hs 4 i (by omega), hs 5 i (by omega), hs 6 i (by omega), hs 7 i (by omega), hs 8 i (by omega), e10, hs 9 0 (by omega)]; exact w7 i hi
  · rw [e11] at hi hj; rw [hs 7 i (by omega), hs 7 j (by omega)]; exact w8 i j hi hj
theorem gm_rest_same {M X : gm_M} (h : gm_rest M) (hs : gm_same M X) : gm_rest X := by
  intro i hi
  rw [hs 11 0 (by omega)] at hi
  rw [hs 5 i (by omega), hs 8 i (by omega)]; exact h i hi
theorem gm_mid_same {M X : gm_M} (h : gm_mid M) (hs : gm_same M X) : gm_mid X := by
  intro i hi
  rw [hs 11 0 (by omega)] at hi
  rw [hs 5 i (by omega), hs 8 i (by omega), hs 7 i (by omega)]; exact h i hi
/-! one stone's sack is taken off -/
theorem gm_clr_ne (M : gm_M) (m i : Nat) {k : Nat} (h : k ≠ 7) : gm_clr M m k i = M k i := if_neg (fun q => h q.1)
theorem gm_clr_7 (M : gm_M) (m i : Nat) : gm_clr M m 7 i = if M 7 i = m + 1 then 0 else M 7 i := by
  show (if (7 : Nat) = 7 ∧ M 7 i = m + 1 then 0 else M 7 i) = _
  by_cases h : M 7 i = m + 1
  · rw [if_pos ⟨rfl, h⟩, if_pos h]
  · rw [if_neg (fun q => h q.2), if_neg h]
/-- who, when sacks are taken off stones: the stones that none is taken off -/
theorem gm_who_keep {M X : gm_M} {j : Nat} : ∀ n : Nat, (∀ k, k < n → (X 7 k = j + 1 ↔ M 7 k = j + 1)) → gm_who X j n = gm_who M j n
  | 0, _ => rfl
  | n + 1, h => by
    show (if gm_who X j n ≠ 0 then gm_who X j n else if X 7 n = j + 1 then n + 1 else 0) = (if gm_who M j n ≠ 0 then gm_who M j n else if M 7 n = j + 1 then n + 1 else 0)
    rw [gm_who_keep n (fun k hk => h k (Nat.lt_succ_of_lt hk))]
    have := h n (Nat.lt_succ_self n)
    by_cases h1 : M 7 n = j + 1
    · rw [if_pos h1, if_pos (this.mpr h1)]
    · rw [if_neg h1, if_neg (fun q => h1 (this.mp q))]
theorem gc_rep_clr0 {F : Nat → Int32} {B : Nat → Nat → Int32} {M : gm_M} {m : Nat} (h : gc_rep F B M) (hw : gm_who M m (M 11 0) = 0) : gc_rep F B (gm_clr M m) := by
  refine gc_rep_same h (fun k i hk => ?_)
  by_cases h7 : k = 7
  · subst h7
    have := gm_who_no _ hw i (by omega)
    rw [gm_clr_7, if_neg this]
  · exact gm_clr_ne M m i h7
theorem gc_rep_clr {F : Nat → Int32} {B : Nat → Nat → Int32} {M : gm_M} {m : Nat} (wf : gm_wf M) (h : gc_rep F B M) (hm : m < M 10 0) (hw : gm_who M m (M 11 0) ≠ 0) :
    gc_rep F (gc_up (gc_up B 7 (upd (B 7) (gm_who M m (M 11 0) - 1) (-1))) 2 (upd (B 2) m (-1))) (gm_clr M m) := by
  obtain ⟨⟨h9, h10, h11, h12, h13, h14, h15⟩, r0, r1, r2, r4, r5, r6, r7, r8⟩ := h
  obtain ⟨w1, w2, w3, w4, w5, w6, w7, w8⟩ := wf
  have hon := gm_who_on _ hw
  have hle := gm_who_le M m (M 11 0)
  have e : ∀ k i, k ≠ 7 → gm_clr M m k i = M k i := fun k i hk => gm_clr_ne M m i hk
  have e11 : gm_clr M m 11 0 = M 11 0 := e 11 0 (by decide)
  have e10 : gm_clr M m 10 0 = M 10 0 := e 10 0 (by decide)
  refine ⟨⟨?_, ?_, ?_, ?_, ?_, ?_, ?_⟩, ?_, ?_, ?_, ?_, ?_, ?_, ?_, ?_⟩
  · rw [e 9 0 (by decide)]; exact h9
  · rw [e10]; exact h10
  · rw [e11]; exact h11
  · rw [e11, gm_gct_congr (M := M) _ (fun k hk => e 8 k (by decide))]; exact h12
  · rw [e 13 0 (by decide)]; exact h13
  · rw [e 14 0 (by decide)]; exact h14
  · rw [e 15 0 (by decide)]; exact h15
  · intro i hi; rw [e 0 i (by decide)]; exact r0 i hi
  · intro i hi; rw [e10] at hi; rw [e 1 i (by decide)]; exact r1 i hi
  · intro i hi
    rw [e10] at hi
    rw [e11]
    show upd (B 2) m (-1) i = _
    by_cases hi2 : i = m
    · subst hi2
      rw [pk_us, gm_who_zero _ (fun k hk => ?_)]
      · rfl
      · rw [gm_clr_7]
        split
        · omega
        · assumption
    · rw [pk_un hi2, r2 i hi, gm_who_keep (M := M)]
      intro k hk
      rw [gm_clr_7]
      split
      · omega
      · exact Iff.rfl
  · intro i hi; rw [e11] at hi; rw [e 4 i (by decide)]; exact r4 i hi
  · intro i hi; rw [e11] at hi; rw [e 5 i (by decide)]; exact r5 i hi
  · intro i hi; rw [e11] at hi; rw [e 6 i (by decide)]; exact r6 i hi
  · intro i hi
    rw [e11] at hi
    show upd (B 7) (gm_who M m (M 11 0) - 1) (-1) i = _
    rw [gm_clr_7]
    by_cases hi2 : i = gm_who M m (M 11 0) - 1
    · rw [hi2, pk_us, if_pos hon]; rfl
    · rw [pk_un hi2, if_neg, r7 i hi]
      intro q
      exact hi2 (w8 i _ hi (by omega) (by rw [q, hon]) (by omega))
  · intro i hi; rw [e11] at hi; rw [e 8 i (by decide)]; exact r8 i hi
/-! taking off -/
theorem gm_wf_off {M X : gm_M} (wf : gm_wf M) (h : ∀ k i, k ≠ 7 → X k i = M k i) (h7 : ∀ i, X 7 i = 0 ∨ X 7 i = M 7 i) : gm_wf X := by
  obtain ⟨w1, w2, w3, w4, w5, w6, w7, w8⟩ := wf
  have e11 : X 11 0 = M 11 0 := h 11 0 (by decide)
  have e10 : X 10 0 = M 10 0 := h 10 0 (by decide)
  refine ⟨by rw [e10]; exact w1, by rw [e11]; exact w2, by rw [h 14 0 (by decide)]; exact w3, by rw [h 15 0 (by decide)]; exact w4, fun i hi => ?_, fun i hi => ?_, fun i hi => ?_, fun i j hi hj hij hn => ?_⟩
  · rw [h 0 i (by decide)]; exact w5 i hi
  · rw [e10] at hi; rw [h 1 i (by decide)]; exact w6 i hi
  · rw [e11] at hi
    rw [h 4 i (by decide), h 5 i (by decide), h 6 i (by decide), h 8 i (by decide), e10, h 9 0 (by decide)]
    obtain ⟨a1, a2, a3, a4, a5, a6, a7⟩ := w7 i hi
    have := h7 i
    exact ⟨a1, a2, a3, a4, by omega, fun q => ⟨by have := (a6 q).1; omega, (a6 q).2⟩, a7⟩
  · rw [e11] at hi hj
    have p1 := h7 i
    have p2 := h7 j
    exact w8 i j hi hj (by omega) (by omega)
theorem gm_rest_off {M X : gm_M} (h : gm_rest M) (e : ∀ k i, k ≠ 7 → X k i = M k i) : gm_rest X := by
  intro i hi
  rw [e 11 0 (by decide)] at hi
  rw [e 5 i (by decide), e 8 i (by decide)]
  exact h i hi
theorem gm_tkc_ne (M : gm_M) (m i : Nat) {k : Nat} (h : k ≠ 7) : gm_tkc M m k i = M k i := if_neg (fun q => h q.1)
theorem gm_tkp_ne (M : gm_M) (m i : Nat) {k : Nat} (h : k ≠ 7) : gm_tkp M m k i = M k i := if_neg (fun q => h q.1)
theorem gm_tkc_7 (M : gm_M) (m i : Nat) : gm_tkc M m 7 i = if M 7 i ≤ m ∧ M 10 0 ≤ gm_cnt M i (M 11 0) then 0 else M 7 i := by
  show (if (7 : Nat) = 7 ∧ M 7 i ≤ m ∧ M 10 0 ≤ gm_cnt M i (M 11 0) then 0 else M 7 i) = _
  by_cases h : M 7 i ≤ m ∧ M 10 0 ≤ gm_cnt M i (M 11 0)
  · rw [if_pos ⟨rfl, h⟩, if_pos h]
  · rw [if_neg (fun q => h q.2), if_neg h]
theorem gm_tkp_7 (M : gm_M) (n i : Nat) : gm_tkp M n 7 i = if i < n ∧ M 10 0 ≤ gm_cnt M i (M 11 0) then 0 else M 7 i := by
  show (if (7 : Nat) = 7 ∧ i < n ∧ M 10 0 ≤ gm_cnt M i (M 11 0) then 0 else M 7 i) = _
  by_cases h : i < n ∧ M 10 0 ≤ gm_cnt M i (M 11 0)
  · rw [if_pos ⟨rfl, h⟩, if_pos h]
  · rw [if_neg (fun q => h q.2), if_neg h]
theorem gm_tkc_wf {M : gm_M} (m : Nat) (wf : gm_wf M) : gm_wf (gm_tkc M m) := gm_wf_off wf (fun k i h => gm_tkc_ne M m i h) (fun i => by rw [gm_tkc_7]; split <;> simp)
theorem gm_tkp_wf {M : gm_M} (m : Nat) (wf : gm_wf M) : gm_wf (gm_tkp M m) := gm_wf_off wf (fun k i h => gm_tkp_ne M m i h) (fun i => by rw [gm_tkp_7]; split <;> simp)
theorem gm_tkc_rest {M : gm_M} (m : Nat) (h : gm_rest M) : gm_rest (gm_tkc M m) := gm_rest_off h (fun k i h => gm_tkc_ne M m i h)
theorem gm_tkp_rest {M : gm_M} (m : Nat) (h : gm_rest M) : gm_rest (gm_tkp M m) := gm_rest_off h (fun k i h => gm_tkp_ne M m i h)
theorem gm_tkc_cnt (M : gm_M) (m i n : Nat) : gm_cnt (gm_tkc M m) i n = gm_cnt M i n :=
  gm_cnt_congr (gm_tkc_ne M m 0 (by decide)) ⟨gm_tkc_ne M m i (by decide), gm_tkc_ne M m i (by decide)⟩ n (fun k _ => ⟨gm_tkc_ne M m k (by decide), gm_tkc_ne M m k (by decide), gm_tkc_ne M m k (by decide)⟩)
theorem gm_tkp_cnt (M : gm_M) (m i n : Nat) : gm_cnt (gm_tkp M m) i n = gm_cnt M i n :=
  gm_cnt_congr (gm_tkp_ne M m 0 (by decide)) ⟨gm_tkp_ne M m i (by decide), gm_tkp_ne M m i (by decide)⟩ n (fun k _ => ⟨gm_tkp_ne M m k (by decide), gm_tkp_ne M m k (by decide), gm_tkp_ne M m k (by decide)⟩)
theorem gm_tkc_0 (M : gm_M) : gm_same M (gm_tkc M 0) := by
  intro k i _
  by_cases h7 : k = 7
  · subst h7
    rw [gm_tkc_7]
    split <;> omega
  · exact gm_tkc_ne M 0 i h7
theorem gm_tkc_who (M : gm_M) (m n : Nat) : gm_who (gm_tkc M m) m n = gm_who M m n :=
  gm_who_keep n (fun k _ => by rw [gm_tkc_7]; split <;> omega)
theorem gm_tkc_skip {M : gm_M} {m : Nat} (h : ∀ i, i < M 11 0 → M 7 i = m + 1 → gm_cnt M i (M 11 0) < M 10 0) : gm_same (gm_tkc M m) (gm_tkc M (m + 1)) := by
  intro k i hk
  rw [gm_tkc_ne M m 0 (by decide)] at hk
  by_cases h7 : k = 7
  · subst h7
    have := h i (by omega)
    rw [gm_tkc_7, gm_tkc_7]
    split <;> split <;> omega
  · rw [gm_tkc_ne M m i h7, gm_tkc_ne M _ i h7]
theorem gm_tkc_clr {M : gm_M} {m : Nat} (h : ∀ i, i < M 11 0 → M 7 i = m + 1 → M 10 0 ≤ gm_cnt M i (M 11 0)) : gm_same (gm_clr (gm_tkc M m) m) (gm_tkc M (m + 1)) := by
  intro k i hk
  rw [gm_clr_ne _ m 0 (by decide), gm_tkc_ne M m 0 (by decide)] at hk
  by_cases h7 : k = 7
  · subst h7
    have := h i (by omega)
    rw [gm_clr_7, gm_tkc_7, gm_tkc_7]
    split <;> split <;> split <;> omega
  · rw [gm_clr_ne _ m i h7, gm_tkc_ne M m i h7, gm_tkc_ne M _ i h7]
theorem gm_tkc_all {M : gm_M} (wf : gm_wf M) : gm_same (gm_tkc M (M 10 0)) (gm_tkp M (M 11 0)) := by
  intro k i hk
  rw [gm_tkc_ne M _ 0 (by decide)] at hk
  by_cases h7 : k = 7
  · subst h7
    have := (wf.2.2.2.2.2.2.1 i (by omega)).2.2.2.2.1
    rw [gm_tkc_7, gm_tkp_7]
    split <;> split <;> omega
  · rw [gm_tkc_ne M _ i h7, gm_tkp_ne M _ i h7]
theorem gm_tkp_0 (M : gm_M) : gm_tkp M 0 = M := by
  funext k i
  exact if_neg (fun q => absurd q.2.1 (Nat.not_lt_zero i))
theorem gm_tkp_skip {M : gm_M} {n : Nat} (h : M 7 n = 0 ∨ gm_cnt M n (M 11 0) < M 10 0) : gm_tkp M (n + 1) = gm_tkp M n := by
  funext k i
  by_cases h7 : k = 7
  · subst h7
    rw [gm_tkp_7, gm_tkp_7]
    by_cases hi : i = n
    · subst hi
      split <;> split <;> omega
    · split <;> split <;> omega
  · rw [gm_tkp_ne M _ i h7, gm_tkp_ne M _ i h7]
theorem gm_tkp_off {M : gm_M} {n : Nat} (h : M 10 0 ≤ gm_cnt M n (M 11 0)) : gm_tkp M (n + 1) = gm_set (gm_tkp M n) 7 n 0 := by
  funext k i
  by_cases h7 : k = 7
  · subst h7
    rw [gm_tkp_7]
    by_cases hi : i = n
    · subst hi
      rw [gm_set_at, if_pos ⟨by omega, h⟩]
    · rw [gm_set_i _ _ hi, gm_tkp_7]
      split <;> split <;> omega
  · rw [gm_set_k _ _ h7, gm_tkp_ne M _ i h7, gm_tkp_ne M _ i h7]
/-! a stone gets a sack -/
theorem gc_rep_set3 {F : Nat → Int32} {B : Nat → Nat → Int32} {M : gm_M} (m v : Nat) (f : Nat → Int32) (h : gc_rep F B M) : gc_rep F (gc_up B 3 f) (gm_set M 3 m v) := by
  obtain ⟨⟨h9, h10, h11, h12, h13, h14, h15⟩, r0, r1, r2, r4, r5, r6, r7, r8⟩ := h
  have e : ∀ k i, k ≠ 3 → gm_set M 3 m v k i = M k i := fun k i hk => gm_set_k M i hk
  have hr : gc_rep F (gc_up B 3 f) M := ⟨⟨h9, h10, h11, h12, h13, h14, h15⟩, r0, r1, r2, r4, r5, r6, r7, r8⟩
  obtain ⟨⟨h9, h10, h11, h12, h13, h14, h15⟩, r0, r1, r2, r4, r5, r6, r7, r8⟩ := hr
  have e11 : gm_set M 3 m v 11 0 = M 11 0 := e 11 0 (by decide)
  have e10 : gm_set M 3 m v 10 0 = M 10 0 := e 10 0 (by decide)
  refine ⟨⟨?_, ?_, ?_, ?_, ?_, ?_, ?_⟩, ?_, ?_, ?_, ?_, ?_, ?_, ?_, ?_⟩
  · rw [e 9 0 (by decide)]; exact h9
  · rw [e10]; exact h10
  · rw [e11]; exact h11
  · rw [e11, gm_gct_congr (M := M) _ (fun k hk => e 8 k (by decide))]; exact h12
  · rw [e 13 0 (by decide)]; exact h13
  · rw [e 14 0 (by decide)]; exact h14
  · rw [e 15 0 (by decide)]; exact h15
  · intro i hi; rw [e 0 i (by decide)]; exact r0 i hi
  · intro i hi; rw [e10] at hi; rw [e 1 i (by decide)]; exact r1 i hi
  · intro i hi; rw [e10] at hi; rw [e11, gm_who_congr (M := M) _ (fun k hk => e 7 k (by decide))]; exact r2 i hi
  · intro i hi; rw [e11] at hi; rw [e 4 i (by decide)]; exact r4 i hi
  · intro i hi; rw [e11] at hi; rw [e 5 i (by decide)]; exact r5 i hi
  · intro i hi; rw [e11] at hi; rw [e 6 i (by decide)]; exact r6 i hi
  · intro i hi; rw [e11] at hi; rw [e 7 i (by decide)]; exact r7 i hi
  · intro i hi; rw [e11] at hi; rw [e 8 i (by decide)]; exact r8 i hi
/-- a sack s on the free stone m -/
def gm_put (X : gm_M) (m s : Nat) : gm_M := gm_set (gm_set X 7 s (m + 1)) 13 0 (X 13 0 + 1)
theorem gm_put_ne (X : gm_M) (m s i : Nat) {k : Nat} (h7 : k ≠ 7) (h13 : k ≠ 13) : gm_put X m s k i = X k i := by
  unfold gm_put; rw [gm_set_k _ _ h13, gm_set_k _ _ h7]
theorem gm_put_7 (X : gm_M) (m s i : Nat) : gm_put X m s 7 i = if i = s then m + 1 else X 7 i := by
  unfold gm_put
  rw [gm_set_k _ _ (by decide)]
  by_cases h : i = s
  · rw [h, gm_set_at, if_pos rfl]
  · rw [gm_set_i _ _ h, if_neg h]
theorem gm_put_13 (X : gm_M) (m s : Nat) : gm_put X m s 13 0 = X 13 0 + 1 := gm_set_at _ _ _ _
theorem gm_wf_put {M : gm_M} {m s : Nat} (wf : gm_wf M) (hm : m < M 10 0) (hs : s < M 11 0) (hd : M 8 s = 0) (hw : gm_who M m (M 11 0) = 0) : gm_wf (gm_put M m s) := by
  obtain ⟨w1, w2, w3, w4, w5, w6, w7, w8⟩ := wf
  have hno := gm_who_no _ hw
  have e : ∀ k i, k ≠ 7 → k ≠ 13 → gm_put M m s k i = M k i := fun k i h1 h2 => gm_put_ne M m s i h1 h2
  have e11 : gm_put M m s 11 0 = M 11 0 := e 11 0 (by decide) (by decide)
  have e10 : gm_put M m s 10 0 = M 10 0 := e 10 0 (by decide) (by decide)
  refine ⟨by rw [e10]; exact w1, by rw [e11]; exact w2, by rw [e 14 0 (by decide) (by decide)]; exact w3, by rw [e 15 0 (by decide) (by decide)]; exact w4, fun i hi => ?_, fun i hi => ?_, fun i hi => ?_, fun i j hi hj hij hn => ?_⟩
  · rw [e 0 i (by decide) (by decide)]; exact w5 i hi
  · rw [e10] at hi; rw [e 1 i (by decide) (by decide)]; exact w6 i hi
  · rw [e11] at hi
    rw [e 4 i (by decide) (by decide), e 5 i (by decide) (by decide), e 6 i (by decide) (by decide), e 8 i (by decide) (by decide), e10, e 9 0 (by decide) (by decide), gm_put_7]
    obtain ⟨a1, a2, a3, a4, a5, a6, a7⟩ := w7 i hi
    by_cases his : i = s
    · subst his
      rw [if_pos rfl]
      exact ⟨a1, a2, a3, a4, hm, fun q => absurd hd q, a7⟩
    · rw [if_neg his]
      exact ⟨a1, a2, a3, a4, a5, a6, a7⟩
  · rw [e11] at hi hj
    rw [gm_put_7, gm_put_7] at hij
    rw [gm_put_7] at hn
    have q1 := hno i hi
    have q2 := hno j hj
    by_cases his : i = s
    · by_cases hjs : j = s
      · rw [his, hjs]
      · rw [if_pos his, if_neg hjs] at hij
        exact absurd hij.symm q2
    · by_cases hjs : j = s
      · rw [if_neg his, if_pos hjs] at hij
        exact absurd hij q1
      · rw [if_neg his] at hij hn
        rw [if_neg hjs] at hij
        exact w8 i j hi hj hij hn
theorem gm_rest_put {M : gm_M} {m s : Nat} (h : gm_rest M) : gm_rest (gm_put M m s) := by
  intro i hi
  rw [gm_put_ne _ _ _ _ (by decide) (by decide)] at hi
  rw [gm_put_ne _ _ _ _ (by decide) (by decide), gm_put_ne _ _ _ _ (by decide) (by decide)]
  exact h i hi
theorem gc_rep_put {F : Nat → Int32} {B : Nat → Nat → Int32} {M : gm_M} {m s : Nat} (wf : gm_wf M) (h : gc_rep F B M) (hm : m < M 10 0) (hs : s < M 11 0) (h0 : M 7 s = 0) (hw : gm_who M m (M 11 0) = 0) :
    gc_rep (upd F 13 (nI (M 13 0 + 1))) (gc_up (gc_up B 2 (upd (B 2) m (nI s))) 7 (upd (B 7) s (nI m))) (gm_put M m s) := by
  obtain ⟨⟨h9, h10, h11, h12, h13, h14, h15⟩, r0, r1, r2, r4, r5, r6, r7, r8⟩ := h
  have hno := gm_who_no _ hw
  have e : ∀ k i, k ≠ 7 → k ≠ 13 → gm_put M m s k i = M k i := fun k i h1 h2 => gm_put_ne M m s i h1 h2
  have e11 : gm_put M m s 11 0 = M 11 0 := e 11 0 (by decide) (by decide)
  have e10 : gm_put M m s 10 0 = M 10 0 := e 10 0 (by decide) (by decide)
  refine ⟨⟨?_, ?_, ?_, ?_, ?_, ?_, ?_⟩, ?_, ?_, ?_, ?_, ?_, ?_, ?_, ?_⟩
  · rw [e 9 0 (by decide) (by decide)]; exact h9
  · rw [e10]; exact h10
  · rw [e11]; exact h11
  · rw [e11, gm_gct_congr (M := M) _ (fun k hk => e 8 k (by decide) (by decide))]; exact h12
  · rw [gm_put_13]; rfl
  · rw [e 14 0 (by decide) (by decide)]; exact h14
  · rw [e 15 0 (by decide) (by decide)]; exact h15
  · intro i hi; rw [e 0 i (by decide) (by decide)]; exact r0 i hi
  · intro i hi; rw [e10] at hi; rw [e 1 i (by decide) (by decide)]; exact r1 i hi
  · intro i hi
    rw [e10] at hi
    rw [e11]
    show upd (B 2) m (nI s) i = _
    by_cases hi2 : i = m
    · subst hi2
      rw [pk_us, gm_who_is hs (by rw [gm_put_7, if_pos rfl]), gm_eS]
      intro j hj hj1
      rw [gm_put_7] at hj1
      by_cases hjs : j = s
      · exact hjs
      · rw [if_neg hjs] at hj1
        exact absurd hj1 (hno j hj)
    · rw [pk_un hi2, r2 i hi, gm_who_keep (M := M)]
      intro k hk
      rw [gm_put_7]
      by_cases hks : k = s
      · rw [if_pos hks, hks, h0]; omega
      · rw [if_neg hks]
  · intro i hi; rw [e11] at hi; rw [e 4 i (by decide) (by decide)]; exact r4 i hi
  · intro i hi; rw [e11] at hi; rw [e 5 i (by decide) (by decide)]; exact r5 i hi
  · intro i hi; rw [e11] at hi; rw [e 6 i (by decide) (by decide)]; exact r6 i hi
  · intro i hi
    rw [e11] at hi
    show upd (B 7) s (nI m) i = _
    rw [gm_put_7]
    by_cases his : i = s
    · rw [his, pk_us, if_pos rfl, gm_eS]
    · rw [pk_un his, if_neg his]; exact r7 i hi
  · intro i hi; rw [e11] at hi; rw [e 8 i (by decide) (by decide)]; exact r8 i hi
