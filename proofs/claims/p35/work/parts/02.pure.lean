/-! THE MILL AS A MATHEMATICAL VALUE: a store M of numbers, M k i; what class and reference compute, said once.
0 wind, 1 size, 3 fresh, 4 baker, 5 left, 6 until, 7 on (stone + 1, or 0), 8 done (hour + 1, or 0), 9 hour, 10 stones, 11 sacks, 13 changes, 14 rule, 15 taking off, 16 ground in all -/
abbrev gm_M : Type := Nat → Nat → Nat
def gm_set (M : gm_M) (k i v : Nat) : gm_M := fun k' i' => if k' = k ∧ i' = i then v else M k' i'
def gm_e (n : Nat) : Int32 := nI n + (-1)
def gm_b (P : Prop) [Decidable P] : Int32 := if P then 1 else 0
def gm_key (M : gm_M) (s : Nat) : Nat := if M 14 0 = 0 then 0 else if M 14 0 = 1 then M 6 s else M 5 s
def gm_trn (M : gm_M) (s : Nat) : Nat := 16 * gm_key M s + s
def gm_cnt (M : gm_M) (s : Nat) : Nat → Nat
  | 0 => 0
  | k + 1 => gm_cnt M s k + (if M 8 k = 0 ∧ gm_trn M k < gm_trn M s then 1 else 0)
def gm_nxt (M : gm_M) (f : Nat) : Nat → Nat
  | 0 => 0
  | k + 1 => if M 8 k = 0 ∧ (f = 0 ∨ M 7 k = 0) ∧ (gm_nxt M f k = 0 ∨ gm_trn M k < gm_trn M (gm_nxt M f k - 1)) then k + 1 else gm_nxt M f k
def gm_who (M : gm_M) (m : Nat) : Nat → Nat
  | 0 => 0
  | k + 1 => if gm_who M m k ≠ 0 then gm_who M m k else if M 7 k = m + 1 then k + 1 else 0
/-- taking off, of the first n sacks; of the first m stones -/
def gm_tkp (M : gm_M) (n : Nat) : gm_M := fun k i => if k = 7 ∧ i < n ∧ M 10 0 ≤ gm_cnt M i (M 11 0) then 0 else M k i
def gm_tkc (M : gm_M) (m : Nat) : gm_M := fun k i => if k = 7 ∧ M 7 i ≤ m ∧ M 10 0 ≤ gm_cnt M i (M 11 0) then 0 else M k i
def gm_clr (M : gm_M) (m : Nat) : gm_M := fun k i => if k = 7 ∧ M 7 i = m + 1 then 0 else M k i
def gm_fs (X : gm_M) (m : Nat) : gm_M :=
  if gm_who X m (X 11 0) = 0 then
    (if gm_nxt X 1 (X 11 0) = 0 then gm_set X 3 m 0 else gm_set (gm_set (gm_set X 7 (gm_nxt X 1 (X 11 0) - 1) (m + 1)) 13 0 (X 13 0 + 1)) 3 m 1)
  else gm_set X 3 m 0
def gm_fil (M : gm_M) : Nat → gm_M
  | 0 => M
  | m + 1 => gm_fs (gm_fil M m) m
def gm_amt (b : Nat) (X : gm_M) (m s : Nat) : Nat := min (min (X 1 m - X 3 m) (X 5 s)) (b - X 16 0)
def gm_gs (b : Nat) (X : gm_M) (m : Nat) : gm_M :=
  if gm_who X m (X 11 0) = 0 then X
  else gm_set (gm_set X 5 (gm_who X m (X 11 0) - 1) (X 5 (gm_who X m (X 11 0) - 1) - gm_amt b X m (gm_who X m (X 11 0) - 1))) 16 0 (X 16 0 + gm_amt b X m (gm_who X m (X 11 0) - 1))
def gm_grd (b : Nat) (M : gm_M) : Nat → gm_M
  | 0 => M
  | m + 1 => gm_gs b (gm_grd b M m) m
/-- the sacks of which nothing is left leave their stones, of the first n sacks; of the first m stones -/
def gm_fnp (X : gm_M) (n : Nat) : gm_M := fun k i => if (k = 8 ∨ k = 7) ∧ i < n ∧ X 7 i ≠ 0 ∧ X 5 i = 0 then (if k = 8 then X 9 0 + 1 else 0) else X k i
def gm_fnc (X : gm_M) (m : Nat) : gm_M := fun k i => if (k = 8 ∨ k = 7) ∧ X 7 i ≠ 0 ∧ X 7 i ≤ m ∧ X 5 i = 0 then (if k = 8 then X 9 0 + 1 else 0) else X k i
def gm_tk (M : gm_M) : gm_M := if M 15 0 = 0 then M else gm_tkp M (M 11 0)
def gm_wnd (M : gm_M) : Nat := M 0 (M 9 0 % 12)
def gm_inc (M : gm_M) : gm_M := gm_set M 9 0 (M 9 0 + 1)
def gm_h1 (M : gm_M) : gm_M := gm_fil (gm_tk M) (M 10 0)
def gm_h2 (M : gm_M) : gm_M := gm_grd (M 16 0 + gm_wnd M) (gm_h1 M) (M 10 0)
def gm_hour (M : gm_M) : gm_M := gm_fnp (gm_inc (gm_h2 M)) (M 11 0)
def gm_hrs (M : gm_M) : Nat → gm_M
  | 0 => M
  | n + 1 => gm_hour (gm_hrs M n)
/-- how many are ground -/
def gm_gct (M : gm_M) : Nat → Nat
  | 0 => 0
  | k + 1 => gm_gct M k + (if M 8 k = 0 then 0 else 1)
def gm_late (M : gm_M) (o : Nat) : Nat → Nat
  | 0 => 0
  | k + 1 => gm_late M o k + (if M 8 k = 0 then o else M 8 k - 1 - M 6 k)
def gm_rst (M : gm_M) (b : Nat) : Nat → Nat
  | 0 => 0
  | k + 1 => gm_rst M b k + (if M 4 k = b then M 5 k else 0)
def gm_sum (M : gm_M) : Nat → Nat
  | 0 => 0
  | k + 1 => gm_sum M k + M 5 k
def gm_wf (M : gm_M) : Prop := M 10 0 ≤ 4 ∧ M 11 0 ≤ 16 ∧ M 14 0 ≤ 2 ∧ M 15 0 ≤ 1 ∧ (∀ i, i < 12 → M 0 i ≤ 20) ∧ (∀ i, i < M 10 0 → 1 ≤ M 1 i ∧ M 1 i ≤ 9) ∧
  (∀ i, i < M 11 0 → M 4 i ≤ 7 ∧ M 5 i ≤ 60 ∧ 1 ≤ M 6 i ∧ M 6 i ≤ 200 ∧ M 7 i ≤ M 10 0 ∧ (M 8 i ≠ 0 → M 7 i = 0 ∧ M 5 i = 0) ∧ M 8 i ≤ M 9 0 + 1) ∧
  (∀ i j, i < M 11 0 → j < M 11 0 → M 7 i = M 7 j → M 7 i ≠ 0 → i = j)
/-- between hours: of every sack that is not ground something is left; within one: or it lies on a stone -/
def gm_rest (M : gm_M) : Prop := ∀ i, i < M 11 0 → M 5 i = 0 → M 8 i ≠ 0
def gm_mid (M : gm_M) : Prop := ∀ i, i < M 11 0 → M 5 i = 0 → M 8 i ≠ 0 ∨ M 7 i ≠ 0
/-! small numbers as ints -/
theorem gm_e0 : gm_e 0 = -1 := rfl
theorem gm_eS (n : Nat) : gm_e (n + 1) = nI n := pk_m1 n
theorem gm_e_toInt {n : Nat} (h : n < 2 ^ 31) : (gm_e n).toInt = (n : Int) - 1 := by
  cases n with
  | zero => rfl
  | succ n => rw [gm_eS, nI_toInt (by omega)]; omega
theorem gm_e_inj {a b : Nat} (ha : a < 2 ^ 31) (hb : b < 2 ^ 31) : gm_e a = gm_e b ↔ a = b := by
  constructor
  · intro h
    have := congrArg Int32.toInt h
    rw [gm_e_toInt ha, gm_e_toInt hb] at this
    omega
  · intro h; rw [h]
theorem gm_e_none {a : Nat} (ha : a < 2 ^ 31) : gm_e a = -1 ↔ a = 0 := gm_e_inj ha (by decide) (b := 0)
theorem gm_e_pred {a : Nat} (h : a ≠ 0) : gm_e a = nI (a - 1) := by
  obtain ⟨b, rfl⟩ : ∃ b, a = b + 1 := ⟨a - 1, by omega⟩
  rw [gm_eS]; rfl
theorem gm_b1 {P : Prop} [Decidable P] (h : P) : gm_b P = 1 := if_pos h
theorem gm_b0 {P : Prop} [Decidable P] (h : ¬ P) : gm_b P = 0 := if_neg h
theorem gm_b01 (P : Prop) [Decidable P] : gm_b P = 0 ∨ gm_b P = 1 := by
  by_cases h : P
  · exact Or.inr (if_pos h)
  · exact Or.inl (if_neg h)
theorem gm_b_ne {P : Prop} [Decidable P] : (¬ gm_b P = 0) ↔ P := by
  by_cases h : P
  · rw [gm_b1 h]; exact ⟨fun _ => h, fun _ => by decide⟩
  · rw [gm_b0 h]; exact ⟨fun q => absurd rfl q, fun q => absurd q h⟩
theorem gm_b_eq {P : Prop} [Decidable P] : gm_b P = 0 ↔ ¬ P := by
  by_cases h : P
  · rw [gm_b1 h]; exact ⟨fun q => absurd q (by decide), fun q => absurd h q⟩
  · rw [gm_b0 h]; exact ⟨fun _ => h, fun _ => rfl⟩
theorem gm_0 {n : Nat} (h : n < 2 ^ 31) : nI n = 0 ↔ n = 0 := nI_eq h (by decide) (b := 0)
/-! stores -/
theorem gm_set_at (M : gm_M) (k i v : Nat) : gm_set M k i v k i = v := if_pos ⟨rfl, rfl⟩
theorem gm_set_ne (M : gm_M) {k i v k' i' : Nat} (h : ¬ (k' = k ∧ i' = i)) : gm_set M k i v k' i' = M k' i' := if_neg h
theorem gm_set_k (M : gm_M) {k i v k' : Nat} (i' : Nat) (h : k' ≠ k) : gm_set M k i v k' i' = M k' i' := if_neg (fun q => h q.1)
theorem gm_set_i (M : gm_M) (k : Nat) {i v i' : Nat} (h : i' ≠ i) : gm_set M k i v k i' = M k i' := if_neg (fun q => h q.2)
/-! what depends on what -/
theorem gm_key_congr {M X : gm_M} {s : Nat} (h14 : X 14 0 = M 14 0) (h5 : X 5 s = M 5 s) (h6 : X 6 s = M 6 s) : gm_key X s = gm_key M s := by
  unfold gm_key; rw [h14, h5, h6]
theorem gm_trn_congr {M X : gm_M} {s : Nat} (h14 : X 14 0 = M 14 0) (h5 : X 5 s = M 5 s) (h6 : X 6 s = M 6 s) : gm_trn X s = gm_trn M s := by
  unfold gm_trn; rw [gm_key_congr h14 h5 h6]
theorem gm_cnt_congr {M X : gm_M} {s : Nat} (h14 : X 14 0 = M 14 0) (hs : X 5 s = M 5 s ∧ X 6 s = M 6 s) : ∀ n : Nat, (∀ k, k < n → X 5 k = M 5 k ∧ X 6 k = M 6 k ∧ X 8 k = M 8 k) → gm_cnt X s n = gm_cnt M s n
  | 0, _ => rfl
  | n + 1, h => by
    have hn := h n (Nat.lt_succ_self n)
    show gm_cnt X s n + _ = gm_cnt M s n + _
    rw [gm_cnt_congr h14 hs n (fun k hk => h k (Nat.lt_succ_of_lt hk)), hn.2.2, gm_trn_congr h14 hn.1 hn.2.1, gm_trn_congr h14 hs.1 hs.2]
theorem gm_who_congr {M X : gm_M} {m : Nat} : ∀ n : Nat, (∀ k, k < n → X 7 k = M 7 k) → gm_who X m n = gm_who M m n
  | 0, _ => rfl
  | n + 1, h => by
    show (if gm_who X m n ≠ 0 then gm_who X m n else if X 7 n = m + 1 then n + 1 else 0) = (if gm_who M m n ≠ 0 then gm_who M m n else if M 7 n = m + 1 then n + 1 else 0)
    rw [gm_who_congr n (fun k hk => h k (Nat.lt_succ_of_lt hk)), h n (Nat.lt_succ_self n)]
theorem gm_gct_congr {M X : gm_M} : ∀ n : Nat, (∀ k, k < n → X 8 k = M 8 k) → gm_gct X n = gm_gct M n
  | 0, _ => rfl
  | n + 1, h => by
    show gm_gct X n + _ = gm_gct M n + _
    rw [gm_gct_congr n (fun k hk => h k (Nat.lt_succ_of_lt hk)), h n (Nat.lt_succ_self n)]
/-! who lies on a stone -/
theorem gm_who_le (M : gm_M) (m : Nat) : ∀ n : Nat, gm_who M m n ≤ n
  | 0 => Nat.le_refl 0
  | n + 1 => by
    have ih := gm_who_le M m n
    show (if gm_who M m n ≠ 0 then gm_who M m n else if M 7 n = m + 1 then n + 1 else 0) ≤ n + 1
    split
    · omega
    · split <;> omega
theorem gm_who_on {M : gm_M} {m : Nat} : ∀ n : Nat, gm_who M m n ≠ 0 → M 7 (gm_who M m n - 1) = m + 1
  | 0, h => absurd rfl h
  | n + 1, h => by
    have hu : gm_who M m (n + 1) = (if gm_who M m n ≠ 0 then gm_who M m n else if M 7 n = m + 1 then n + 1 else 0) := rfl
    by_cases h1 : gm_who M m n ≠ 0
    · rw [hu, if_pos h1]; exact gm_who_on n h1
    · by_cases h2 : M 7 n = m + 1
      · rw [hu, if_neg h1, if_pos h2]; exact h2
      · rw [hu, if_neg h1, if_neg h2] at h; exact absurd rfl h
theorem gm_who_no {M : gm_M} {m : Nat} : ∀ n : Nat, gm_who M m n = 0 → ∀ k, k < n → M 7 k ≠ m + 1
  | 0, _, k, hk => absurd hk (Nat.not_lt_zero k)
  | n + 1, h, k, hk => by
    have hu : gm_who M m (n + 1) = (if gm_who M m n ≠ 0 then gm_who M m n else if M 7 n = m + 1 then n + 1 else 0) := rfl
    by_cases h1 : gm_who M m n ≠ 0
    · rw [hu, if_pos h1] at h; exact absurd h h1
    · by_cases h2 : M 7 n = m + 1
      · rw [hu, if_neg h1, if_pos h2] at h; omega
      · rcases Nat.lt_succ_iff_lt_or_eq.mp hk with q | q
        · exact gm_who_no n (by omega) k q
        · rw [q]; exact h2
theorem gm_who_zero {M : gm_M} {m : Nat} : ∀ n : Nat, (∀ k, k < n → M 7 k ≠ m + 1) → gm_who M m n = 0
  | 0, _ => rfl
  | n + 1, h => by
    show (if gm_who M m n ≠ 0 then gm_who M m n else if M 7 n = m + 1 then n + 1 else 0) = 0
    rw [gm_who_zero n (fun k hk => h k (Nat.lt_succ_of_lt hk)), if_neg (fun q => q rfl), if_neg (h n (Nat.lt_succ_self n))]
/-- with the sacks apart: just the one that lies there -/
theorem gm_who_is {M : gm_M} {m n s : Nat} (hs : s < n) (h : M 7 s = m + 1) (hap : ∀ i, i < n → M 7 i = m + 1 → i = s) : gm_who M m n = s + 1 := by
  by_cases h0 : gm_who M m n = 0
  · exact absurd h (gm_who_no n h0 s hs)
  · have h1 := gm_who_on n h0
    have h2 := gm_who_le M m n
    have := hap (gm_who M m n - 1) (by omega) h1
    omega
/-! the next one -/
theorem gm_nxt_le (M : gm_M) (f : Nat) : ∀ n : Nat, gm_nxt M f n ≤ n
  | 0 => Nat.le_refl 0
  | n + 1 => by
    have ih := gm_nxt_le M f n
    show (if M 8 n = 0 ∧ (f = 0 ∨ M 7 n = 0) ∧ (gm_nxt M f n = 0 ∨ gm_trn M n < gm_trn M (gm_nxt M f n - 1)) then n + 1 else gm_nxt M f n) ≤ n + 1
    split <;> omega
theorem gm_nxt_ok {M : gm_M} {f : Nat} : ∀ n : Nat, gm_nxt M f n ≠ 0 → M 8 (gm_nxt M f n - 1) = 0 ∧ (f = 0 ∨ M 7 (gm_nxt M f n - 1) = 0)
  | 0, h => absurd rfl h
  | n + 1, h => by
    have hu : gm_nxt M f (n + 1) = (if M 8 n = 0 ∧ (f = 0 ∨ M 7 n = 0) ∧ (gm_nxt M f n = 0 ∨ gm_trn M n < gm_trn M (gm_nxt M f n - 1)) then n + 1 else gm_nxt M f n) := rfl
    by_cases h1 : M 8 n = 0 ∧ (f = 0 ∨ M 7 n = 0) ∧ (gm_nxt M f n = 0 ∨ gm_trn M n < gm_trn M (gm_nxt M f n - 1))
    · rw [hu, if_pos h1]; exact ⟨h1.1, h1.2.1⟩
    · rw [hu, if_neg h1] at h ⊢; exact gm_nxt_ok n h
/-! the class's cells, read as a mill -/
def gc_up (B : Nat → Nat → Int32) (k : Nat) (f : Nat → Int32) : Nat → Nat → Int32 := fun k' => if k' = k then f else B k'
theorem gc_up_at (B : Nat → Nat → Int32) (k : Nat) (f : Nat → Int32) : gc_up B k f k = f := if_pos rfl
theorem gc_up_ne (B : Nat → Nat → Int32) {k k' : Nat} (f : Nat → Int32) (h : k' ≠ k) : gc_up B k f k' = B k' := if_neg h
def gc_rep (F : Nat → Int32) (B : Nat → Nat → Int32) (M : gm_M) : Prop :=
  (F 9 = nI (M 9 0) ∧ F 10 = nI (M 10 0) ∧ F 11 = nI (M 11 0) ∧ F 12 = nI (gm_gct M (M 11 0)) ∧ F 13 = nI (M 13 0) ∧ F 14 = nI (M 14 0) ∧ F 15 = nI (M 15 0)) ∧
  (∀ i, i < 12 → B 0 i = nI (M 0 i)) ∧ (∀ i, i < M 10 0 → B 1 i = nI (M 1 i)) ∧ (∀ i, i < M 10 0 → B 2 i = gm_e (gm_who M i (M 11 0))) ∧
  (∀ i, i < M 11 0 → B 4 i = nI (M 4 i)) ∧ (∀ i, i < M 11 0 → B 5 i = nI (M 5 i)) ∧ (∀ i, i < M 11 0 → B 6 i = nI (M 6 i)) ∧ (∀ i, i < M 11 0 → B 7 i = gm_e (M 7 i)) ∧ (∀ i, i < M 11 0 → B 8 i = gm_e (M 8 i))
/-- alike in all that can be asked -/
def gm_same (M X : gm_M) : Prop := ∀ k i, (k < 3 ∨ 8 < k ∨ (3 < k ∧ i < M 11 0)) → X k i = M k i
theorem gc_rep_same {F : Nat → Int32} {B : Nat → Nat → Int32} {M X : gm_M} (h : gc_rep F B M) (hs : gm_same M X) : gc_rep F B X := by
  obtain ⟨⟨h9, h10, h11, h12, h13, h14, h15⟩, r0, r1, r2, r4, r5, r6, r7, r8⟩ := h
  have e11 : X 11 0 = M 11 0 := hs 11 0 (by omega)
  have e10 : X 10 0 = M 10 0 := hs 10 0 (by omega)
  refine ⟨⟨?_, ?_, ?_, ?_, ?_, ?_, ?_⟩, ?_, ?_, ?_, ?_, ?_, ?_, ?_, ?_⟩
  · rw [hs 9 0 (by omega)]; exact h9
  · rw [e10]; exact h10
  · rw [e11]; exact h11
  · rw [e11, gm_gct_congr (M := M) _ (fun k hk => hs 8 k (by omega))]; exact h12
  · rw [hs 13 0 (by omega)]; exact h13
  · rw [hs 14 0 (by omega)]; exact h14
  · rw [hs 15 0 (by omega)]; exact h15
  · intro i hi; rw [hs 0 i (by omega)]; exact r0 i hi
  · intro i hi; rw [e10] at hi; rw [hs 1 i (by omega)]; exact r1 i hi
  · intro i hi; rw [e10] at hi; rw [e11, gm_who_congr (M := M) _ (fun k hk => hs 7 k (by omega))]; exact r2 i hi
  · intro i hi; rw [e11] at hi; rw [hs 4 i (by omega)]; exact r4 i hi
  · intro i hi; rw [e11] at hi; rw [hs 5 i (by omega)]; exact r5 i hi
  · intro i hi; rw [e11] at hi; rw [hs 6 i (by omega)]; exact r6 i hi
  · intro i hi; rw [e11] at hi; rw [hs 7 i (by omega)]; exact r7 i hi
  · intro i hi; rw [e11] at hi; rw [hs 8 i (by omega)]; exact r8 i hi
theorem gm_wf_same {M X : gm_M} (h : gm_wf M) (hs : gm_same M X) : gm_wf X := by
  obtain ⟨w1, w2, w3, w4, w5, w6, w7, w8⟩ := h
  have e11 : X 11 0 = M 11 0 := hs 11 0 (by omega)
  have e10 : X 10 0 = M 10 0 := hs 10 0 (by omega)
  refine ⟨by rw [e10]; exact w1, by rw [e11]; exact w2, by rw [hs 14 0 (by omega)]; exact w3, by rw [hs 15 0 (by omega)]; exact w4, fun i hi => ?_, fun i hi => ?_, fun i hi => ?_, fun i j hi hj => ?_⟩
  · rw [hs 0 i (by omega)]; exact w5 i hi
  · rw [e10] at hi; rw [hs 1 i (by omega)]; exact w6 i hi
  · rw [e11] at hi; rw [hs 4 i (by omega), hs 5 i (by omega), hs 6 i (by omega), hs 7 i (by omega), hs 8 i (by omega), e10, hs 9 0 (by omega)]; exact w7 i hi
  · rw [e11] at hi hj; rw [hs 7 i (by omega), hs 7 j (by omega)]; exact w8 i j hi hj
theorem gm_rest_same {M X : gm_M} (h : gm_rest M) (hs : gm_same M X) : gm_rest X := by
  intro i hi
  rw [hs 11 0 (by omega)] at hi
  rw [hs 5 i (by omega), hs 8 i (by omega)]; exact h i hi
theorem gm_mid_same {M X : gm_M} (h : gm_mid M) (hs : gm_same M X) : gm_mid X := by
  intro i hi
  rw [hs 11 0 (by omega)] at hi
  rw [hs 5 i (by omega), hs 8 i (by omega), hs 7 i (by omega)]; exact h i hi
/-! one stone's sack is taken off -/
theorem gm_clr_ne (M : gm_M) (m i : Nat) {k : Nat} (h : k ≠ 7) : gm_clr M m k i = M k i := if_neg (fun q => h q.1)
theorem gm_clr_7 (M : gm_M) (m i : Nat) : gm_clr M m 7 i = if M 7 i = m + 1 then 0 else M 7 i := by
  show (if (7 : Nat) = 7 ∧ M 7 i = m + 1 then 0 else M 7 i) = _
  by_cases h : M 7 i = m + 1
  · rw [if_pos ⟨rfl, h⟩, if_pos h]
  · rw [if_neg (fun q => h q.2), if_neg h]
/-- who, when sacks are taken off stones: the stones that none is taken off -/
theorem gm_who_keep {M X : gm_M} {j : Nat} : ∀ n : Nat, (∀ k, k < n → (X 7 k = j + 1 ↔ M 7 k = j + 1)) → gm_who X j n = gm_who M j n
  | 0, _ => rfl
  | n + 1, h => by
    show (if gm_who X j n ≠ 0 then gm_who X j n else if X 7 n = j + 1 then n + 1 else 0) = (if gm_who M j n ≠ 0 then gm_who M j n else if M 7 n = j + 1 then n + 1 else 0)
    rw [gm_who_keep n (fun k hk => h k (Nat.lt_succ_of_lt hk))]
    have := h n (Nat.lt_succ_self n)
    by_cases h1 : M 7 n = j + 1
    · rw [if_pos h1, if_pos (this.mpr h1)]
    · rw [if_neg h1, if_neg (fun q => h1 (this.mp q))]
theorem gc_rep_clr0 {F : Nat → Int32} {B : Nat → Nat → Int32} {M : gm_M} {m : Nat} (h : gc_rep F B M) (hw : gm_who M m (M 11 0) = 0) : gc_rep F B (gm_clr M m) := by
  refine gc_rep_same h (fun k i hk => ?_)
  by_cases h7 : k = 7
  · subst h7
    have := gm_who_no _ hw i (by omega)
    rw [gm_clr_7, if_neg this]
  · exact gm_clr_ne M m i h7
def gm_ap (M : gm_M) : Prop := ∀ i j, i < M 11 0 → j < M 11 0 → M 7 i = M 7 j → M 7 i ≠ 0 → i = j
theorem gc_rep_clr {F : Nat → Int32} {B : Nat → Nat → Int32} {M : gm_M} {m : Nat} (w8 : gm_ap M) (h : gc_rep F B M) (hm : m < M 10 0) (hw : gm_who M m (M 11 0) ≠ 0) :
    gc_rep F (gc_up (gc_up B 7 (upd (B 7) (gm_who M m (M 11 0) - 1) (-1))) 2 (upd (B 2) m (-1))) (gm_clr M m) := by
  obtain ⟨⟨h9, h10, h11, h12, h13, h14, h15⟩, r0, r1, r2, r4, r5, r6, r7, r8⟩ := h
  have hon := gm_who_on _ hw
  have hle := gm_who_le M m (M 11 0)
  have e : ∀ k i, k ≠ 7 → gm_clr M m k i = M k i := fun k i hk => gm_clr_ne M m i hk
  have e11 : gm_clr M m 11 0 = M 11 0 := e 11 0 (by decide)
  have e10 : gm_clr M m 10 0 = M 10 0 := e 10 0 (by decide)
  refine ⟨⟨?_, ?_, ?_, ?_, ?_, ?_, ?_⟩, ?_, ?_, ?_, ?_, ?_, ?_, ?_, ?_⟩
  · rw [e 9 0 (by decide)]; exact h9
  · rw [e10]; exact h10
  · rw [e11]; exact h11
  · rw [e11, gm_gct_congr (M := M) _ (fun k hk => e 8 k (by decide))]; exact h12
  · rw [e 13 0 (by decide)]; exact h13
  · rw [e 14 0 (by decide)]; exact h14
  · rw [e 15 0 (by decide)]; exact h15
  · intro i hi; rw [e 0 i (by decide)]; exact r0 i hi
  · intro i hi; rw [e10] at hi; rw [e 1 i (by decide)]; exact r1 i hi
  · intro i hi
    rw [e10] at hi
    rw [e11]
    show upd (B 2) m (-1) i = _
    by_cases hi2 : i = m
    · subst hi2
      rw [pk_us, gm_who_zero _ (fun k hk => ?_)]
      · rfl
      · rw [gm_clr_7]
        split
        · omega
        · assumption
    · rw [pk_un hi2, r2 i hi]
      refine congrArg gm_e (gm_who_keep _ (fun k hk => ?_)).symm
      rw [gm_clr_7]
      split
      · omega
      · exact Iff.rfl
  · intro i hi; rw [e11] at hi; rw [e 4 i (by decide)]; exact r4 i hi
  · intro i hi; rw [e11] at hi; rw [e 5 i (by decide)]; exact r5 i hi
  · intro i hi; rw [e11] at hi; rw [e 6 i (by decide)]; exact r6 i hi
  · intro i hi
    rw [e11] at hi
    show upd (B 7) (gm_who M m (M 11 0) - 1) (-1) i = _
    rw [gm_clr_7]
    by_cases hi2 : i = gm_who M m (M 11 0) - 1
    · rw [hi2, pk_us, if_pos hon]; rfl
    · rw [pk_un hi2, if_neg, r7 i hi]
      intro q
      exact hi2 (w8 i _ hi (by omega) (by rw [q, hon]) (by omega))
  · intro i hi; rw [e11] at hi; rw [e 8 i (by decide)]; exact r8 i hi
/-! taking off -/
theorem gm_wf_off {M X : gm_M} (wf : gm_wf M) (h : ∀ k i, k ≠ 7 → X k i = M k i) (h7 : ∀ i, X 7 i = 0 ∨ X 7 i = M 7 i) : gm_wf X := by
  obtain ⟨w1, w2, w3, w4, w5, w6, w7, w8⟩ := wf
  have e11 : X 11 0 = M 11 0 := h 11 0 (by decide)
  have e10 : X 10 0 = M 10 0 := h 10 0 (by decide)
  refine ⟨by rw [e10]; exact w1, by rw [e11]; exact w2, by rw [h 14 0 (by decide)]; exact w3, by rw [h 15 0 (by decide)]; exact w4, fun i hi => ?_, fun i hi => ?_, fun i hi => ?_, fun i j hi hj hij hn => ?_⟩
  · rw [h 0 i (by decide)]; exact w5 i hi
  · rw [e10] at hi; rw [h 1 i (by decide)]; exact w6 i hi
  · rw [e11] at hi
    rw [h 4 i (by decide), h 5 i (by decide), h 6 i (by decide), h 8 i (by decide), e10, h 9 0 (by decide)]
    obtain ⟨a1, a2, a3, a4, a5, a6, a7⟩ := w7 i hi
    have := h7 i
    exact ⟨a1, a2, a3, a4, by omega, fun q => ⟨by have := (a6 q).1; omega, (a6 q).2⟩, a7⟩
  · rw [e11] at hi hj
    have p1 := h7 i
    have p2 := h7 j
    exact w8 i j hi hj (by omega) (by omega)
theorem gm_rest_off {M X : gm_M} (h : gm_rest M) (e : ∀ k i, k ≠ 7 → X k i = M k i) : gm_rest X := by
  intro i hi
  rw [e 11 0 (by decide)] at hi
  rw [e 5 i (by decide), e 8 i (by decide)]
  exact h i hi
theorem gm_tkc_ne (M : gm_M) (m i : Nat) {k : Nat} (h : k ≠ 7) : gm_tkc M m k i = M k i := if_neg (fun q => h q.1)
theorem gm_tkp_ne (M : gm_M) (m i : Nat) {k : Nat} (h : k ≠ 7) : gm_tkp M m k i = M k i := if_neg (fun q => h q.1)
theorem gm_tkc_7 (M : gm_M) (m i : Nat) : gm_tkc M m 7 i = if M 7 i ≤ m ∧ M 10 0 ≤ gm_cnt M i (M 11 0) then 0 else M 7 i := by
  show (if (7 : Nat) = 7 ∧ M 7 i ≤ m ∧ M 10 0 ≤ gm_cnt M i (M 11 0) then 0 else M 7 i) = _
  by_cases h : M 7 i ≤ m ∧ M 10 0 ≤ gm_cnt M i (M 11 0)
  · rw [if_pos ⟨rfl, h⟩, if_pos h]
  · rw [if_neg (fun q => h q.2), if_neg h]
theorem gm_tkp_7 (M : gm_M) (n i : Nat) : gm_tkp M n 7 i = if i < n ∧ M 10 0 ≤ gm_cnt M i (M 11 0) then 0 else M 7 i := by
  show (if (7 : Nat) = 7 ∧ i < n ∧ M 10 0 ≤ gm_cnt M i (M 11 0) then 0 else M 7 i) = _
  by_cases h : i < n ∧ M 10 0 ≤ gm_cnt M i (M 11 0)
  · rw [if_pos ⟨rfl, h⟩, if_pos h]
  · rw [if_neg (fun q => h q.2), if_neg h]
theorem gm_tkc_wf {M : gm_M} (m : Nat) (wf : gm_wf M) : gm_wf (gm_tkc M m) := gm_wf_off wf (fun k i h => gm_tkc_ne M m i h) (fun i => by rw [gm_tkc_7]; split <;> simp)
theorem gm_tkp_wf {M : gm_M} (m : Nat) (wf : gm_wf M) : gm_wf (gm_tkp M m) := gm_wf_off wf (fun k i h => gm_tkp_ne M m i h) (fun i => by rw [gm_tkp_7]; split <;> simp)
theorem gm_tkc_rest {M : gm_M} (m : Nat) (h : gm_rest M) : gm_rest (gm_tkc M m) := gm_rest_off h (fun k i h => gm_tkc_ne M m i h)
theorem gm_tkp_rest {M : gm_M} (m : Nat) (h : gm_rest M) : gm_rest (gm_tkp M m) := gm_rest_off h (fun k i h => gm_tkp_ne M m i h)
theorem gm_tkc_cnt (M : gm_M) (m i n : Nat) : gm_cnt (gm_tkc M m) i n = gm_cnt M i n :=
  gm_cnt_congr (gm_tkc_ne M m 0 (by decide)) ⟨gm_tkc_ne M m i (by decide), gm_tkc_ne M m i (by decide)⟩ n (fun k _ => ⟨gm_tkc_ne M m k (by decide), gm_tkc_ne M m k (by decide), gm_tkc_ne M m k (by decide)⟩)
theorem gm_tkp_cnt (M : gm_M) (m i n : Nat) : gm_cnt (gm_tkp M m) i n = gm_cnt M i n :=
  gm_cnt_congr (gm_tkp_ne M m 0 (by decide)) ⟨gm_tkp_ne M m i (by decide), gm_tkp_ne M m i (by decide)⟩ n (fun k _ => ⟨gm_tkp_ne M m k (by decide), gm_tkp_ne M m k (by decide), gm_tkp_ne M m k (by decide)⟩)
theorem gm_tkc_0 (M : gm_M) : gm_same M (gm_tkc M 0) := by
  intro k i _
  by_cases h7 : k = 7
  · subst h7
    rw [gm_tkc_7]
    split <;> omega
  · exact gm_tkc_ne M 0 i h7
theorem gm_tkc_who (M : gm_M) (m n : Nat) : gm_who (gm_tkc M m) m n = gm_who M m n :=
  gm_who_keep n (fun k _ => by rw [gm_tkc_7]; split <;> omega)
theorem gm_tkc_skip {M : gm_M} {m : Nat} (h : ∀ i, i < M 11 0 → M 7 i = m + 1 → gm_cnt M i (M 11 0) < M 10 0) : gm_same (gm_tkc M m) (gm_tkc M (m + 1)) := by
  intro k i hk
  rw [gm_tkc_ne M m 0 (by decide)] at hk
  by_cases h7 : k = 7
  · subst h7
    have := h i (by omega)
    rw [gm_tkc_7, gm_tkc_7]
    split <;> split <;> omega
  · rw [gm_tkc_ne M m i h7, gm_tkc_ne M _ i h7]
theorem gm_tkc_clr {M : gm_M} {m : Nat} (h : ∀ i, i < M 11 0 → M 7 i = m + 1 → M 10 0 ≤ gm_cnt M i (M 11 0)) : gm_same (gm_clr (gm_tkc M m) m) (gm_tkc M (m + 1)) := by
  intro k i hk
  rw [gm_clr_ne _ m 0 (by decide), gm_tkc_ne M m 0 (by decide)] at hk
  by_cases h7 : k = 7
  · subst h7
    have := h i (by omega)
    rw [gm_clr_7, gm_tkc_7, gm_tkc_7]
    split <;> split <;> split <;> omega
  · rw [gm_clr_ne _ m i h7, gm_tkc_ne M m i h7, gm_tkc_ne M _ i h7]
theorem gm_tkc_all {M : gm_M} (wf : gm_wf M) : gm_same (gm_tkc M (M 10 0)) (gm_tkp M (M 11 0)) := by
  intro k i hk
  rw [gm_tkc_ne M _ 0 (by decide)] at hk
  by_cases h7 : k = 7
  · subst h7
    have := (wf.2.2.2.2.2.2.1 i (by omega)).2.2.2.2.1
    rw [gm_tkc_7, gm_tkp_7]
    split <;> split <;> omega
  · rw [gm_tkc_ne M _ i h7, gm_tkp_ne M _ i h7]
theorem gm_tkp_0 (M : gm_M) : gm_tkp M 0 = M := by
  funext k i
  exact if_neg (fun q => absurd q.2.1 (Nat.not_lt_zero i))
theorem gm_tkp_skip {M : gm_M} {n : Nat} (h : M 7 n = 0 ∨ gm_cnt M n (M 11 0) < M 10 0) : gm_tkp M (n + 1) = gm_tkp M n := by
  funext k i
  by_cases h7 : k = 7
  · subst h7
    rw [gm_tkp_7, gm_tkp_7]
    by_cases hi : i = n
    · subst hi
      split <;> split <;> omega
    · split <;> split <;> omega
  · rw [gm_tkp_ne M _ i h7, gm_tkp_ne M _ i h7]
theorem gm_tkp_off {M : gm_M} {n : Nat} (h : M 10 0 ≤ gm_cnt M n (M 11 0)) : gm_tkp M (n + 1) = gm_set (gm_tkp M n) 7 n 0 := by
  funext k i
  by_cases h7 : k = 7
  · subst h7
    rw [gm_tkp_7]
    by_cases hi : i = n
    · subst hi
      rw [gm_set_at, if_pos ⟨by omega, h⟩]
    · rw [gm_set_i _ _ hi, gm_tkp_7]
      split <;> split <;> omega
  · rw [gm_set_k _ _ h7, gm_tkp_ne M _ i h7, gm_tkp_ne M _ i h7]
/-! a stone gets a sack -/
theorem gc_rep_set3 {F : Nat → Int32} {B : Nat → Nat → Int32} {M : gm_M} (m v : Nat) (f : Nat → Int32) (h : gc_rep F B M) : gc_rep F (gc_up B 3 f) (gm_set M 3 m v) := by
  obtain ⟨⟨h9, h10, h11, h12, h13, h14, h15⟩, r0, r1, r2, r4, r5, r6, r7, r8⟩ := h
  have e : ∀ k i, k ≠ 3 → gm_set M 3 m v k i = M k i := fun k i hk => gm_set_k M i hk
  have hr : gc_rep F (gc_up B 3 f) M := ⟨⟨h9, h10, h11, h12, h13, h14, h15⟩, r0, r1, r2, r4, r5, r6, r7, r8⟩
  obtain ⟨⟨h9, h10, h11, h12, h13, h14, h15⟩, r0, r1, r2, r4, r5, r6, r7, r8⟩ := hr
  have e11 : gm_set M 3 m v 11 0 = M 11 0 := e 11 0 (by decide)
  have e10 : gm_set M 3 m v 10 0 = M 10 0 := e 10 0 (by decide)
  refine ⟨⟨?_, ?_, ?_, ?_, ?_, ?_, ?_⟩, ?_, ?_, ?_, ?_, ?_, ?_, ?_, ?_⟩
  · rw [e 9 0 (by decide)]; exact h9
  · rw [e10]; exact h10
  · rw [e11]; exact h11
  · rw [e11, gm_gct_congr (M := M) _ (fun k hk => e 8 k (by decide))]; exact h12
  · rw [e 13 0 (by decide)]; exact h13
  · rw [e 14 0 (by decide)]; exact h14
  · rw [e 15 0 (by decide)]; exact h15
  · intro i hi; rw [e 0 i (by decide)]; exact r0 i hi
  · intro i hi; rw [e10] at hi; rw [e 1 i (by decide)]; exact r1 i hi
  · intro i hi; rw [e10] at hi; rw [e11, gm_who_congr (M := M) _ (fun k hk => e 7 k (by decide))]; exact r2 i hi
  · intro i hi; rw [e11] at hi; rw [e 4 i (by decide)]; exact r4 i hi
  · intro i hi; rw [e11] at hi; rw [e 5 i (by decide)]; exact r5 i hi
  · intro i hi; rw [e11] at hi; rw [e 6 i (by decide)]; exact r6 i hi
  · intro i hi; rw [e11] at hi; rw [e 7 i (by decide)]; exact r7 i hi
  · intro i hi; rw [e11] at hi; rw [e 8 i (by decide)]; exact r8 i hi
/-- a sack s on the free stone m -/
def gm_put (X : gm_M) (m s : Nat) : gm_M := gm_set (gm_set X 7 s (m + 1)) 13 0 (X 13 0 + 1)
theorem gm_put_ne (X : gm_M) (m s i : Nat) {k : Nat} (h7 : k ≠ 7) (h13 : k ≠ 13) : gm_put X m s k i = X k i := by
  unfold gm_put; rw [gm_set_k _ _ h13, gm_set_k _ _ h7]
theorem gm_put_7 (X : gm_M) (m s i : Nat) : gm_put X m s 7 i = if i = s then m + 1 else X 7 i := by
  unfold gm_put
  rw [gm_set_k _ _ (by decide)]
  by_cases h : i = s
  · rw [h, gm_set_at, if_pos rfl]
  · rw [gm_set_i _ _ h, if_neg h]
theorem gm_put_13 (X : gm_M) (m s : Nat) : gm_put X m s 13 0 = X 13 0 + 1 := gm_set_at _ _ _ _
theorem gm_wf_put {M : gm_M} {m s : Nat} (wf : gm_wf M) (hm : m < M 10 0) (hs : s < M 11 0) (hd : M 8 s = 0) (hw : gm_who M m (M 11 0) = 0) : gm_wf (gm_put M m s) := by
  obtain ⟨w1, w2, w3, w4, w5, w6, w7, w8⟩ := wf
  have hno := gm_who_no _ hw
  have e : ∀ k i, k ≠ 7 → k ≠ 13 → gm_put M m s k i = M k i := fun k i h1 h2 => gm_put_ne M m s i h1 h2
  have e11 : gm_put M m s 11 0 = M 11 0 := e 11 0 (by decide) (by decide)
  have e10 : gm_put M m s 10 0 = M 10 0 := e 10 0 (by decide) (by decide)
  refine ⟨by rw [e10]; exact w1, by rw [e11]; exact w2, by rw [e 14 0 (by decide) (by decide)]; exact w3, by rw [e 15 0 (by decide) (by decide)]; exact w4, fun i hi => ?_, fun i hi => ?_, fun i hi => ?_, fun i j hi hj hij hn => ?_⟩
  · rw [e 0 i (by decide) (by decide)]; exact w5 i hi
  · rw [e10] at hi; rw [e 1 i (by decide) (by decide)]; exact w6 i hi
  · rw [e11] at hi
    rw [e 4 i (by decide) (by decide), e 5 i (by decide) (by decide), e 6 i (by decide) (by decide), e 8 i (by decide) (by decide), e10, e 9 0 (by decide) (by decide), gm_put_7]
    obtain ⟨a1, a2, a3, a4, a5, a6, a7⟩ := w7 i hi
    by_cases his : i = s
    · subst his
      rw [if_pos rfl]
      exact ⟨a1, a2, a3, a4, hm, fun q => absurd hd q, a7⟩
    · rw [if_neg his]
      exact ⟨a1, a2, a3, a4, a5, a6, a7⟩
  · rw [e11] at hi hj
    rw [gm_put_7, gm_put_7] at hij
    rw [gm_put_7] at hn
    have q1 := hno i hi
    have q2 := hno j hj
    by_cases his : i = s
    · by_cases hjs : j = s
      · rw [his, hjs]
      · rw [if_pos his, if_neg hjs] at hij
        exact absurd hij.symm q2
    · by_cases hjs : j = s
      · rw [if_neg his, if_pos hjs] at hij
        exact absurd hij q1
      · rw [if_neg his] at hij hn
        rw [if_neg hjs] at hij
        exact w8 i j hi hj hij hn
theorem gm_rest_put {M : gm_M} {m s : Nat} (h : gm_rest M) : gm_rest (gm_put M m s) := by
  intro i hi
  rw [gm_put_ne _ _ _ _ (by decide) (by decide)] at hi
  rw [gm_put_ne _ _ _ _ (by decide) (by decide), gm_put_ne _ _ _ _ (by decide) (by decide)]
  exact h i hi
theorem gc_rep_put {F : Nat → Int32} {B : Nat → Nat → Int32} {M : gm_M} {m s : Nat} (wf : gm_wf M) (h : gc_rep F B M) (hm : m < M 10 0) (hs : s < M 11 0) (h0 : M 7 s = 0) (hw : gm_who M m (M 11 0) = 0) :
    gc_rep (upd F 13 (nI (M 13 0 + 1))) (gc_up (gc_up B 2 (upd (B 2) m (nI s))) 7 (upd (B 7) s (nI m))) (gm_put M m s) := by
  obtain ⟨⟨h9, h10, h11, h12, h13, h14, h15⟩, r0, r1, r2, r4, r5, r6, r7, r8⟩ := h
  have hno := gm_who_no _ hw
  have e : ∀ k i, k ≠ 7 → k ≠ 13 → gm_put M m s k i = M k i := fun k i h1 h2 => gm_put_ne M m s i h1 h2
  have e11 : gm_put M m s 11 0 = M 11 0 := e 11 0 (by decide) (by decide)
  have e10 : gm_put M m s 10 0 = M 10 0 := e 10 0 (by decide) (by decide)
  refine ⟨⟨?_, ?_, ?_, ?_, ?_, ?_, ?_⟩, ?_, ?_, ?_, ?_, ?_, ?_, ?_, ?_⟩
  · rw [e 9 0 (by decide) (by decide)]; exact h9
  · rw [e10]; exact h10
  · rw [e11]; exact h11
  · rw [e11, gm_gct_congr (M := M) _ (fun k hk => e 8 k (by decide) (by decide))]; exact h12
  · rw [gm_put_13]; rfl
  · rw [e 14 0 (by decide) (by decide)]; exact h14
  · rw [e 15 0 (by decide) (by decide)]; exact h15
  · intro i hi; rw [e 0 i (by decide) (by decide)]; exact r0 i hi
  · intro i hi; rw [e10] at hi; rw [e 1 i (by decide) (by decide)]; exact r1 i hi
  · intro i hi
    rw [e10] at hi
    rw [e11]
    show upd (B 2) m (nI s) i = _
    by_cases hi2 : i = m
    · subst hi2
      rw [pk_us, gm_who_is hs (by rw [gm_put_7, if_pos rfl]), gm_eS]
      intro j hj hj1
      rw [gm_put_7] at hj1
      by_cases hjs : j = s
      · exact hjs
      · rw [if_neg hjs] at hj1
        exact absurd hj1 (hno j hj)
    · rw [pk_un hi2, r2 i hi]
      refine congrArg gm_e (gm_who_keep _ (fun k hk => ?_)).symm
      rw [gm_put_7]
      by_cases hks : k = s
      · rw [if_pos hks, hks, h0]; omega
      · rw [if_neg hks]
  · intro i hi; rw [e11] at hi; rw [e 4 i (by decide) (by decide)]; exact r4 i hi
  · intro i hi; rw [e11] at hi; rw [e 5 i (by decide) (by decide)]; exact r5 i hi
  · intro i hi; rw [e11] at hi; rw [e 6 i (by decide) (by decide)]; exact r6 i hi
  · intro i hi
    rw [e11] at hi
    show upd (B 7) s (nI m) i = _
    rw [gm_put_7]
    by_cases his : i = s
    · rw [his, pk_us, if_pos rfl, gm_eS]
    · rw [pk_un his, if_neg his]; exact r7 i hi
  · intro i hi; rw [e11] at hi; rw [e 8 i (by decide) (by decide)]; exact r8 i hi

theorem gm_wf_ap {M : gm_M} (wf : gm_wf M) : gm_ap M := wf.2.2.2.2.2.2.2
theorem gm_same_rf (M : gm_M) : gm_same M M := fun _ _ _ => rfl
theorem gm_same_tr {M X Y : gm_M} (h1 : gm_same M X) (h2 : gm_same X Y) : gm_same M Y := by
  intro k i h
  have e11 : X 11 0 = M 11 0 := h1 11 0 (by omega)
  rw [h2 k i (by rw [e11]; exact h), h1 k i h]
theorem gm_same_set3 (M : gm_M) (m v : Nat) : gm_same M (gm_set M 3 m v) := fun k i h => gm_set_k M i (by omega)
/-! filling the stones -/
theorem gm_fs_0 {X : gm_M} {m : Nat} (h : gm_who X m (X 11 0) ≠ 0) : gm_fs X m = gm_set X 3 m 0 := by unfold gm_fs; rw [if_neg h]
theorem gm_fs_1 {X : gm_M} {m : Nat} (h : gm_who X m (X 11 0) = 0) (hn : gm_nxt X 1 (X 11 0) = 0) : gm_fs X m = gm_set X 3 m 0 := by unfold gm_fs; rw [if_pos h, if_pos hn]
theorem gm_fs_2 {X : gm_M} {m : Nat} (h : gm_who X m (X 11 0) = 0) (hn : gm_nxt X 1 (X 11 0) ≠ 0) : gm_fs X m = gm_set (gm_put X m (gm_nxt X 1 (X 11 0) - 1)) 3 m 1 := by unfold gm_fs; rw [if_pos h, if_neg hn]; rfl
theorem gm_fs_cases (X : gm_M) (m : Nat) : (gm_who X m (X 11 0) = 0 ∧ gm_nxt X 1 (X 11 0) ≠ 0 ∧ gm_fs X m = gm_set (gm_put X m (gm_nxt X 1 (X 11 0) - 1)) 3 m 1) ∨ ((gm_who X m (X 11 0) ≠ 0 ∨ gm_nxt X 1 (X 11 0) = 0) ∧ gm_fs X m = gm_set X 3 m 0) := by
  by_cases h : gm_who X m (X 11 0) = 0
  · by_cases hn : gm_nxt X 1 (X 11 0) = 0
    · exact Or.inr ⟨Or.inr hn, gm_fs_1 h hn⟩
    · exact Or.inl ⟨h, hn, gm_fs_2 h hn⟩
  · exact Or.inr ⟨Or.inl h, gm_fs_0 h⟩
theorem gm_fs_ne (X : gm_M) (m i : Nat) {k : Nat} (h3 : k ≠ 3) (h7 : k ≠ 7) (h13 : k ≠ 13) : gm_fs X m k i = X k i := by
  rcases gm_fs_cases X m with ⟨_, _, h⟩ | ⟨_, h⟩ <;> rw [h, gm_set_k _ _ h3]
  exact gm_put_ne _ _ _ _ h7 h13
theorem gm_fil_ne (M : gm_M) (i : Nat) {k : Nat} (h3 : k ≠ 3) (h7 : k ≠ 7) (h13 : k ≠ 13) : ∀ m : Nat, gm_fil M m k i = M k i
  | 0 => rfl
  | m + 1 => (gm_fs_ne (gm_fil M m) m i h3 h7 h13).trans (gm_fil_ne M i h3 h7 h13 m)
theorem gm_fs_wf {X : gm_M} {m : Nat} (wf : gm_wf X) (hm : m < X 10 0) : gm_wf (gm_fs X m) := by
  rcases gm_fs_cases X m with ⟨h1, h2, h⟩ | ⟨_, h⟩ <;> rw [h]
  · have hk := gm_nxt_ok _ h2
    have hl := gm_nxt_le X 1 (X 11 0)
    exact gm_wf_same (gm_wf_put wf hm (by omega) hk.1 h1) (gm_same_set3 _ _ _)
  · exact gm_wf_same wf (gm_same_set3 _ _ _)
theorem gm_fs_rest {X : gm_M} {m : Nat} (hr : gm_rest X) : gm_rest (gm_fs X m) := by
  rcases gm_fs_cases X m with ⟨h1, h2, h⟩ | ⟨_, h⟩ <;> rw [h]
  · exact gm_rest_same (gm_rest_put hr) (gm_same_set3 _ _ _)
  · exact gm_rest_same hr (gm_same_set3 _ _ _)
theorem gm_fil_wf {M : gm_M} (wf : gm_wf M) : ∀ m : Nat, m ≤ M 10 0 → gm_wf (gm_fil M m)
  | 0, _ => wf
  | m + 1, h => gm_fs_wf (gm_fil_wf wf m (Nat.le_of_succ_le h)) (by rw [gm_fil_ne M 0 (by decide) (by decide) (by decide)]; exact h)
theorem gm_fil_rest {M : gm_M} (hr : gm_rest M) : ∀ m : Nat, gm_rest (gm_fil M m)
  | 0 => hr
  | m + 1 => gm_fs_rest (gm_fil_rest hr m)
/-- fresh is 0 or 1, and stays as it was set -/
theorem gm_fs_3 (X : gm_M) (m : Nat) : gm_fs X m 3 m ≤ 1 := by
  rcases gm_fs_cases X m with ⟨_, _, h⟩ | ⟨_, h⟩ <;> rw [h, gm_set_at] <;> omega
theorem gm_fs_3n (X : gm_M) {m i : Nat} (hi : i ≠ m) : gm_fs X m 3 i = X 3 i := by
  rcases gm_fs_cases X m with ⟨_, _, h⟩ | ⟨_, h⟩ <;> rw [h, gm_set_i _ _ hi]
  exact gm_put_ne _ _ _ _ (by decide) (by decide)
theorem gm_fil_3 (M : gm_M) : ∀ m i : Nat, i < m → gm_fil M m 3 i ≤ 1
  | 0, i, h => absurd h (Nat.not_lt_zero i)
  | m + 1, i, h => by
    by_cases hi : i = m
    · rw [hi]; exact gm_fs_3 _ m
    · show gm_fs (gm_fil M m) m 3 i ≤ 1
      rw [gm_fs_3n _ hi]; exact gm_fil_3 M m i (by omega)
/-! grinding -/
theorem gm_gs_0 {b : Nat} {X : gm_M} {m : Nat} (h : gm_who X m (X 11 0) = 0) : gm_gs b X m = X := if_pos h
def gm_les (X : gm_M) (s a : Nat) : gm_M := gm_set (gm_set X 5 s (X 5 s - a)) 16 0 (X 16 0 + a)
theorem gm_gs_1 {b : Nat} {X : gm_M} {m : Nat} (h : gm_who X m (X 11 0) ≠ 0) : gm_gs b X m = gm_les X (gm_who X m (X 11 0) - 1) (gm_amt b X m (gm_who X m (X 11 0) - 1)) := if_neg h
theorem gm_les_ne (X : gm_M) (s a i : Nat) {k : Nat} (h5 : k ≠ 5) (h16 : k ≠ 16) : gm_les X s a k i = X k i := by
  unfold gm_les; rw [gm_set_k _ _ h16, gm_set_k _ _ h5]
theorem gm_les_5 (X : gm_M) (s a i : Nat) : gm_les X s a 5 i = if i = s then X 5 s - a else X 5 i := by
  unfold gm_les
  rw [gm_set_k _ _ (by decide)]
  by_cases h : i = s
  · rw [h, gm_set_at, if_pos rfl]
  · rw [gm_set_i _ _ h, if_neg h]
theorem gm_les_16 (X : gm_M) (s a : Nat) : gm_les X s a 16 0 = X 16 0 + a := gm_set_at _ _ _ _
theorem gm_gs_ne (b : Nat) (X : gm_M) (m i : Nat) {k : Nat} (h5 : k ≠ 5) (h16 : k ≠ 16) : gm_gs b X m k i = X k i := by
  by_cases h : gm_who X m (X 11 0) = 0
  · rw [gm_gs_0 h]
  · rw [gm_gs_1 h]; exact gm_les_ne _ _ _ _ h5 h16
theorem gm_grd_ne (b : Nat) (M : gm_M) (i : Nat) {k : Nat} (h5 : k ≠ 5) (h16 : k ≠ 16) : ∀ m : Nat, gm_grd b M m k i = M k i
  | 0 => rfl
  | m + 1 => (gm_gs_ne b (gm_grd b M m) m i h5 h16).trans (gm_grd_ne b M i h5 h16 m)
theorem gm_gs_16 (b : Nat) (X : gm_M) (m : Nat) (hb : X 16 0 ≤ b) : X 16 0 ≤ gm_gs b X m 16 0 ∧ gm_gs b X m 16 0 ≤ b := by
  by_cases h : gm_who X m (X 11 0) = 0
  · rw [gm_gs_0 h]; exact ⟨Nat.le_refl _, hb⟩
  · rw [gm_gs_1 h, gm_les_16]
    unfold gm_amt
    omega
theorem gm_grd_16 (b : Nat) (M : gm_M) (hb : M 16 0 ≤ b) : ∀ m : Nat, M 16 0 ≤ gm_grd b M m 16 0 ∧ gm_grd b M m 16 0 ≤ b
  | 0 => ⟨Nat.le_refl _, hb⟩
  | m + 1 => by
    have ih := gm_grd_16 b M hb m
    have h := gm_gs_16 b (gm_grd b M m) m ih.2
    exact ⟨Nat.le_trans ih.1 h.1, h.2⟩
theorem gm_les_wf {X : gm_M} {s a : Nat} (wf : gm_wf X) (hd : X 8 s = 0) : gm_wf (gm_les X s a) := by
  obtain ⟨w1, w2, w3, w4, w5, w6, w7, w8⟩ := wf
  have e : ∀ k i, k ≠ 5 → k ≠ 16 → gm_les X s a k i = X k i := fun k i h1 h2 => gm_les_ne X s a i h1 h2
  have e11 : gm_les X s a 11 0 = X 11 0 := e 11 0 (by decide) (by decide)
  have e10 : gm_les X s a 10 0 = X 10 0 := e 10 0 (by decide) (by decide)
  refine ⟨by rw [e10]; exact w1, by rw [e11]; exact w2, by rw [e 14 0 (by decide) (by decide)]; exact w3, by rw [e 15 0 (by decide) (by decide)]; exact w4, fun i hi => ?_, fun i hi => ?_, fun i hi => ?_, fun i j hi hj => ?_⟩
  · rw [e 0 i (by decide) (by decide)]; exact w5 i hi
  · rw [e10] at hi; rw [e 1 i (by decide) (by decide)]; exact w6 i hi
  · rw [e11] at hi
    rw [e 4 i (by decide) (by decide), e 6 i (by decide) (by decide), e 7 i (by decide) (by decide), e 8 i (by decide) (by decide), e10, e 9 0 (by decide) (by decide), gm_les_5]
    obtain ⟨a1, a2, a3, a4, a5, a6, a7⟩ := w7 i hi
    by_cases his : i = s
    · subst his
      rw [if_pos rfl]
      exact ⟨a1, by omega, a3, a4, a5, fun q => absurd hd q, a7⟩
    · rw [if_neg his]
      exact ⟨a1, a2, a3, a4, a5, a6, a7⟩
  · rw [e11] at hi hj
    rw [e 7 i (by decide) (by decide), e 7 j (by decide) (by decide)]
    exact w8 i j hi hj
theorem gm_les_mid {X : gm_M} {s a : Nat} (h : gm_mid X) (hs : X 7 s ≠ 0) : gm_mid (gm_les X s a) := by
  intro i hi
  rw [gm_les_ne _ _ _ _ (by decide) (by decide)] at hi
  rw [gm_les_ne X s a i (k := 8) (by decide) (by decide), gm_les_ne X s a i (k := 7) (by decide) (by decide), gm_les_5]
  intro h5
  by_cases his : i = s
  · exact Or.inr (his ▸ hs)
  · rw [if_neg his] at h5
    exact h i hi h5
theorem gm_gs_wf {b : Nat} {X : gm_M} {m : Nat} (wf : gm_wf X) : gm_wf (gm_gs b X m) := by
  by_cases h : gm_who X m (X 11 0) = 0
  · rw [gm_gs_0 h]; exact wf
  · rw [gm_gs_1 h]
    have h1 := gm_who_on _ h
    have h2 := gm_who_le X m (X 11 0)
    refine gm_les_wf wf ?_
    have := (wf.2.2.2.2.2.2.1 (gm_who X m (X 11 0) - 1) (by omega)).2.2.2.2.2.1
    by_cases h8 : X 8 (gm_who X m (X 11 0) - 1) = 0
    · exact h8
    · have := (this h8).1; omega
theorem gm_gs_mid {b : Nat} {X : gm_M} {m : Nat} (hm : gm_mid X) : gm_mid (gm_gs b X m) := by
  by_cases h : gm_who X m (X 11 0) = 0
  · rw [gm_gs_0 h]; exact hm
  · rw [gm_gs_1 h]
    exact gm_les_mid hm (by have := gm_who_on _ h; omega)
theorem gm_grd_wf {b : Nat} {M : gm_M} (wf : gm_wf M) : ∀ m : Nat, gm_wf (gm_grd b M m)
  | 0 => wf
  | m + 1 => gm_gs_wf (gm_grd_wf wf m)
theorem gm_grd_mid {b : Nat} {M : gm_M} (h : gm_mid M) : ∀ m : Nat, gm_mid (gm_grd b M m)
  | 0 => h
  | m + 1 => gm_gs_mid (gm_grd_mid h m)
theorem gm_rest_mid {M : gm_M} (h : gm_rest M) : gm_mid M := fun i hi h5 => Or.inl (h i hi h5)
theorem gc_rep_les {F : Nat → Int32} {B : Nat → Nat → Int32} {M : gm_M} {s a : Nat} (h : gc_rep F B M) (hs : s < M 11 0) : gc_rep F (gc_up B 5 (upd (B 5) s (nI (M 5 s - a)))) (gm_les M s a) := by
  obtain ⟨⟨h9, h10, h11, h12, h13, h14, h15⟩, r0, r1, r2, r4, r5, r6, r7, r8⟩ := h
  have e : ∀ k i, k ≠ 5 → k ≠ 16 → gm_les M s a k i = M k i := fun k i h1 h2 => gm_les_ne M s a i h1 h2
  have e11 : gm_les M s a 11 0 = M 11 0 := e 11 0 (by decide) (by decide)
  have e10 : gm_les M s a 10 0 = M 10 0 := e 10 0 (by decide) (by decide)
  refine ⟨⟨?_, ?_, ?_, ?_, ?_, ?_, ?_⟩, ?_, ?_, ?_, ?_, ?_, ?_, ?_, ?_⟩
  · rw [e 9 0 (by decide) (by decide)]; exact h9
  · rw [e10]; exact h10
  · rw [e11]; exact h11
  · rw [e11, gm_gct_congr (M := M) _ (fun k hk => e 8 k (by decide) (by decide))]; exact h12
  · rw [e 13 0 (by decide) (by decide)]; exact h13
  · rw [e 14 0 (by decide) (by decide)]; exact h14
  · rw [e 15 0 (by decide) (by decide)]; exact h15
  · intro i hi; rw [e 0 i (by decide) (by decide)]; exact r0 i hi
  · intro i hi; rw [e10] at hi; rw [e 1 i (by decide) (by decide)]; exact r1 i hi
  · intro i hi; rw [e10] at hi; rw [e11, gm_who_congr (M := M) _ (fun k hk => e 7 k (by decide) (by decide))]; exact r2 i hi
  · intro i hi; rw [e11] at hi; rw [e 4 i (by decide) (by decide)]; exact r4 i hi
  · intro i hi
    rw [e11] at hi
    show upd (B 5) s (nI (M 5 s - a)) i = _
    rw [gm_les_5]
    by_cases his : i = s
    · rw [his, pk_us, if_pos rfl]
    · rw [pk_un his, if_neg his]; exact r5 i hi
  · intro i hi; rw [e11] at hi; rw [e 6 i (by decide) (by decide)]; exact r6 i hi
  · intro i hi; rw [e11] at hi; rw [e 7 i (by decide) (by decide)]; exact r7 i hi
  · intro i hi; rw [e11] at hi; rw [e 8 i (by decide) (by decide)]; exact r8 i hi
/-! the hour is one greater -/
theorem gm_inc_ne (M : gm_M) (i : Nat) {k : Nat} (h : k ≠ 9) : gm_inc M k i = M k i := gm_set_k M i h
theorem gm_inc_9 (M : gm_M) : gm_inc M 9 0 = M 9 0 + 1 := gm_set_at _ _ _ _
theorem gm_inc_wf {M : gm_M} (wf : gm_wf M) : gm_wf (gm_inc M) := by
  obtain ⟨w1, w2, w3, w4, w5, w6, w7, w8⟩ := wf
  have e : ∀ k i, k ≠ 9 → gm_inc M k i = M k i := fun k i h => gm_inc_ne M i h
  have e11 : gm_inc M 11 0 = M 11 0 := e 11 0 (by decide)
  have e10 : gm_inc M 10 0 = M 10 0 := e 10 0 (by decide)
  refine ⟨by rw [e10]; exact w1, by rw [e11]; exact w2, by rw [e 14 0 (by decide)]; exact w3, by rw [e 15 0 (by decide)]; exact w4, fun i hi => ?_, fun i hi => ?_, fun i hi => ?_, fun i j hi hj => ?_⟩
  · rw [e 0 i (by decide)]; exact w5 i hi
  · rw [e10] at hi; rw [e 1 i (by decide)]; exact w6 i hi
  · rw [e11] at hi
    rw [e 4 i (by decide), e 5 i (by decide), e 6 i (by decide), e 7 i (by decide), e 8 i (by decide), e10, gm_inc_9]
    obtain ⟨a1, a2, a3, a4, a5, a6, a7⟩ := w7 i hi
    exact ⟨a1, a2, a3, a4, a5, a6, by omega⟩
  · rw [e11] at hi hj
    rw [e 7 i (by decide), e 7 j (by decide)]
    exact w8 i j hi hj
theorem gm_inc_mid {M : gm_M} (h : gm_mid M) : gm_mid (gm_inc M) := by
  intro i hi
  rw [gm_inc_ne _ _ (by decide)] at hi
  rw [gm_inc_ne _ _ (by decide), gm_inc_ne _ _ (by decide), gm_inc_ne _ _ (by decide)]
  exact h i hi
theorem gc_rep_inc {F : Nat → Int32} {B : Nat → Nat → Int32} {M : gm_M} (h : gc_rep F B M) : gc_rep (upd F 9 (nI (M 9 0 + 1))) B (gm_inc M) := by
  obtain ⟨⟨h9, h10, h11, h12, h13, h14, h15⟩, r0, r1, r2, r4, r5, r6, r7, r8⟩ := h
  have e : ∀ k i, k ≠ 9 → gm_inc M k i = M k i := fun k i h => gm_inc_ne M i h
  have e11 : gm_inc M 11 0 = M 11 0 := e 11 0 (by decide)
  have e10 : gm_inc M 10 0 = M 10 0 := e 10 0 (by decide)
  refine ⟨⟨?_, ?_, ?_, ?_, ?_, ?_, ?_⟩, ?_, ?_, ?_, ?_, ?_, ?_, ?_, ?_⟩
  · rw [gm_inc_9]; rfl
  · rw [e10]; exact h10
  · rw [e11]; exact h11
  · rw [e11, gm_gct_congr (M := M) _ (fun k hk => e 8 k (by decide))]; exact h12
  · rw [e 13 0 (by decide)]; exact h13
  · rw [e 14 0 (by decide)]; exact h14
  · rw [e 15 0 (by decide)]; exact h15
  · intro i hi; rw [e 0 i (by decide)]; exact r0 i hi
  · intro i hi; rw [e10] at hi; rw [e 1 i (by decide)]; exact r1 i hi
  · intro i hi; rw [e10] at hi; rw [e11, gm_who_congr (M := M) _ (fun k hk => e 7 k (by decide))]; exact r2 i hi
  · intro i hi; rw [e11] at hi; rw [e 4 i (by decide)]; exact r4 i hi
  · intro i hi; rw [e11] at hi; rw [e 5 i (by decide)]; exact r5 i hi
  · intro i hi; rw [e11] at hi; rw [e 6 i (by decide)]; exact r6 i hi
  · intro i hi; rw [e11] at hi; rw [e 7 i (by decide)]; exact r7 i hi
  · intro i hi; rw [e11] at hi; rw [e 8 i (by decide)]; exact r8 i hi
/-! sacks are ground -/
theorem gm_fnp_ne (X : gm_M) (n i : Nat) {k : Nat} (h8 : k ≠ 8) (h7 : k ≠ 7) : gm_fnp X n k i = X k i := if_neg (fun q => by omega)
theorem gm_fnc_ne (X : gm_M) (n i : Nat) {k : Nat} (h8 : k ≠ 8) (h7 : k ≠ 7) : gm_fnc X n k i = X k i := if_neg (fun q => by omega)
theorem gm_fnp_8 (X : gm_M) (n i : Nat) : gm_fnp X n 8 i = if i < n ∧ X 7 i ≠ 0 ∧ X 5 i = 0 then X 9 0 + 1 else X 8 i := by
  show (if ((8 : Nat) = 8 ∨ (8 : Nat) = 7) ∧ i < n ∧ X 7 i ≠ 0 ∧ X 5 i = 0 then (if (8 : Nat) = 8 then X 9 0 + 1 else 0) else X 8 i) = _
  by_cases h : i < n ∧ X 7 i ≠ 0 ∧ X 5 i = 0
  · rw [if_pos ⟨Or.inl rfl, h⟩, if_pos h, if_pos rfl]
  · rw [if_neg (fun q => h q.2), if_neg h]
theorem gm_fnp_7 (X : gm_M) (n i : Nat) : gm_fnp X n 7 i = if i < n ∧ X 7 i ≠ 0 ∧ X 5 i = 0 then 0 else X 7 i := by
  show (if ((7 : Nat) = 8 ∨ (7 : Nat) = 7) ∧ i < n ∧ X 7 i ≠ 0 ∧ X 5 i = 0 then (if (7 : Nat) = 8 then X 9 0 + 1 else 0) else X 7 i) = _
  by_cases h : i < n ∧ X 7 i ≠ 0 ∧ X 5 i = 0
  · rw [if_pos ⟨Or.inr rfl, h⟩, if_pos h, if_neg (by decide)]
  · rw [if_neg (fun q => h q.2), if_neg h]
theorem gm_fnc_8 (X : gm_M) (n i : Nat) : gm_fnc X n 8 i = if X 7 i ≠ 0 ∧ X 7 i ≤ n ∧ X 5 i = 0 then X 9 0 + 1 else X 8 i := by
  show (if ((8 : Nat) = 8 ∨ (8 : Nat) = 7) ∧ X 7 i ≠ 0 ∧ X 7 i ≤ n ∧ X 5 i = 0 then (if (8 : Nat) = 8 then X 9 0 + 1 else 0) else X 8 i) = _
  by_cases h : X 7 i ≠ 0 ∧ X 7 i ≤ n ∧ X 5 i = 0
  · rw [if_pos ⟨Or.inl rfl, h⟩, if_pos h, if_pos rfl]
  · rw [if_neg (fun q => h q.2), if_neg h]
theorem gm_fnc_7 (X : gm_M) (n i : Nat) : gm_fnc X n 7 i = if X 7 i ≠ 0 ∧ X 7 i ≤ n ∧ X 5 i = 0 then 0 else X 7 i := by
  show (if ((7 : Nat) = 8 ∨ (7 : Nat) = 7) ∧ X 7 i ≠ 0 ∧ X 7 i ≤ n ∧ X 5 i = 0 then (if (7 : Nat) = 8 then X 9 0 + 1 else 0) else X 7 i) = _
  by_cases h : X 7 i ≠ 0 ∧ X 7 i ≤ n ∧ X 5 i = 0
  · rw [if_pos ⟨Or.inr rfl, h⟩, if_pos h, if_neg (by decide)]
  · rw [if_neg (fun q => h q.2), if_neg h]
theorem gm_fnc_0 (X : gm_M) : gm_same X (gm_fnc X 0) := by
  intro k i _
  by_cases h8 : k = 8
  · subst h8; rw [gm_fnc_8, if_neg]; omega
  · by_cases h7 : k = 7
    · subst h7; rw [gm_fnc_7]; split <;> omega
    · exact gm_fnc_ne X 0 i h8 h7
theorem gm_fnc_skip {X : gm_M} {m : Nat} (h : ∀ i, i < X 11 0 → X 7 i = m + 1 → X 5 i ≠ 0) : gm_same (gm_fnc X m) (gm_fnc X (m + 1)) := by
  intro k i hk
  rw [gm_fnc_ne X m 0 (by decide) (by decide)] at hk
  by_cases h8 : k = 8
  · subst h8
    have := h i (by omega)
    rw [gm_fnc_8, gm_fnc_8]
    split <;> split <;> first | rfl | (exfalso; omega)
  · by_cases h7 : k = 7
    · subst h7
      have := h i (by omega)
      rw [gm_fnc_7, gm_fnc_7]
      split <;> split <;> first | rfl | (exfalso; omega)
    · rw [gm_fnc_ne X m i h8 h7, gm_fnc_ne X _ i h8 h7]
theorem gm_fnc_all {X : gm_M} (h : ∀ i, i < X 11 0 → X 7 i ≤ X 10 0) : gm_same (gm_fnc X (X 10 0)) (gm_fnp X (X 11 0)) := by
  intro k i hk
  rw [gm_fnc_ne X _ 0 (by decide) (by decide)] at hk
  by_cases h8 : k = 8
  · subst h8
    have := h i (by omega)
    rw [gm_fnc_8, gm_fnp_8]
    split <;> split <;> first | rfl | (exfalso; omega)
  · by_cases h7 : k = 7
    · subst h7
      have := h i (by omega)
      rw [gm_fnc_7, gm_fnp_7]
      split <;> split <;> first | rfl | (exfalso; omega)
    · rw [gm_fnc_ne X _ i h8 h7, gm_fnp_ne X _ i h8 h7]
theorem gm_fnc_who (X : gm_M) (m n : Nat) : gm_who (gm_fnc X m) m n = gm_who X m n :=
  gm_who_keep n (fun k _ => by rw [gm_fnc_7]; split <;> omega)
theorem gm_fnc_ap {X : gm_M} (m : Nat) (h : gm_ap X) : gm_ap (gm_fnc X m) := by
  intro i j hi hj hij hn
  rw [gm_fnc_ne X m 0 (by decide) (by decide)] at hi hj
  rw [gm_fnc_7] at hn
  rw [gm_fnc_7, gm_fnc_7] at hij
  by_cases h1 : X 7 i ≠ 0 ∧ X 7 i ≤ m ∧ X 5 i = 0
  · rw [if_pos h1] at hn; exact absurd rfl hn
  · rw [if_neg h1] at hij hn
    by_cases h2 : X 7 j ≠ 0 ∧ X 7 j ≤ m ∧ X 5 j = 0
    · rw [if_pos h2] at hij; exact absurd hij hn
    · rw [if_neg h2] at hij; exact h i j hi hj hij hn
theorem gm_gct_one {M X : gm_M} {s : Nat} (h0 : M 8 s = 0) (h1 : X 8 s ≠ 0) (hn : ∀ k, k ≠ s → X 8 k = M 8 k) : ∀ n : Nat, s < n → gm_gct X n = gm_gct M n + 1
  | 0, h => absurd h (Nat.not_lt_zero s)
  | n + 1, h => by
    show gm_gct X n + (if X 8 n = 0 then 0 else 1) = gm_gct M n + (if M 8 n = 0 then 0 else 1) + 1
    by_cases hs : s = n
    · subst hs
      rw [gm_gct_congr (M := M) s (fun k hk => hn k (by omega)), if_neg h1, if_pos h0]
    · rw [gm_gct_one h0 h1 hn n (by omega), hn n (fun q => hs q.symm)]
      omega
theorem gc_rep_set8 {F : Nat → Int32} {B : Nat → Nat → Int32} {M : gm_M} {s v : Nat} (h : gc_rep F B M) (hs : s < M 11 0) (h0 : M 8 s = 0) :
    gc_rep (upd F 12 (nI (gm_gct M (M 11 0) + 1))) (gc_up B 8 (upd (B 8) s (nI v))) (gm_set M 8 s (v + 1)) := by
  obtain ⟨⟨h9, h10, h11, h12, h13, h14, h15⟩, r0, r1, r2, r4, r5, r6, r7, r8⟩ := h
  have e : ∀ k i, k ≠ 8 → gm_set M 8 s (v + 1) k i = M k i := fun k i h => gm_set_k M i h
  have e11 : gm_set M 8 s (v + 1) 11 0 = M 11 0 := e 11 0 (by decide)
  have e10 : gm_set M 8 s (v + 1) 10 0 = M 10 0 := e 10 0 (by decide)
  refine ⟨⟨?_, ?_, ?_, ?_, ?_, ?_, ?_⟩, ?_, ?_, ?_, ?_, ?_, ?_, ?_, ?_⟩
  · rw [e 9 0 (by decide)]; exact h9
  · rw [e10]; exact h10
  · rw [e11]; exact h11
  · rw [e11, gm_gct_one (M := M) h0 (by rw [gm_set_at]; omega) (fun k hk => gm_set_i M 8 hk) _ hs]; rfl
  · rw [e 13 0 (by decide)]; exact h13
  · rw [e 14 0 (by decide)]; exact h14
  · rw [e 15 0 (by decide)]; exact h15
  · intro i hi; rw [e 0 i (by decide)]; exact r0 i hi
  · intro i hi; rw [e10] at hi; rw [e 1 i (by decide)]; exact r1 i hi
  · intro i hi; rw [e10] at hi; rw [e11, gm_who_congr (M := M) _ (fun k hk => e 7 k (by decide))]; exact r2 i hi
  · intro i hi; rw [e11] at hi; rw [e 4 i (by decide)]; exact r4 i hi
  · intro i hi; rw [e11] at hi; rw [e 5 i (by decide)]; exact r5 i hi
  · intro i hi; rw [e11] at hi; rw [e 6 i (by decide)]; exact r6 i hi
  · intro i hi; rw [e11] at hi; rw [e 7 i (by decide)]; exact r7 i hi
  · intro i hi
    rw [e11] at hi
    show upd (B 8) s (nI v) i = _
    by_cases his : i = s
    · rw [his, pk_us, gm_set_at, gm_eS]
    · rw [pk_un his, gm_set_i _ _ his]; exact r8 i hi
theorem gm_fnc_do {X : gm_M} {m s : Nat} (hs : s < X 11 0) (h7 : X 7 s = m + 1) (h5 : X 5 s = 0) (hap : gm_ap X) : gm_same (gm_clr (gm_set (gm_fnc X m) 8 s (X 9 0 + 1)) m) (gm_fnc X (m + 1)) := by
  have hy : ∀ i, gm_set (gm_fnc X m) 8 s (X 9 0 + 1) 7 i = gm_fnc X m 7 i := fun i => gm_set_k _ i (by decide)
  intro k i hk
  rw [gm_clr_ne _ m 0 (by decide), gm_set_k _ _ (by decide), gm_fnc_ne X m 0 (by decide) (by decide)] at hk
  have only : i < X 11 0 → X 7 i = m + 1 → i = s := fun hi q => hap i s hi hs (by omega) (by omega)
  by_cases h8 : k = 8
  · subst h8
    rw [gm_clr_ne _ _ _ (by decide), gm_fnc_8]
    by_cases his : i = s
    · rw [his, gm_set_at, if_pos ⟨by omega, by omega, h5⟩]
    · rw [gm_set_i _ _ his, gm_fnc_8]
      have := only (by omega)
      split <;> split <;> first | rfl | (exfalso; omega)
  · by_cases h77 : k = 7
    · subst h77
      rw [gm_clr_7, hy, gm_fnc_7, gm_fnc_7]
      have := only (by omega)
      by_cases his : i = s
      · subst his
        rw [if_neg (show ¬ (X 7 i ≠ 0 ∧ X 7 i ≤ m ∧ X 5 i = 0) by omega), if_pos h7, if_pos ⟨by omega, by omega, h5⟩]
      · split <;> split <;> split <;> omega
    · rw [gm_clr_ne _ m i h77, gm_set_k _ _ h8, gm_fnc_ne X m i h8 h77, gm_fnc_ne X _ i h8 h77]
theorem gm_fnp_0 (X : gm_M) : gm_fnp X 0 = X := by
  funext k i
  exact if_neg (fun q => absurd q.2.1 (Nat.not_lt_zero i))
theorem gm_fnp_skip {X : gm_M} {n : Nat} (h : X 7 n = 0 ∨ X 5 n ≠ 0) : gm_fnp X (n + 1) = gm_fnp X n := by
  funext k i
  by_cases h8 : k = 8
  · subst h8
    rw [gm_fnp_8, gm_fnp_8]
    by_cases hi : i = n
    · subst hi; rw [if_neg (by omega), if_neg (by omega)]
    · split <;> split <;> first | rfl | (exfalso; omega)
  · by_cases h7 : k = 7
    · subst h7
      rw [gm_fnp_7, gm_fnp_7]
      by_cases hi : i = n
      · subst hi; rw [if_neg (by omega), if_neg (by omega)]
      · split <;> split <;> first | rfl | (exfalso; omega)
    · rw [gm_fnp_ne X _ i h8 h7, gm_fnp_ne X _ i h8 h7]
theorem gm_fnp_do {X : gm_M} {n : Nat} (h7n : X 7 n ≠ 0) (h5 : X 5 n = 0) : gm_fnp X (n + 1) = gm_set (gm_set (gm_fnp X n) 8 n (X 9 0 + 1)) 7 n 0 := by
  funext k i
  by_cases h8 : k = 8
  · subst h8
    rw [gm_set_k _ _ (by decide), gm_fnp_8]
    by_cases hi : i = n
    · subst hi; rw [gm_set_at, if_pos ⟨by omega, h7n, h5⟩]
    · rw [gm_set_i _ _ hi, gm_fnp_8]
      split <;> split <;> first | rfl | (exfalso; omega)
  · by_cases h7 : k = 7
    · subst h7
      rw [gm_fnp_7]
      by_cases hi : i = n
      · subst hi; rw [gm_set_at, if_pos ⟨by omega, h7n, h5⟩]
      · rw [gm_set_i _ _ hi, gm_set_k _ _ (by decide), gm_fnp_7]
        split <;> split <;> first | rfl | (exfalso; omega)
    · rw [gm_set_k _ _ h7, gm_set_k _ _ h8, gm_fnp_ne X _ i h8 h7, gm_fnp_ne X _ i h8 h7]
theorem gm_fnp_wf {X : gm_M} (wf : gm_wf X) (n : Nat) : gm_wf (gm_fnp X n) := by
  obtain ⟨w1, w2, w3, w4, w5, w6, w7, w8⟩ := wf
  have e : ∀ k i, k ≠ 8 → k ≠ 7 → gm_fnp X n k i = X k i := fun k i h1 h2 => gm_fnp_ne X n i h1 h2
  have e11 : gm_fnp X n 11 0 = X 11 0 := e 11 0 (by decide) (by decide)
  have e10 : gm_fnp X n 10 0 = X 10 0 := e 10 0 (by decide) (by decide)
  refine ⟨by rw [e10]; exact w1, by rw [e11]; exact w2, by rw [e 14 0 (by decide) (by decide)]; exact w3, by rw [e 15 0 (by decide) (by decide)]; exact w4, fun i hi => ?_, fun i hi => ?_, fun i hi => ?_, fun i j hi hj hij hn => ?_⟩
  · rw [e 0 i (by decide) (by decide)]; exact w5 i hi
  · rw [e10] at hi; rw [e 1 i (by decide) (by decide)]; exact w6 i hi
  · rw [e11] at hi
    rw [e 4 i (by decide) (by decide), e 5 i (by decide) (by decide), e 6 i (by decide) (by decide), e10, e 9 0 (by decide) (by decide), gm_fnp_7, gm_fnp_8]
    obtain ⟨a1, a2, a3, a4, a5, a6, a7⟩ := w7 i hi
    by_cases h : i < n ∧ X 7 i ≠ 0 ∧ X 5 i = 0
    · rw [if_pos h, if_pos h]
      exact ⟨a1, a2, a3, a4, Nat.zero_le _, fun _ => ⟨rfl, h.2.2⟩, Nat.le_refl _⟩
    · rw [if_neg h, if_neg h]
      exact ⟨a1, a2, a3, a4, a5, a6, a7⟩
  · rw [e11] at hi hj
    rw [gm_fnp_7] at hn
    rw [gm_fnp_7, gm_fnp_7] at hij
    by_cases h1 : i < n ∧ X 7 i ≠ 0 ∧ X 5 i = 0
    · rw [if_pos h1] at hn; exact absurd rfl hn
    · rw [if_neg h1] at hij hn
      by_cases h2 : j < n ∧ X 7 j ≠ 0 ∧ X 5 j = 0
      · rw [if_pos h2] at hij; exact absurd hij hn
      · rw [if_neg h2] at hij; exact w8 i j hi hj hij hn
theorem gm_fnp_rest {X : gm_M} (wf : gm_wf X) (h : gm_mid X) : gm_rest (gm_fnp X (X 11 0)) := by
  intro i hi
  rw [gm_fnp_ne X _ 0 (by decide) (by decide)] at hi
  rw [gm_fnp_ne X _ i (by decide) (by decide), gm_fnp_8]
  intro h5
  have := h i hi h5
  split <;> omega
/-! an hour, hours -/
theorem gm_tk_ne (M : gm_M) (i : Nat) {k : Nat} (h : k ≠ 7) : gm_tk M k i = M k i := by
  unfold gm_tk; split
  · rfl
  · exact gm_tkp_ne M _ i h
theorem gm_tk_wf {M : gm_M} (wf : gm_wf M) : gm_wf (gm_tk M) := by
  unfold gm_tk; split
  · exact wf
  · exact gm_tkp_wf _ wf
theorem gm_tk_rest {M : gm_M} (h : gm_rest M) : gm_rest (gm_tk M) := by
  unfold gm_tk; split
  · exact h
  · exact gm_tkp_rest _ h
theorem gm_h1_wf {M : gm_M} (wf : gm_wf M) : gm_wf (gm_h1 M) := gm_fil_wf (gm_tk_wf wf) _ (by rw [gm_tk_ne M 0 (by decide)]; exact Nat.le_refl _)
theorem gm_h1_rest {M : gm_M} (h : gm_rest M) : gm_rest (gm_h1 M) := gm_fil_rest (gm_tk_rest h) _
theorem gm_h1_ne (M : gm_M) (i : Nat) {k : Nat} (h3 : k ≠ 3) (h7 : k ≠ 7) (h13 : k ≠ 13) : gm_h1 M k i = M k i := (gm_fil_ne _ i h3 h7 h13 _).trans (gm_tk_ne M i h7)
theorem gm_h2_wf {M : gm_M} (wf : gm_wf M) : gm_wf (gm_h2 M) := gm_grd_wf (gm_h1_wf wf) _
theorem gm_h2_mid {M : gm_M} (h : gm_rest M) : gm_mid (gm_h2 M) := gm_grd_mid (gm_rest_mid (gm_h1_rest h)) _
theorem gm_h2_ne (M : gm_M) (i : Nat) {k : Nat} (h3 : k ≠ 3) (h7 : k ≠ 7) (h13 : k ≠ 13) (h5 : k ≠ 5) (h16 : k ≠ 16) : gm_h2 M k i = M k i := (gm_grd_ne _ _ i h5 h16 _).trans (gm_h1_ne M i h3 h7 h13)
theorem gm_hour_ne (M : gm_M) (i : Nat) {k : Nat} (h3 : k ≠ 3) (h7 : k ≠ 7) (h13 : k ≠ 13) (h5 : k ≠ 5) (h16 : k ≠ 16) (h8 : k ≠ 8) (h9 : k ≠ 9) : gm_hour M k i = M k i :=
  (gm_fnp_ne _ _ i h8 h7).trans ((gm_inc_ne _ i h9).trans (gm_h2_ne M i h3 h7 h13 h5 h16))
theorem gm_hour_9 (M : gm_M) : gm_hour M 9 0 = M 9 0 + 1 := by
  unfold gm_hour
  rw [gm_fnp_ne _ _ _ (by decide) (by decide), gm_inc_9, gm_h2_ne M 0 (by decide) (by decide) (by decide) (by decide) (by decide)]
theorem gm_hour_wf {M : gm_M} (wf : gm_wf M) : gm_wf (gm_hour M) := gm_fnp_wf (gm_inc_wf (gm_h2_wf wf)) _
theorem gm_hour_rest {M : gm_M} (wf : gm_wf M) (h : gm_rest M) : gm_rest (gm_hour M) := by
  have e : gm_inc (gm_h2 M) 11 0 = M 11 0 := by rw [gm_inc_ne _ _ (by decide), gm_h2_ne M 0 (by decide) (by decide) (by decide) (by decide) (by decide)]
  have := gm_fnp_rest (gm_inc_wf (gm_h2_wf wf)) (gm_inc_mid (gm_h2_mid h))
  rw [e] at this
  exact this
theorem gm_hrs_wf {M : gm_M} (wf : gm_wf M) : ∀ n : Nat, gm_wf (gm_hrs M n)
  | 0 => wf
  | n + 1 => gm_hour_wf (gm_hrs_wf wf n)
theorem gm_hrs_rest {M : gm_M} (wf : gm_wf M) (h : gm_rest M) : ∀ n : Nat, gm_rest (gm_hrs M n)
  | 0 => h
  | n + 1 => gm_hour_rest (gm_hrs_wf wf n) (gm_hrs_rest wf h n)
theorem gm_hrs_9 (M : gm_M) : ∀ n : Nat, gm_hrs M n 9 0 = M 9 0 + n
  | 0 => rfl
  | n + 1 => by
    show gm_hour (gm_hrs M n) 9 0 = _
    rw [gm_hour_9, gm_hrs_9 M n]; omega
theorem gm_hrs_ne (M : gm_M) (i : Nat) {k : Nat} (h3 : k ≠ 3) (h7 : k ≠ 7) (h13 : k ≠ 13) (h5 : k ≠ 5) (h16 : k ≠ 16) (h8 : k ≠ 8) (h9 : k ≠ 9) : ∀ n : Nat, gm_hrs M n k i = M k i
  | 0 => rfl
  | n + 1 => (gm_hour_ne (gm_hrs M n) i h3 h7 h13 h5 h16 h8 h9).trans (gm_hrs_ne M i h3 h7 h13 h5 h16 h8 h9 n)
theorem gm_h2_16 (M : gm_M) : M 16 0 ≤ gm_h2 M 16 0 ∧ gm_h2 M 16 0 ≤ M 16 0 + gm_wnd M := by
  have h := gm_grd_16 (M 16 0 + gm_wnd M) (gm_h1 M) (by rw [gm_h1_ne M 0 (by decide) (by decide) (by decide)]; omega) (M 10 0)
  rw [gm_h1_ne M 0 (by decide) (by decide) (by decide)] at h
  exact h
theorem gm_hour_16 (M : gm_M) : gm_hour M 16 0 = gm_h2 M 16 0 := by
  unfold gm_hour
  rw [gm_fnp_ne _ _ _ (by decide) (by decide), gm_inc_ne _ _ (by decide)]
theorem gm_hrs_16 (M : gm_M) : ∀ n : Nat, M 16 0 ≤ gm_hrs M n 16 0
  | 0 => Nat.le_refl _
  | n + 1 => by
    have h1 := gm_hrs_16 M n
    have h2 := (gm_h2_16 (gm_hrs M n)).1
    show M 16 0 ≤ gm_hour (gm_hrs M n) 16 0
    rw [gm_hour_16]; omega
theorem gm_hrs_add (M : gm_M) (a : Nat) : ∀ b : Nat, gm_hrs M (a + b) = gm_hrs (gm_hrs M a) b
  | 0 => rfl
  | b + 1 => by
    show gm_hour (gm_hrs M (a + b)) = gm_hour (gm_hrs (gm_hrs M a) b)
    rw [gm_hrs_add M a b]
/-! when all is ground -/
def gm_all (M : gm_M) : Prop := ∀ i, i < M 11 0 → M 8 i ≠ 0
theorem gm_gct_le (M : gm_M) : ∀ n : Nat, gm_gct M n ≤ n
  | 0 => Nat.le_refl 0
  | n + 1 => by
    have := gm_gct_le M n
    show gm_gct M n + (if M 8 n = 0 then 0 else 1) ≤ n + 1
    split <;> omega
theorem gm_gct_all {M : gm_M} : ∀ n : Nat, n ≤ gm_gct M n → ∀ i, i < n → M 8 i ≠ 0
  | 0, _, i, h => absurd h (Nat.not_lt_zero i)
  | n + 1, hn, i, h => by
    have hu : gm_gct M (n + 1) = gm_gct M n + (if M 8 n = 0 then 0 else 1) := rfl
    have hle := gm_gct_le M n
    rw [hu] at hn
    by_cases h8 : M 8 n = 0
    · rw [if_pos h8] at hn; omega
    · rw [if_neg h8] at hn
      by_cases hi : i = n
      · rw [hi]; exact h8
      · exact gm_gct_all n (by omega) i (by omega)
theorem gm_nxt_all {M : gm_M} {f : Nat} : ∀ n : Nat, (∀ i, i < n → M 8 i ≠ 0) → gm_nxt M f n = 0
  | 0, _ => rfl
  | n + 1, h => by
    show (if M 8 n = 0 ∧ (f = 0 ∨ M 7 n = 0) ∧ (gm_nxt M f n = 0 ∨ gm_trn M n < gm_trn M (gm_nxt M f n - 1)) then n + 1 else gm_nxt M f n) = 0
    rw [if_neg (fun q => h n (Nat.lt_succ_self n) q.1)]
    exact gm_nxt_all n (fun i hi => h i (Nat.lt_succ_of_lt hi))
theorem gm_fil_all {M : gm_M} (wf : gm_wf M) (h : gm_all M) : ∀ m : Nat, gm_same M (gm_fil M m)
  | 0 => gm_same_rf M
  | m + 1 => by
    have ih := gm_fil_all wf h m
    have e11 : gm_fil M m 11 0 = M 11 0 := ih 11 0 (by omega)
    refine gm_same_tr ih ?_
    show gm_same (gm_fil M m) (gm_fs (gm_fil M m) m)
    rcases gm_fs_cases (gm_fil M m) m with ⟨_, h2, _⟩ | ⟨_, h⟩
    · exact absurd (gm_nxt_all _ (fun i hi => by rw [e11] at hi; rw [ih 8 i (by omega)]; exact h i hi)) h2
    · rw [h]; exact gm_same_set3 _ _ _
theorem gm_grd_all {b : Nat} {M : gm_M} (h : ∀ i, i < M 11 0 → M 7 i = 0) : ∀ m : Nat, gm_grd b M m = M
  | 0 => rfl
  | m + 1 => by
    show gm_gs b (gm_grd b M m) m = M
    rw [gm_grd_all h m]
    exact gm_gs_0 (gm_who_zero _ (fun k hk => by rw [h k hk]; omega))
theorem gm_hour_all {M : gm_M} (wf : gm_wf M) (h : gm_all M) : gm_same (gm_inc M) (gm_hour M) := by
  have on0 : ∀ i, i < M 11 0 → M 7 i = 0 := fun i hi => ((wf.2.2.2.2.2.2.1 i hi).2.2.2.2.2.1 (h i hi)).1
  have t1 : gm_same M (gm_tk M) := by
    unfold gm_tk
    split
    · exact gm_same_rf M
    · intro k i hk
      by_cases h7 : k = 7
      · subst h7
        rw [gm_tkp_7, on0 i (by omega)]
        split <;> rfl
      · exact gm_tkp_ne M _ i h7
  have wf1 := gm_tk_wf wf
  have a1 : gm_all (gm_tk M) := fun i hi => by
    rw [gm_tk_ne M 0 (by decide)] at hi
    rw [gm_tk_ne M i (by decide)]
    exact h i hi
  have t2 : gm_same M (gm_h1 M) := gm_same_tr t1 (gm_fil_all wf1 a1 _)
  have e11 : gm_h1 M 11 0 = M 11 0 := t2 11 0 (by omega)
  have t3 : gm_h2 M = gm_h1 M := gm_grd_all (fun i hi => by rw [e11] at hi; rw [t2 7 i (by omega)]; exact on0 i hi) _
  have t4 : ∀ k i, gm_inc (gm_h2 M) k i = if k = 9 ∧ i = 0 then M 9 0 + 1 else gm_h1 M k i := by
    intro k i
    rw [t3]
    unfold gm_inc gm_set
    rw [t2 9 0 (by omega)]
  intro k i hk
  rw [gm_inc_ne M 0 (by decide)] at hk
  have f8 : gm_inc (gm_h2 M) 8 i = gm_h1 M 8 i := by rw [t4, if_neg (by omega)]
  have f7 : gm_inc (gm_h2 M) 7 i = gm_h1 M 7 i := by rw [t4, if_neg (by omega)]
  show gm_fnp (gm_inc (gm_h2 M)) (M 11 0) k i = gm_inc M k i
  by_cases h8 : k = 8
  · subst h8
    rw [gm_fnp_8, f7, t2 7 i (by omega), on0 i (by omega), if_neg (by omega), f8, t2 8 i (by omega), gm_inc_ne M i (by decide)]
  · by_cases h7 : k = 7
    · subst h7
      rw [gm_fnp_7, f7, t2 7 i (by omega), on0 i (by omega), if_neg (by omega), gm_inc_ne M i (by decide), on0 i (by omega)]
    · rw [gm_fnp_ne _ _ i h8 h7, t4]
      unfold gm_inc gm_set
      by_cases h9 : k = 9 ∧ i = 0
      · rw [if_pos h9, if_pos h9]
      · rw [if_neg h9, if_neg h9]; exact t2 k i hk
theorem gm_hrs_all {M : gm_M} (wf : gm_wf M) (h : gm_all M) : ∀ n : Nat, gm_same (gm_set M 9 0 (M 9 0 + n)) (gm_hrs M n) ∧ gm_all (gm_hrs M n)
  | 0 => ⟨fun k i _ => by
      show M k i = gm_set M 9 0 (M 9 0) k i
      unfold gm_set
      by_cases q : k = 9 ∧ i = 0
      · rw [if_pos q, q.1, q.2]
      · rw [if_neg q], h⟩
  | n + 1 => by
    obtain ⟨ih, ia⟩ := gm_hrs_all wf h n
    have ho := gm_hour_all (gm_hrs_wf wf n) ia
    have e11 : gm_hrs M n 11 0 = M 11 0 := gm_hrs_ne M 0 (by decide) (by decide) (by decide) (by decide) (by decide) (by decide) (by decide) n
    have s1 : gm_same (gm_set M 9 0 (M 9 0 + (n + 1))) (gm_inc (gm_hrs M n)) := by
      intro k i hk
      rw [gm_set_k _ _ (by decide)] at hk
      unfold gm_inc gm_set
      by_cases q : k = 9 ∧ i = 0
      · rw [if_pos q, if_pos q, gm_hrs_9]; omega
      · rw [if_neg q, if_neg q]
        have := ih k i (by rw [gm_set_k _ _ (by decide)]; exact hk)
        rw [this]
        unfold gm_set
        rw [if_neg q]
    refine ⟨gm_same_tr s1 ho, fun i hi => ?_⟩
    have e : gm_hrs M (n + 1) 11 0 = M 11 0 := gm_hrs_ne M 0 (by decide) (by decide) (by decide) (by decide) (by decide) (by decide) (by decide) (n + 1)
    rw [e] at hi
    have := ho 8 i (by rw [gm_inc_ne _ _ (by decide), e11]; omega)
    rw [show gm_hrs M (n + 1) = gm_hour (gm_hrs M n) from rfl, this, gm_inc_ne _ _ (by decide)]
    exact ia i (by rw [e11]; exact hi)
/-! further facts that walks ask for -/
theorem nx_xor (a b : Nat) : nI a ^^^ nI b = nI (a ^^^ b) := by
  apply Int32.toBitVec_inj.1
  show BitVec.ofNat 32 a ^^^ BitVec.ofNat 32 b = BitVec.ofNat 32 (a ^^^ b)
  apply BitVec.eq_of_getLsbD_eq
  intro i hi
  simp [hi]
theorem gm_xpos {a b : Nat} (ha : a < 2 ^ 31) (hb : b < 2 ^ 31) : nI 0 ≤ nI a ^^^ nI b := by
  rw [nx_xor]
  exact nI_pos' (Nat.xor_lt_two_pow ha hb)
theorem gm_min {a b : Nat} (ha : a < 2 ^ 31) (hb : b < 2 ^ 31) : (if nI b < nI a then nI b else nI a) = nI (min a b) := by
  by_cases h : b < a
  · rw [if_pos ((nI_ltI hb ha).mpr h), Nat.min_eq_right (Nat.le_of_lt h)]
  · rw [if_neg (fun q => h ((nI_ltI hb ha).mp q)), Nat.min_eq_left (Nat.le_of_not_lt h)]
theorem gm_max0 {d u : Nat} (h : d ≠ 0) (hd : d < 2 ^ 30) (hu : u < 2 ^ 30) : (if nI 0 < gm_e d - nI u then gm_e d - nI u else nI 0) = nI (d - 1 - u) := by
  rw [gm_e_pred h]
  have ht : (nI (d - 1) - nI u).toInt = ((d - 1 : Nat) : Int) - u := pk_sub_toInt (by omega) hu
  by_cases h1 : u < d - 1
  · rw [if_pos (by rw [Int32.lt_iff_toInt_lt, ht, nI_toInt (by decide)]; omega), pk_sub (Nat.le_of_lt h1)]
  · rw [if_neg (by rw [Int32.lt_iff_toInt_lt, ht, nI_toInt (by decide)]; omega), Nat.sub_eq_zero_of_le (Nat.le_of_not_lt h1)]
theorem gc_rep_b3 {F : Nat → Int32} {B : Nat → Nat → Int32} {M : gm_M} (f : Nat → Int32) (h : gc_rep F B M) : gc_rep F (gc_up B 3 f) M := by
  obtain ⟨⟨h9, h10, h11, h12, h13, h14, h15⟩, r0, r1, r2, r4, r5, r6, r7, r8⟩ := h
  exact ⟨⟨h9, h10, h11, h12, h13, h14, h15⟩, r0, r1, r2, r4, r5, r6, r7, r8⟩
theorem gc_rep_9 {F : Nat → Int32} {B : Nat → Nat → Int32} {M : gm_M} {v : Nat} (h : gc_rep F B M) : gc_rep (upd F 9 (nI v)) B (gm_set M 9 0 v) := by
  obtain ⟨⟨h9, h10, h11, h12, h13, h14, h15⟩, r0, r1, r2, r4, r5, r6, r7, r8⟩ := h
  have e : ∀ k i, k ≠ 9 → gm_set M 9 0 v k i = M k i := fun k i h => gm_set_k M i h
  have e11 : gm_set M 9 0 v 11 0 = M 11 0 := e 11 0 (by decide)
  have e10 : gm_set M 9 0 v 10 0 = M 10 0 := e 10 0 (by decide)
  refine ⟨⟨?_, ?_, ?_, ?_, ?_, ?_, ?_⟩, ?_, ?_, ?_, ?_, ?_, ?_, ?_, ?_⟩
  · rw [gm_set_at]; rfl
  · rw [e10]; exact h10
  · rw [e11]; exact h11
  · rw [e11, gm_gct_congr (M := M) _ (fun k hk => e 8 k (by decide))]; exact h12
  · rw [e 13 0 (by decide)]; exact h13
  · rw [e 14 0 (by decide)]; exact h14
  · rw [e 15 0 (by decide)]; exact h15
  · intro i hi; rw [e 0 i (by decide)]; exact r0 i hi
  · intro i hi; rw [e10] at hi; rw [e 1 i (by decide)]; exact r1 i hi
  · intro i hi; rw [e10] at hi; rw [e11, gm_who_congr (M := M) _ (fun k hk => e 7 k (by decide))]; exact r2 i hi
  · intro i hi; rw [e11] at hi; rw [e 4 i (by decide)]; exact r4 i hi
  · intro i hi; rw [e11] at hi; rw [e 5 i (by decide)]; exact r5 i hi
  · intro i hi; rw [e11] at hi; rw [e 6 i (by decide)]; exact r6 i hi
  · intro i hi; rw [e11] at hi; rw [e 7 i (by decide)]; exact r7 i hi
  · intro i hi; rw [e11] at hi; rw [e 8 i (by decide)]; exact r8 i hi
theorem gm_set_self (M : gm_M) (k i : Nat) : gm_set M k i (M k i) = M := by
  funext k' i'
  unfold gm_set
  by_cases h : k' = k ∧ i' = i
  · rw [if_pos h, h.1, h.2]
  · rw [if_neg h]
theorem gm_fnc_wf {X : gm_M} (wf : gm_wf X) (n : Nat) : gm_wf (gm_fnc X n) := by
  have hap := gm_fnc_ap n (gm_wf_ap wf)
  obtain ⟨w1, w2, w3, w4, w5, w6, w7, w8⟩ := wf
  have e : ∀ k i, k ≠ 8 → k ≠ 7 → gm_fnc X n k i = X k i := fun k i h1 h2 => gm_fnc_ne X n i h1 h2
  have e11 : gm_fnc X n 11 0 = X 11 0 := e 11 0 (by decide) (by decide)
  have e10 : gm_fnc X n 10 0 = X 10 0 := e 10 0 (by decide) (by decide)
  refine ⟨by rw [e10]; exact w1, by rw [e11]; exact w2, by rw [e 14 0 (by decide) (by decide)]; exact w3, by rw [e 15 0 (by decide) (by decide)]; exact w4, fun i hi => ?_, fun i hi => ?_, fun i hi => ?_, hap⟩
  · rw [e 0 i (by decide) (by decide)]; exact w5 i hi
  · rw [e10] at hi; rw [e 1 i (by decide) (by decide)]; exact w6 i hi
  · rw [e11] at hi
    rw [e 4 i (by decide) (by decide), e 5 i (by decide) (by decide), e 6 i (by decide) (by decide), e10, e 9 0 (by decide) (by decide), gm_fnc_7, gm_fnc_8]
    obtain ⟨a1, a2, a3, a4, a5, a6, a7⟩ := w7 i hi
    by_cases h : X 7 i ≠ 0 ∧ X 7 i ≤ n ∧ X 5 i = 0
    · rw [if_pos h, if_pos h]
      exact ⟨a1, a2, a3, a4, Nat.zero_le _, fun _ => ⟨rfl, h.2.2⟩, Nat.le_refl _⟩
    · rw [if_neg h, if_neg h]
      exact ⟨a1, a2, a3, a4, a5, a6, a7⟩
/-- a new stone, a new sack -/
def gm_adds (M : gm_M) (v : Nat) : gm_M := gm_set (gm_set M 1 (M 10 0) v) 10 0 (M 10 0 + 1)
def gm_add (M : gm_M) (b g u : Nat) : gm_M := fun k i => if i = M 11 0 ∧ 4 ≤ k ∧ k ≤ 8 then (if k = 4 then b else if k = 5 then g else if k = 6 then u else 0) else if k = 11 ∧ i = 0 then M 11 0 + 1 else M k i
theorem gm_add_k (M : gm_M) (b g u i : Nat) {k : Nat} (h : k < 4 ∨ 8 < k) (h11 : k ≠ 11) : gm_add M b g u k i = M k i := by
  unfold gm_add
  rw [if_neg (by omega), if_neg (by omega)]
theorem gm_add_i (M : gm_M) (b g u : Nat) {i k : Nat} (h4 : 4 ≤ k) (h8 : k ≤ 8) (hi : i ≠ M 11 0) : gm_add M b g u k i = M k i := by
  unfold gm_add
  rw [if_neg (by omega), if_neg (by omega)]
theorem gm_add_11 (M : gm_M) (b g u : Nat) : gm_add M b g u 11 0 = M 11 0 + 1 := by
  unfold gm_add
  rw [if_neg (by omega), if_pos ⟨rfl, rfl⟩]
theorem gm_add_at (M : gm_M) (b g u : Nat) : gm_add M b g u 4 (M 11 0) = b ∧ gm_add M b g u 5 (M 11 0) = g ∧ gm_add M b g u 6 (M 11 0) = u ∧ gm_add M b g u 7 (M 11 0) = 0 ∧ gm_add M b g u 8 (M 11 0) = 0 := by
  unfold gm_add
  refine ⟨?_, ?_, ?_, ?_, ?_⟩ <;> rw [if_pos (by omega)] <;> simp
theorem gm_who_ext {M X : gm_M} {m n : Nat} (h : ∀ k, k < n → X 7 k = M 7 k) (hn : X 7 n ≠ m + 1) : gm_who X m (n + 1) = gm_who M m n := by
  show (if gm_who X m n ≠ 0 then gm_who X m n else if X 7 n = m + 1 then n + 1 else 0) = gm_who M m n
  rw [gm_who_congr n h, if_neg hn]
  split
  · rfl
  · omega
theorem gc_rep_adds {F : Nat → Int32} {B : Nat → Nat → Int32} {M : gm_M} {v : Nat} (wf : gm_wf M) (h : gc_rep F B M) :
    gc_rep (upd F 10 (nI (M 10 0 + 1))) (gc_up (gc_up B 1 (upd (B 1) (M 10 0) (nI v))) 2 (upd (B 2) (M 10 0) (-1))) (gm_adds M v) := by
  obtain ⟨⟨h9, h10, h11, h12, h13, h14, h15⟩, r0, r1, r2, r4, r5, r6, r7, r8⟩ := h
  have w7 := wf.2.2.2.2.2.2.1
  have e : ∀ k i, k ≠ 1 → k ≠ 10 → gm_adds M v k i = M k i := fun k i h1 h2 => by unfold gm_adds; rw [gm_set_k _ _ h2, gm_set_k _ _ h1]
  have e11 : gm_adds M v 11 0 = M 11 0 := e 11 0 (by decide) (by decide)
  have e10 : gm_adds M v 10 0 = M 10 0 + 1 := gm_set_at _ _ _ _
  refine ⟨⟨?_, ?_, ?_, ?_, ?_, ?_, ?_⟩, ?_, ?_, ?_, ?_, ?_, ?_, ?_, ?_⟩
  · rw [e 9 0 (by decide) (by decide)]; exact h9
  · rw [e10]; rfl
  · rw [e11]; exact h11
  · rw [e11, gm_gct_congr (M := M) _ (fun k hk => e 8 k (by decide) (by decide))]; exact h12
  · rw [e 13 0 (by decide) (by decide)]; exact h13
  · rw [e 14 0 (by decide) (by decide)]; exact h14
  · rw [e 15 0 (by decide) (by decide)]; exact h15
  · intro i hi; rw [e 0 i (by decide) (by decide)]; exact r0 i hi
  · intro i hi
    rw [e10] at hi
    show upd (B 1) (M 10 0) (nI v) i = _
    unfold gm_adds
    rw [gm_set_k _ _ (by decide)]
    by_cases hi2 : i = M 10 0
    · rw [hi2, pk_us, gm_set_at]
    · rw [pk_un hi2, gm_set_i _ _ hi2]; exact r1 i (by omega)
  · intro i hi
    rw [e10] at hi
    rw [e11, gm_who_congr (M := M) _ (fun k hk => e 7 k (by decide) (by decide))]
    show upd (B 2) (M 10 0) (-1) i = _
    by_cases hi2 : i = M 10 0
    · rw [hi2, pk_us, gm_who_zero]
      · rfl
      · intro k hk
        have := (w7 k hk).2.2.2.2.1
        omega
    · rw [pk_un hi2]; exact r2 i (by omega)
  · intro i hi; rw [e11] at hi; rw [e 4 i (by decide) (by decide)]; exact r4 i hi
  · intro i hi; rw [e11] at hi; rw [e 5 i (by decide) (by decide)]; exact r5 i hi
  · intro i hi; rw [e11] at hi; rw [e 6 i (by decide) (by decide)]; exact r6 i hi
  · intro i hi; rw [e11] at hi; rw [e 7 i (by decide) (by decide)]; exact r7 i hi
  · intro i hi; rw [e11] at hi; rw [e 8 i (by decide) (by decide)]; exact r8 i hi
theorem gm_gct_ext {M X : gm_M} {n : Nat} (h : ∀ k, k < n → X 8 k = M 8 k) (hn : X 8 n = 0) : gm_gct X (n + 1) = gm_gct M n := by
  show gm_gct X n + (if X 8 n = 0 then 0 else 1) = gm_gct M n
  rw [gm_gct_congr n h, if_pos hn, Nat.add_zero]
theorem gc_rep_add {F : Nat → Int32} {B : Nat → Nat → Int32} {M : gm_M} {b g u : Nat} (h : gc_rep F B M) :
    gc_rep (upd F 11 (nI (M 11 0 + 1))) (gc_up (gc_up (gc_up (gc_up (gc_up B 4 (upd (B 4) (M 11 0) (nI b))) 5 (upd (B 5) (M 11 0) (nI g))) 6 (upd (B 6) (M 11 0) (nI u))) 7 (upd (B 7) (M 11 0) (-1))) 8 (upd (B 8) (M 11 0) (-1))) (gm_add M b g u) := by
  obtain ⟨⟨h9, h10, h11, h12, h13, h14, h15⟩, r0, r1, r2, r4, r5, r6, r7, r8⟩ := h
  have e : ∀ k i, (k < 4 ∨ 8 < k) → k ≠ 11 → gm_add M b g u k i = M k i := fun k i h1 h2 => gm_add_k M b g u i h1 h2
  have ei : ∀ k i, 4 ≤ k → k ≤ 8 → i ≠ M 11 0 → gm_add M b g u k i = M k i := fun k i h1 h2 h3 => gm_add_i M b g u h1 h2 h3
  obtain ⟨a4, a5, a6, a7, a8⟩ := gm_add_at M b g u
  have e11 : gm_add M b g u 11 0 = M 11 0 + 1 := gm_add_11 M b g u
  have e10 : gm_add M b g u 10 0 = M 10 0 := e 10 0 (by decide) (by decide)
  refine ⟨⟨?_, ?_, ?_, ?_, ?_, ?_, ?_⟩, ?_, ?_, ?_, ?_, ?_, ?_, ?_, ?_⟩
  · rw [e 9 0 (by decide) (by decide)]; exact h9
  · rw [e10]; exact h10
  · rw [e11]; rfl
  · rw [e11, gm_gct_ext (M := M) (fun k hk => ei 8 k (by decide) (by decide) (by omega)) a8]; exact h12
  · rw [e 13 0 (by decide) (by decide)]; exact h13
  · rw [e 14 0 (by decide) (by decide)]; exact h14
  · rw [e 15 0 (by decide) (by decide)]; exact h15
  · intro i hi; rw [e 0 i (by decide) (by decide)]; exact r0 i hi
  · intro i hi; rw [e10] at hi; rw [e 1 i (by decide) (by decide)]; exact r1 i hi
  · intro i hi
    rw [e10] at hi
    rw [e11, gm_who_ext (M := M) (fun k hk => ei 7 k (by decide) (by decide) (by omega)) (by rw [a7]; omega)]; exact r2 i hi
  all_goals (intro i hi; rw [e11] at hi)
  · show upd (B 4) (M 11 0) (nI b) i = _
    by_cases hi2 : i = M 11 0
    · rw [hi2, pk_us, a4]
    · rw [pk_un hi2, ei 4 i (by decide) (by decide) hi2]; exact r4 i (by omega)
  · show upd (B 5) (M 11 0) (nI g) i = _
    by_cases hi2 : i = M 11 0
    · rw [hi2, pk_us, a5]
    · rw [pk_un hi2, ei 5 i (by decide) (by decide) hi2]; exact r5 i (by omega)
  · show upd (B 6) (M 11 0) (nI u) i = _
    by_cases hi2 : i = M 11 0
    · rw [hi2, pk_us, a6]
    · rw [pk_un hi2, ei 6 i (by decide) (by decide) hi2]; exact r6 i (by omega)
  · show upd (B 7) (M 11 0) (-1) i = _
    by_cases hi2 : i = M 11 0
    · rw [hi2, pk_us, a7]; rfl
    · rw [pk_un hi2, ei 7 i (by decide) (by decide) hi2]; exact r7 i (by omega)
  · show upd (B 8) (M 11 0) (-1) i = _
    by_cases hi2 : i = M 11 0
    · rw [hi2, pk_us, a8]; rfl
    · rw [pk_un hi2, ei 8 i (by decide) (by decide) hi2]; exact r8 i (by omega)
theorem gm_adds_wf {M : gm_M} {v : Nat} (wf : gm_wf M) (h : M 10 0 < 4) (h1 : 1 ≤ v) (h9 : v ≤ 9) : gm_wf (gm_adds M v) := by
  obtain ⟨w1, w2, w3, w4, w5, w6, w7, w8⟩ := wf
  have e : ∀ k i, k ≠ 1 → k ≠ 10 → gm_adds M v k i = M k i := fun k i h1 h2 => by unfold gm_adds; rw [gm_set_k _ _ h2, gm_set_k _ _ h1]
  have e11 : gm_adds M v 11 0 = M 11 0 := e 11 0 (by decide) (by decide)
  have e10 : gm_adds M v 10 0 = M 10 0 + 1 := gm_set_at _ _ _ _
  refine ⟨by rw [e10]; omega, by rw [e11]; exact w2, by rw [e 14 0 (by decide) (by decide)]; exact w3, by rw [e 15 0 (by decide) (by decide)]; exact w4, fun i hi => ?_, fun i hi => ?_, fun i hi => ?_, fun i j hi hj => ?_⟩
  · rw [e 0 i (by decide) (by decide)]; exact w5 i hi
  · rw [e10] at hi
    unfold gm_adds
    rw [gm_set_k _ _ (by decide)]
    by_cases hi2 : i = M 10 0
    · rw [hi2, gm_set_at]; omega
    · rw [gm_set_i _ _ hi2]; exact w6 i (by omega)
  · rw [e11] at hi
    rw [e 4 i (by decide) (by decide), e 5 i (by decide) (by decide), e 6 i (by decide) (by decide), e 7 i (by decide) (by decide), e 8 i (by decide) (by decide), e10, e 9 0 (by decide) (by decide)]
    obtain ⟨a1, a2, a3, a4, a5, a6, a7⟩ := w7 i hi
    exact ⟨a1, a2, a3, a4, by omega, a6, a7⟩
  · rw [e11] at hi hj
    rw [e 7 i (by decide) (by decide), e 7 j (by decide) (by decide)]
    exact w8 i j hi hj
theorem gm_adds_rest {M : gm_M} {v : Nat} (h : gm_rest M) : gm_rest (gm_adds M v) := by
  have e : ∀ k i, k ≠ 1 → k ≠ 10 → gm_adds M v k i = M k i := fun k i h1 h2 => by unfold gm_adds; rw [gm_set_k _ _ h2, gm_set_k _ _ h1]
  intro i hi
  rw [e 11 0 (by decide) (by decide)] at hi
  rw [e 5 i (by decide) (by decide), e 8 i (by decide) (by decide)]
  exact h i hi
theorem gm_add_wf {M : gm_M} {b g u : Nat} (wf : gm_wf M) (h : M 11 0 < 16) (hb : b ≤ 7) (hg : g ≤ 60) (hu1 : 1 ≤ u) (hu2 : u ≤ 200) : gm_wf (gm_add M b g u) := by
  obtain ⟨w1, w2, w3, w4, w5, w6, w7, w8⟩ := wf
  have e : ∀ k i, (k < 4 ∨ 8 < k) → k ≠ 11 → gm_add M b g u k i = M k i := fun k i h1 h2 => gm_add_k M b g u i h1 h2
  have ei : ∀ k i, 4 ≤ k → k ≤ 8 → i ≠ M 11 0 → gm_add M b g u k i = M k i := fun k i h1 h2 h3 => gm_add_i M b g u h1 h2 h3
  obtain ⟨a4, a5, a6, a7, a8⟩ := gm_add_at M b g u
  have e11 : gm_add M b g u 11 0 = M 11 0 + 1 := gm_add_11 M b g u
  have e10 : gm_add M b g u 10 0 = M 10 0 := e 10 0 (by decide) (by decide)
  refine ⟨by rw [e10]; exact w1, by rw [e11]; omega, by rw [e 14 0 (by decide) (by decide)]; exact w3, by rw [e 15 0 (by decide) (by decide)]; exact w4, fun i hi => ?_, fun i hi => ?_, fun i hi => ?_, fun i j hi hj hij hn => ?_⟩
  · rw [e 0 i (by decide) (by decide)]; exact w5 i hi
  · rw [e10] at hi; rw [e 1 i (by decide) (by decide)]; exact w6 i hi
  · rw [e11] at hi
    rw [e10, e 9 0 (by decide) (by decide)]
    by_cases hi2 : i = M 11 0
    · rw [hi2, a4, a5, a6, a7, a8]
      exact ⟨hb, hg, hu1, hu2, Nat.zero_le _, fun q => absurd rfl q, Nat.zero_le _⟩
    · rw [ei 4 i (by decide) (by decide) hi2, ei 5 i (by decide) (by decide) hi2, ei 6 i (by decide) (by decide) hi2, ei 7 i (by decide) (by decide) hi2, ei 8 i (by decide) (by decide) hi2]
      exact w7 i (by omega)
  · rw [e11] at hi hj
    by_cases hi2 : i = M 11 0
    · rw [hi2, a7] at hn; exact absurd rfl hn
    · rw [ei 7 i (by decide) (by decide) hi2] at hij hn
      by_cases hj2 : j = M 11 0
      · rw [hj2, a7] at hij; exact absurd hij hn
      · rw [ei 7 j (by decide) (by decide) hj2] at hij
        exact w8 i j (by omega) (by omega) hij hn
theorem gm_add_rest {M : gm_M} {b g u : Nat} (h : gm_rest M) (hg : 1 ≤ g) : gm_rest (gm_add M b g u) := by
  obtain ⟨a4, a5, a6, a7, a8⟩ := gm_add_at M b g u
  intro i hi
  rw [gm_add_11] at hi
  by_cases hi2 : i = M 11 0
  · rw [hi2, a5]; omega
  · rw [gm_add_i _ _ _ _ (by decide) (by decide) hi2, gm_add_i _ _ _ _ (by decide) (by decide) hi2]
    exact h i (by omega)
theorem gm_h1_eq (M : gm_M) : gm_fil (gm_tk M) (gm_tk M 10 0) = gm_h1 M := by unfold gm_h1; rw [gm_tk_ne M 0 (by decide)]
theorem gm_h2_eq (M : gm_M) : gm_grd (gm_h1 M 16 0 + gm_wnd (gm_h1 M)) (gm_h1 M) (gm_h1 M 10 0) = gm_h2 M := by
  have e : ∀ k i, k ≠ 3 → k ≠ 7 → k ≠ 13 → gm_h1 M k i = M k i := fun k i h3 h7 h13 => gm_h1_ne M i h3 h7 h13
  have ew : gm_wnd (gm_h1 M) = gm_wnd M := by unfold gm_wnd; rw [e 9 0 (by decide) (by decide) (by decide), e 0 _ (by decide) (by decide) (by decide)]
  unfold gm_h2
  rw [ew, e 16 0 (by decide) (by decide) (by decide), e 10 0 (by decide) (by decide) (by decide)]
theorem gm_hour_eq (M : gm_M) : gm_fnp (gm_inc (gm_h2 M)) (gm_inc (gm_h2 M) 11 0) = gm_hour M := by
  unfold gm_hour
  rw [gm_inc_ne _ _ (by decide), gm_h2_ne M 0 (by decide) (by decide) (by decide) (by decide) (by decide)]
