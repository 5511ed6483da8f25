/-! THE LAW'S OWN MILL: its cells, and how they stand for the store -/
def gp_r (cI : ClassId) (z : Nat) (S : Nat → Nat) (T : Nat → Nat → Int32) (n : Nat) : va_W := (List.range n).map (fun i => (S i, .inl (cI, z, .inl (T i))))
theorem gp_r_len (cI : ClassId) (z : Nat) (S : Nat → Nat) (T : Nat → Nat → Int32) (n : Nat) : (gp_r cI z S T n).length = n := by
  unfold gp_r; rw [List.length_map, List.length_range]
theorem gp_r_at {cI : ClassId} {z : Nat} {S : Nat → Nat} {T : Nat → Nat → Int32} {n j : Nat} (h : j < n) : (gp_r cI z S T n)[j]? = some (S j, .inl (cI, z, .inl (T j))) := by
  unfold gp_r
  rw [List.getElem?_map, List.getElem?_range h]; rfl
theorem gp_r_set {cI : ClassId} {z : Nat} {S : Nat → Nat} {T : Nat → Nat → Int32} {n j : Nat} (f : Nat → Int32) : (gp_r cI z S T n).set j (S j, .inl (cI, z, .inl f)) = gp_r cI z S (gc_up T j f) n := by
  refine List.ext_getElem (by rw [List.length_set, gp_r_len, gp_r_len]) (fun i h1 h2 => ?_)
  rw [gp_r_len] at h2
  have e1 : ((gp_r cI z S (gc_up T j f) n))[i]? = some (S i, .inl (cI, z, .inl (gc_up T j f i))) := gp_r_at h2
  have e2 : (gp_r cI z S T n)[i]? = some (S i, .inl (cI, z, .inl (T i))) := gp_r_at h2
  have g1 := (List.getElem?_eq_some_iff.mp e1).2
  have g2 := (List.getElem?_eq_some_iff.mp e2).2
  rw [g1, List.getElem_set]
  by_cases hij : j = i
  · subst hij
    rw [if_pos rfl, gc_up_at]
  · rw [if_neg hij, g2, gc_up_ne _ _ (fun q => hij q.symm)]
theorem gp_r_succ (cI : ClassId) (z : Nat) (S : Nat → Nat) (T : Nat → Nat → Int32) (n : Nat) : gp_r cI z S T (n + 1) = gp_r cI z S T n ++ [(S n, .inl (cI, z, .inl (T n)))] := by
  unfold gp_r
  rw [List.range_succ, List.map_append]; rfl
theorem gp_r_congr {cI : ClassId} {z : Nat} {S S' : Nat → Nat} {T T' : Nat → Nat → Int32} {n : Nat} (h : ∀ i, i < n → S i = S' i ∧ T i = T' i) : gp_r cI z S T n = gp_r cI z S' T' n := by
  unfold gp_r
  refine List.map_congr_left (fun i hi => ?_)
  have := h i (List.mem_range.mp hi)
  rw [this.1, this.2]
def gp_V (q : Nat → Nat) (F : Nat → Int32) : List Value := [.int (F 0), .int (F 1), .int (F 2), .int (F 3), .int (F 4), .ref (q 0), .ref (q 1), .ref (q 2)]
def gp_W (cI cJ : ClassId) (a : Nat) (q : Nat → Nat) (F W0 : Nat → Int32) (nm nk : Nat) (fS fK : Nat → Option Nat) (Sx Kx : Nat → Nat) (T V : Nat → Nat → Int32) : va_W :=
  (a, .inr (2, gp_V q F)) :: (q 0, .inl (cI, 12, .inl W0)) :: (q 1, .inl (cJ, nm, .inr (.inr (.inr (.inr fS))))) :: (q 2, .inl (cJ, nk, .inr (.inr (.inr (.inr fK))))) :: (gp_r cI 2 Sx T nm ++ gp_r cI 4 Kx V nk)
section GPW
variable {cI cJ : ClassId} {a : Nat} {q : Nat → Nat} {F W0 : Nat → Int32} {nm nk : Nat} {fS fK : Nat → Option Nat} {Sx Kx : Nat → Nat} {T V : Nat → Nat → Int32} {W W' Z : va_W} {x e : Nat × va_E} {j k : Nat}
theorem gp_atS (h : j < nm) : (gp_W cI cJ a q F W0 nm nk fS fK Sx Kx T V)[j + 4]? = some (Sx j, .inl (cI, 2, .inl (T j))) := by
  show (gp_r cI 2 Sx T nm ++ gp_r cI 4 Kx V nk)[j]? = _
  rw [List.getElem?_append_left (by rw [gp_r_len]; exact h)]
  exact gp_r_at h
theorem gp_atK (h : j < nk) : (gp_W cI cJ a q F W0 nm nk fS fK Sx Kx T V)[nm + j + 4]? = some (Kx j, .inl (cI, 4, .inl (V j))) := by
  show (gp_r cI 2 Sx T nm ++ gp_r cI 4 Kx V nk)[nm + j]? = _
  rw [List.getElem?_append_right (by rw [gp_r_len]; exact Nat.le_add_right _ _), gp_r_len, Nat.add_sub_cancel_left]
  exact gp_r_at h
theorem gp_setS (h : j < nm) (f : Nat → Int32) : (gp_W cI cJ a q F W0 nm nk fS fK Sx Kx T V).set (j + 4) (Sx j, .inl (cI, 2, .inl f)) = gp_W cI cJ a q F W0 nm nk fS fK Sx Kx (gc_up T j f) V := by
  show _ :: _ :: _ :: _ :: (gp_r cI 2 Sx T nm ++ gp_r cI 4 Kx V nk).set j _ = _ :: _ :: _ :: _ :: _
  rw [List.set_append_left _ _ (by rw [gp_r_len]; exact h), gp_r_set]
theorem gp_setK (f : Nat → Int32) : (gp_W cI cJ a q F W0 nm nk fS fK Sx Kx T V).set (nm + j + 4) (Kx j, .inl (cI, 4, .inl f)) = gp_W cI cJ a q F W0 nm nk fS fK Sx Kx T (gc_up V j f) := by
  show _ :: _ :: _ :: _ :: (gp_r cI 2 Sx T nm ++ gp_r cI 4 Kx V nk).set (nm + j) _ = _ :: _ :: _ :: _ :: _
  rw [List.set_append_right _ _ (by rw [gp_r_len]; exact Nat.le_add_right _ _), gp_r_len, Nat.add_sub_cancel_left, gp_r_set]
theorem gp_s1 (h : W[k]? = some e) : ([x] ++ W)[k + 1]? = some e := h
theorem gp_t1 (h : W.set k e = W') : ([x] ++ W).set (k + 1) e = [x] ++ W' := by
  show x :: W.set k e = x :: W'
  rw [h]
theorem gp_sZ (h : W[k]? = some e) : (W ++ Z)[k]? = some e := by
  rw [List.getElem?_append_left (List.getElem?_eq_some_iff.mp h).1]; exact h
theorem gp_tZ {e1 : Nat × va_E} (h1 : W[k]? = some e1) (h : W.set k e = W') : (W ++ Z).set k e = W' ++ Z := by
  rw [List.set_append_left _ _ (List.getElem?_eq_some_iff.mp h1).1, h]
end GPW
def gp_rows (f : Nat → Option Nat) (S : Nat → Nat) (n : Nat) : Prop := ∀ i, i < n → f i = some (S i)
def gp_rep (F W0 : Nat → Int32) (T V : Nat → Nat → Int32) (M : gm_M) : Prop :=
  (F 0 = nI (M 9 0) ∧ F 1 = nI (M 14 0) ∧ F 2 = nI (M 15 0) ∧ F 3 = nI (M 13 0) ∧ F 4 = nI (M 16 0)) ∧ (∀ i, i < 12 → W0 i = nI (M 0 i)) ∧
  (∀ i, i < M 10 0 → T i 0 = nI (M 1 i)) ∧ (∀ i, i < M 10 0 → T i 1 = gm_e (gm_who M i (M 11 0))) ∧
  (∀ i, i < M 11 0 → V i 0 = nI (M 4 i)) ∧ (∀ i, i < M 11 0 → V i 1 = nI (M 5 i)) ∧ (∀ i, i < M 11 0 → V i 2 = nI (M 6 i)) ∧ (∀ i, i < M 11 0 → V i 3 = gm_e (M 8 i))
section GPR
variable {F W0 : Nat → Int32} {T V : Nat → Nat → Int32} {M X : gm_M}
theorem gp_rep_same (h : gp_rep F W0 T V M) (hs : gm_same M X) : gp_rep F W0 T V X := by
  obtain ⟨⟨h0, h1, h2, h3, h4⟩, w, t0, t1, v0, v1, v2, v3⟩ := h
  have e11 : X 11 0 = M 11 0 := hs 11 0 (by omega)
  have e10 : X 10 0 = M 10 0 := hs 10 0 (by omega)
  refine ⟨⟨?_, ?_, ?_, ?_, ?_⟩, ?_, ?_, ?_, ?_, ?_, ?_, ?_⟩
  · rw [hs 9 0 (by omega)]; exact h0
  · rw [hs 14 0 (by omega)]; exact h1
  · rw [hs 15 0 (by omega)]; exact h2
  · rw [hs 13 0 (by omega)]; exact h3
  · rw [hs 16 0 (by omega)]; exact h4
  · intro i hi; rw [hs 0 i (by omega)]; exact w i hi
  · intro i hi; rw [e10] at hi; rw [hs 1 i (by omega)]; exact t0 i hi
  · intro i hi; rw [e10] at hi; rw [e11, gm_who_congr (M := M) _ (fun k hk => hs 7 k (by omega))]; exact t1 i hi
  · intro i hi; rw [e11] at hi; rw [hs 4 i (by omega)]; exact v0 i hi
  · intro i hi; rw [e11] at hi; rw [hs 5 i (by omega)]; exact v1 i hi
  · intro i hi; rw [e11] at hi; rw [hs 6 i (by omega)]; exact v2 i hi
  · intro i hi; rw [e11] at hi; rw [hs 8 i (by omega)]; exact v3 i hi
/-- a store that differs: what the cells must then hold -/
theorem gp_rep_to {F' W' : Nat → Int32} {T' V' : Nat → Nat → Int32} (h : gp_rep F W0 T V M) (e10 : X 10 0 = M 10 0) (e11 : X 11 0 = M 11 0)
    (h0 : F' 0 = nI (X 9 0)) (h1 : F' 1 = nI (X 14 0)) (h2 : F' 2 = nI (X 15 0)) (h3 : F' 3 = nI (X 13 0)) (h4 : F' 4 = nI (X 16 0)) (hw : ∀ i, i < 12 → W' i = nI (X 0 i))
    (t0 : ∀ i, i < M 10 0 → T' i 0 = nI (X 1 i)) (t1 : ∀ i, i < M 10 0 → T' i 1 = gm_e (gm_who X i (M 11 0)))
    (v0 : ∀ i, i < M 11 0 → V' i 0 = nI (X 4 i)) (v1 : ∀ i, i < M 11 0 → V' i 1 = nI (X 5 i)) (v2 : ∀ i, i < M 11 0 → V' i 2 = nI (X 6 i)) (v3 : ∀ i, i < M 11 0 → V' i 3 = gm_e (X 8 i)) : gp_rep F' W' T' V' X := by
  refine ⟨⟨h0, h1, h2, h3, h4⟩, hw, ?_, ?_, ?_, ?_, ?_, ?_⟩
  · intro i hi; rw [e10] at hi; exact t0 i hi
  · intro i hi; rw [e10] at hi; rw [e11]; exact t1 i hi
  · intro i hi; rw [e11] at hi; exact v0 i hi
  · intro i hi; rw [e11] at hi; exact v1 i hi
  · intro i hi; rw [e11] at hi; exact v2 i hi
  · intro i hi; rw [e11] at hi; exact v3 i hi
theorem gp_up_ne (T : Nat → Nat → Int32) {i j c : Nat} (f : Nat → Int32) (h : i ≠ j) : gc_up T j f i c = T i c := by rw [gc_up_ne _ _ h]
theorem gp_up_c (T : Nat → Nat → Int32) {i j c k : Nat} (v : Int32) (h : k ≠ c) : gc_up T j (upd (T j) c v) i k = T i k := by
  by_cases hi : i = j
  · rw [hi, gc_up_at, pk_un h]
  · rw [gc_up_ne _ _ hi]
theorem gp_up_at (T : Nat → Nat → Int32) (j c : Nat) (v : Int32) : gc_up T j (upd (T j) c v) j c = v := by rw [gc_up_at, pk_us]
theorem gp_rep_clr {m : Nat} (h : gp_rep F W0 T V M) : gp_rep F W0 (gc_up T m (upd (T m) 1 (-1))) V (gm_clr M m) := by
  have e : ∀ k i, k ≠ 7 → gm_clr M m k i = M k i := fun k i hk => gm_clr_ne M m i hk
  obtain ⟨⟨h0, h1, h2, h3, h4⟩, w, t0, t1, v0, v1, v2, v3⟩ := id h
  refine gp_rep_to h (e 10 0 (by decide)) (e 11 0 (by decide)) ?_ ?_ ?_ ?_ ?_ ?_ ?_ ?_ ?_ ?_ ?_ ?_
  · rw [e 9 0 (by decide)]; exact h0
  · rw [e 14 0 (by decide)]; exact h1
  · rw [e 15 0 (by decide)]; exact h2
  · rw [e 13 0 (by decide)]; exact h3
  · rw [e 16 0 (by decide)]; exact h4
  · intro i hi; rw [e 0 i (by decide)]; exact w i hi
  · intro i hi; rw [e 1 i (by decide), gp_up_c _ _ (by decide)]; exact t0 i hi
  · intro i hi
    by_cases him : i = m
    · rw [him, gp_up_at, gm_who_zero _ (fun k _ => by rw [gm_clr_7]; split <;> omega)]; rfl
    · rw [gp_up_ne _ _ him, t1 i hi]
      refine congrArg gm_e (gm_who_keep _ (fun k _ => ?_)).symm
      rw [gm_clr_7]
      split <;> omega
  · intro i hi; rw [e 4 i (by decide)]; exact v0 i hi
  · intro i hi; rw [e 5 i (by decide)]; exact v1 i hi
  · intro i hi; rw [e 6 i (by decide)]; exact v2 i hi
  · intro i hi; rw [e 8 i (by decide)]; exact v3 i hi
theorem gp_rep_put {m s : Nat} (h : gp_rep F W0 T V M) (hs : s < M 11 0) (hs0 : M 7 s = 0) (hw : gm_who M m (M 11 0) = 0) : gp_rep (upd F 3 (nI (M 13 0 + 1))) W0 (gc_up T m (upd (T m) 1 (nI s))) V (gm_put M m s) := by
  have e : ∀ k i, k ≠ 7 → k ≠ 13 → gm_put M m s k i = M k i := fun k i a1 a2 => gm_put_ne M m s i a1 a2
  have hno := gm_who_no _ hw
  obtain ⟨⟨h0, h1, h2, h3, h4⟩, w, t0, t1, v0, v1, v2, v3⟩ := id h
  refine gp_rep_to h (e 10 0 (by decide) (by decide)) (e 11 0 (by decide) (by decide)) ?_ ?_ ?_ ?_ ?_ ?_ ?_ ?_ ?_ ?_ ?_ ?_
  · rw [e 9 0 (by decide) (by decide), pk_un (by decide)]; exact h0
  · rw [e 14 0 (by decide) (by decide), pk_un (by decide)]; exact h1
  · rw [e 15 0 (by decide) (by decide), pk_un (by decide)]; exact h2
  · rw [gm_put_13, pk_us]
  · rw [e 16 0 (by decide) (by decide), pk_un (by decide)]; exact h4
  · intro i hi; rw [e 0 i (by decide) (by decide)]; exact w i hi
  · intro i hi; rw [e 1 i (by decide) (by decide), gp_up_c _ _ (by decide)]; exact t0 i hi
  · intro i hi
    by_cases him : i = m
    · rw [him, gp_up_at, gm_who_is hs (by rw [gm_put_7, if_pos rfl]), gm_eS]
      intro k hk hk1
      rw [gm_put_7] at hk1
      by_cases hks : k = s
      · exact hks
      · rw [if_neg hks] at hk1; exact absurd hk1 (hno k hk)
    · rw [gp_up_ne _ _ him, t1 i hi]
      refine congrArg gm_e (gm_who_keep _ (fun k hk => ?_)).symm
      rw [gm_put_7]
      by_cases hks : k = s
      · rw [if_pos hks, hks, hs0]; omega
      · rw [if_neg hks]
  · intro i hi; rw [e 4 i (by decide) (by decide)]; exact v0 i hi
  · intro i hi; rw [e 5 i (by decide) (by decide)]; exact v1 i hi
  · intro i hi; rw [e 6 i (by decide) (by decide)]; exact v2 i hi
  · intro i hi; rw [e 8 i (by decide) (by decide)]; exact v3 i hi
theorem gp_rep_les {s a : Nat} (h : gp_rep F W0 T V M) : gp_rep (upd F 4 (nI (M 16 0 + a))) W0 T (gc_up V s (upd (V s) 1 (nI (M 5 s - a)))) (gm_les M s a) := by
  have e : ∀ k i, k ≠ 5 → k ≠ 16 → gm_les M s a k i = M k i := fun k i a1 a2 => gm_les_ne M s a i a1 a2
  obtain ⟨⟨h0, h1, h2, h3, h4⟩, w, t0, t1, v0, v1, v2, v3⟩ := id h
  refine gp_rep_to h (e 10 0 (by decide) (by decide)) (e 11 0 (by decide) (by decide)) ?_ ?_ ?_ ?_ ?_ ?_ ?_ ?_ ?_ ?_ ?_ ?_
  · rw [e 9 0 (by decide) (by decide), pk_un (by decide)]; exact h0
  · rw [e 14 0 (by decide) (by decide), pk_un (by decide)]; exact h1
  · rw [e 15 0 (by decide) (by decide), pk_un (by decide)]; exact h2
  · rw [e 13 0 (by decide) (by decide), pk_un (by decide)]; exact h3
  · rw [gm_les_16, pk_us]
  · intro i hi; rw [e 0 i (by decide) (by decide)]; exact w i hi
  · intro i hi; rw [e 1 i (by decide) (by decide)]; exact t0 i hi
  · intro i hi; rw [gm_who_congr (M := M) _ (fun k _ => e 7 k (by decide) (by decide))]; exact t1 i hi
  · intro i hi; rw [e 4 i (by decide) (by decide), gp_up_c _ _ (by decide)]; exact v0 i hi
  · intro i hi
    rw [gm_les_5]
    by_cases his : i = s
    · rw [his, gp_up_at, if_pos rfl]
    · rw [gp_up_ne _ _ his, if_neg his]; exact v1 i hi
  · intro i hi; rw [e 6 i (by decide) (by decide), gp_up_c _ _ (by decide)]; exact v2 i hi
  · intro i hi; rw [e 8 i (by decide) (by decide), gp_up_c _ _ (by decide)]; exact v3 i hi
theorem gp_rep_inc (h : gp_rep F W0 T V M) : gp_rep (upd F 0 (nI (M 9 0 + 1))) W0 T V (gm_inc M) := by
  have e : ∀ k i, k ≠ 9 → gm_inc M k i = M k i := fun k i a1 => gm_inc_ne M i a1
  obtain ⟨⟨h0, h1, h2, h3, h4⟩, w, t0, t1, v0, v1, v2, v3⟩ := id h
  refine gp_rep_to h (e 10 0 (by decide)) (e 11 0 (by decide)) ?_ ?_ ?_ ?_ ?_ ?_ ?_ ?_ ?_ ?_ ?_ ?_
  · rw [gm_inc_9, pk_us]
  · rw [e 14 0 (by decide), pk_un (by decide)]; exact h1
  · rw [e 15 0 (by decide), pk_un (by decide)]; exact h2
  · rw [e 13 0 (by decide), pk_un (by decide)]; exact h3
  · rw [e 16 0 (by decide), pk_un (by decide)]; exact h4
  · intro i hi; rw [e 0 i (by decide)]; exact w i hi
  · intro i hi; rw [e 1 i (by decide)]; exact t0 i hi
  · intro i hi; rw [gm_who_congr (M := M) _ (fun k _ => e 7 k (by decide))]; exact t1 i hi
  · intro i hi; rw [e 4 i (by decide)]; exact v0 i hi
  · intro i hi; rw [e 5 i (by decide)]; exact v1 i hi
  · intro i hi; rw [e 6 i (by decide)]; exact v2 i hi
  · intro i hi; rw [e 8 i (by decide)]; exact v3 i hi
theorem gp_rep_set8 {s v : Nat} (h : gp_rep F W0 T V M) : gp_rep F W0 T (gc_up V s (upd (V s) 3 (nI v))) (gm_set M 8 s (v + 1)) := by
  have e : ∀ k i, k ≠ 8 → gm_set M 8 s (v + 1) k i = M k i := fun k i a1 => gm_set_k M i a1
  obtain ⟨⟨h0, h1, h2, h3, h4⟩, w, t0, t1, v0, v1, v2, v3⟩ := id h
  refine gp_rep_to h (e 10 0 (by decide)) (e 11 0 (by decide)) ?_ ?_ ?_ ?_ ?_ ?_ ?_ ?_ ?_ ?_ ?_ ?_
  · rw [e 9 0 (by decide)]; exact h0
  · rw [e 14 0 (by decide)]; exact h1
  · rw [e 15 0 (by decide)]; exact h2
  · rw [e 13 0 (by decide)]; exact h3
  · rw [e 16 0 (by decide)]; exact h4
  · intro i hi; rw [e 0 i (by decide)]; exact w i hi
  · intro i hi; rw [e 1 i (by decide)]; exact t0 i hi
  · intro i hi; rw [gm_who_congr (M := M) _ (fun k _ => e 7 k (by decide))]; exact t1 i hi
  · intro i hi; rw [e 4 i (by decide), gp_up_c _ _ (by decide)]; exact v0 i hi
  · intro i hi; rw [e 5 i (by decide), gp_up_c _ _ (by decide)]; exact v1 i hi
  · intro i hi; rw [e 6 i (by decide), gp_up_c _ _ (by decide)]; exact v2 i hi
  · intro i hi
    by_cases his : i = s
    · rw [his, gp_up_at, gm_set_at, gm_eS]
    · rw [gp_up_ne _ _ his, gm_set_i _ _ his]; exact v3 i hi
theorem gp_rep_wind {s v : Nat} (h : gp_rep F W0 T V M) : gp_rep F (upd W0 s (nI v)) T V (gm_set M 0 s v) := by
  have e : ∀ k i, k ≠ 0 → gm_set M 0 s v k i = M k i := fun k i a1 => gm_set_k M i a1
  obtain ⟨⟨h0, h1, h2, h3, h4⟩, w, t0, t1, v0, v1, v2, v3⟩ := id h
  refine gp_rep_to h (e 10 0 (by decide)) (e 11 0 (by decide)) ?_ ?_ ?_ ?_ ?_ ?_ ?_ ?_ ?_ ?_ ?_ ?_
  · rw [e 9 0 (by decide)]; exact h0
  · rw [e 14 0 (by decide)]; exact h1
  · rw [e 15 0 (by decide)]; exact h2
  · rw [e 13 0 (by decide)]; exact h3
  · rw [e 16 0 (by decide)]; exact h4
  · intro i hi
    by_cases his : i = s
    · rw [his, pk_us, gm_set_at]
    · rw [pk_un his, gm_set_i _ _ his]; exact w i hi
  · intro i hi; rw [e 1 i (by decide)]; exact t0 i hi
  · intro i hi; rw [gm_who_congr (M := M) _ (fun k _ => e 7 k (by decide))]; exact t1 i hi
  · intro i hi; rw [e 4 i (by decide)]; exact v0 i hi
  · intro i hi; rw [e 5 i (by decide)]; exact v1 i hi
  · intro i hi; rw [e 6 i (by decide)]; exact v2 i hi
  · intro i hi; rw [e 8 i (by decide)]; exact v3 i hi
theorem gp_rep_rule {v : Nat} (h : gp_rep F W0 T V M) : gp_rep (upd F 1 (nI v)) W0 T V (gm_set M 14 0 v) := by
  have e : ∀ k i, k ≠ 14 → gm_set M 14 0 v k i = M k i := fun k i a1 => gm_set_k M i a1
  obtain ⟨⟨h0, h1, h2, h3, h4⟩, w, t0, t1, v0, v1, v2, v3⟩ := id h
  refine gp_rep_to h (e 10 0 (by decide)) (e 11 0 (by decide)) ?_ ?_ ?_ ?_ ?_ ?_ ?_ ?_ ?_ ?_ ?_ ?_
  · rw [e 9 0 (by decide), pk_un (by decide)]; exact h0
  · rw [gm_set_at, pk_us]
  · rw [e 15 0 (by decide), pk_un (by decide)]; exact h2
  · rw [e 13 0 (by decide), pk_un (by decide)]; exact h3
  · rw [e 16 0 (by decide), pk_un (by decide)]; exact h4
  · intro i hi; rw [e 0 i (by decide)]; exact w i hi
  · intro i hi; rw [e 1 i (by decide)]; exact t0 i hi
  · intro i hi; rw [gm_who_congr (M := M) _ (fun k _ => e 7 k (by decide))]; exact t1 i hi
  · intro i hi; rw [e 4 i (by decide)]; exact v0 i hi
  · intro i hi; rw [e 5 i (by decide)]; exact v1 i hi
  · intro i hi; rw [e 6 i (by decide)]; exact v2 i hi
  · intro i hi; rw [e 8 i (by decide)]; exact v3 i hi
theorem gp_rep_off {v : Nat} (h : gp_rep F W0 T V M) : gp_rep (upd F 2 (nI v)) W0 T V (gm_set M 15 0 v) := by
  have e : ∀ k i, k ≠ 15 → gm_set M 15 0 v k i = M k i := fun k i a1 => gm_set_k M i a1
  obtain ⟨⟨h0, h1, h2, h3, h4⟩, w, t0, t1, v0, v1, v2, v3⟩ := id h
  refine gp_rep_to h (e 10 0 (by decide)) (e 11 0 (by decide)) ?_ ?_ ?_ ?_ ?_ ?_ ?_ ?_ ?_ ?_ ?_ ?_
  · rw [e 9 0 (by decide), pk_un (by decide)]; exact h0
  · rw [e 14 0 (by decide), pk_un (by decide)]; exact h1
  · rw [gm_set_at, pk_us]
  · rw [e 13 0 (by decide), pk_un (by decide)]; exact h3
  · rw [e 16 0 (by decide), pk_un (by decide)]; exact h4
  · intro i hi; rw [e 0 i (by decide)]; exact w i hi
  · intro i hi; rw [e 1 i (by decide)]; exact t0 i hi
  · intro i hi; rw [gm_who_congr (M := M) _ (fun k _ => e 7 k (by decide))]; exact t1 i hi
  · intro i hi; rw [e 4 i (by decide)]; exact v0 i hi
  · intro i hi; rw [e 5 i (by decide)]; exact v1 i hi
  · intro i hi; rw [e 6 i (by decide)]; exact v2 i hi
  · intro i hi; rw [e 8 i (by decide)]; exact v3 i hi
theorem gp_rep_until {s v : Nat} (h : gp_rep F W0 T V M) : gp_rep F W0 T (gc_up V s (upd (V s) 2 (nI v))) (gm_set M 6 s v) := by
  have e : ∀ k i, k ≠ 6 → gm_set M 6 s v k i = M k i := fun k i a1 => gm_set_k M i a1
  obtain ⟨⟨h0, h1, h2, h3, h4⟩, w, t0, t1, v0, v1, v2, v3⟩ := id h
  refine gp_rep_to h (e 10 0 (by decide)) (e 11 0 (by decide)) ?_ ?_ ?_ ?_ ?_ ?_ ?_ ?_ ?_ ?_ ?_ ?_
  · rw [e 9 0 (by decide)]; exact h0
  · rw [e 14 0 (by decide)]; exact h1
  · rw [e 15 0 (by decide)]; exact h2
  · rw [e 13 0 (by decide)]; exact h3
  · rw [e 16 0 (by decide)]; exact h4
  · intro i hi; rw [e 0 i (by decide)]; exact w i hi
  · intro i hi; rw [e 1 i (by decide)]; exact t0 i hi
  · intro i hi; rw [gm_who_congr (M := M) _ (fun k _ => e 7 k (by decide))]; exact t1 i hi
  · intro i hi; rw [e 4 i (by decide), gp_up_c _ _ (by decide)]; exact v0 i hi
  · intro i hi; rw [e 5 i (by decide), gp_up_c _ _ (by decide)]; exact v1 i hi
  · intro i hi
    by_cases his : i = s
    · rw [his, gp_up_at, gm_set_at]
    · rw [gp_up_ne _ _ his, gm_set_i _ _ his]; exact v2 i hi
  · intro i hi; rw [e 8 i (by decide), gp_up_c _ _ (by decide)]; exact v3 i hi
theorem gp_rep_adds {T' : Nat → Nat → Int32} {v : Nat} (wf : gm_wf M) (h : gp_rep F W0 T V M) (hT : ∀ i, i < M 10 0 → T' i = T i) (hT0 : T' (M 10 0) 0 = nI v) (hT1 : T' (M 10 0) 1 = -1) : gp_rep F W0 T' V (gm_adds M v) := by
  have e : ∀ k i, k ≠ 1 → k ≠ 10 → gm_adds M v k i = M k i := fun k i a1 a2 => by unfold gm_adds; rw [gm_set_k _ _ a2, gm_set_k _ _ a1]
  have e10 : gm_adds M v 10 0 = M 10 0 + 1 := by unfold gm_adds; rw [gm_set_at]
  have e11 : gm_adds M v 11 0 = M 11 0 := e 11 0 (by decide) (by decide)
  have e7 : ∀ i n, gm_who (gm_adds M v) i n = gm_who M i n := fun i n => gm_who_congr _ (fun k _ => e 7 k (by decide) (by decide))
  obtain ⟨⟨h0, h1, h2, h3, h4⟩, w, t0, t1, v0, v1, v2, v3⟩ := id h
  refine ⟨⟨?_, ?_, ?_, ?_, ?_⟩, ?_, ?_, ?_, ?_, ?_, ?_, ?_⟩
  · rw [e 9 0 (by decide) (by decide)]; exact h0
  · rw [e 14 0 (by decide) (by decide)]; exact h1
  · rw [e 15 0 (by decide) (by decide)]; exact h2
  · rw [e 13 0 (by decide) (by decide)]; exact h3
  · rw [e 16 0 (by decide) (by decide)]; exact h4
  · intro i hi; rw [e 0 i (by decide) (by decide)]; exact w i hi
  · intro i hi
    rw [e10] at hi
    have e1 : gm_adds M v 1 i = if i = M 10 0 then v else M 1 i := by
      unfold gm_adds
      rw [gm_set_k _ _ (by decide)]
      by_cases hq : i = M 10 0
      · rw [hq, gm_set_at, if_pos rfl]
      · rw [gm_set_i _ _ hq, if_neg hq]
    rw [e1]
    by_cases hq : i = M 10 0
    · rw [if_pos hq, hq]; exact hT0
    · rw [if_neg hq, hT i (by omega)]; exact t0 i (by omega)
  · intro i hi
    rw [e10] at hi
    rw [e11, e7]
    by_cases hq : i = M 10 0
    · rw [hq, hT1, gm_who_zero _ (fun k hk => by have := (wf.2.2.2.2.2.2.1 k hk).2.2.2.2.1; omega)]; rfl
    · rw [hT i (by omega)]; exact t1 i (by omega)
  · intro i hi; rw [e11] at hi; rw [e 4 i (by decide) (by decide)]; exact v0 i hi
  · intro i hi; rw [e11] at hi; rw [e 5 i (by decide) (by decide)]; exact v1 i hi
  · intro i hi; rw [e11] at hi; rw [e 6 i (by decide) (by decide)]; exact v2 i hi
  · intro i hi; rw [e11] at hi; rw [e 8 i (by decide) (by decide)]; exact v3 i hi
theorem gp_rep_add {V' : Nat → Nat → Int32} {b g u : Nat} (h : gp_rep F W0 T V M) (hV : ∀ i, i < M 11 0 → V' i = V i) (hV0 : V' (M 11 0) 0 = nI b) (hV1 : V' (M 11 0) 1 = nI g) (hV2 : V' (M 11 0) 2 = nI u) (hV3 : V' (M 11 0) 3 = -1) : gp_rep F W0 T V' (gm_add M b g u) := by
  have e : ∀ k i, (k < 4 ∨ 8 < k) → k ≠ 11 → gm_add M b g u k i = M k i := fun k i a1 a2 => gm_add_k M b g u i a1 a2
  have e11 := gm_add_11 M b g u
  have ei : ∀ k i, 4 ≤ k → k ≤ 8 → i < M 11 0 → gm_add M b g u k i = M k i := fun k i a1 a2 a3 => gm_add_i M b g u a1 a2 (by omega)
  obtain ⟨a4, a5, a6, a7, a8⟩ := gm_add_at M b g u
  have e7 : ∀ i, gm_who (gm_add M b g u) i (M 11 0 + 1) = gm_who M i (M 11 0) := fun i => gm_who_ext (fun k hk => ei 7 k (by decide) (by decide) hk) (by rw [a7]; omega)
  obtain ⟨⟨h0, h1, h2, h3, h4⟩, w, t0, t1, v0, v1, v2, v3⟩ := id h
  refine ⟨⟨?_, ?_, ?_, ?_, ?_⟩, ?_, ?_, ?_, ?_, ?_, ?_, ?_⟩
  · rw [e 9 0 (by decide) (by decide)]; exact h0
  · rw [e 14 0 (by decide) (by decide)]; exact h1
  · rw [e 15 0 (by decide) (by decide)]; exact h2
  · rw [e 13 0 (by decide) (by decide)]; exact h3
  · rw [e 16 0 (by decide) (by decide)]; exact h4
  · intro i hi; rw [e 0 i (by decide) (by decide)]; exact w i hi
  · intro i hi; rw [e 10 0 (by decide) (by decide)] at hi; rw [e 1 i (by decide) (by decide)]; exact t0 i hi
  · intro i hi; rw [e 10 0 (by decide) (by decide)] at hi; rw [e11, e7]; exact t1 i hi
  · intro i hi
    rw [e11] at hi
    by_cases hq : i = M 11 0
    · rw [hq, a4]; exact hV0
    · rw [ei 4 i (by decide) (by decide) (by omega), hV i (by omega)]; exact v0 i (by omega)
  · intro i hi
    rw [e11] at hi
    by_cases hq : i = M 11 0
    · rw [hq, a5]; exact hV1
    · rw [ei 5 i (by decide) (by decide) (by omega), hV i (by omega)]; exact v1 i (by omega)
  · intro i hi
    rw [e11] at hi
    by_cases hq : i = M 11 0
    · rw [hq, a6]; exact hV2
    · rw [ei 6 i (by decide) (by decide) (by omega), hV i (by omega)]; exact v2 i (by omega)
  · intro i hi
    rw [e11] at hi
    by_cases hq : i = M 11 0
    · rw [hq, a8]; exact hV3
    · rw [ei 8 i (by decide) (by decide) (by omega), hV i (by omega)]; exact v3 i (by omega)
theorem gp_rep_lift {s m : Nat} (wf : gm_wf M) (h : gp_rep F W0 T V M) (hs : s < M 11 0) (h7 : M 7 s = m + 1) : gp_rep F W0 (gc_up T m (upd (T m) 1 (-1))) V (gm_set M 7 s 0) := by
  refine gp_rep_same (gp_rep_clr (m := m) h) (fun k i hki => ?_)
  have e11 : gm_clr M m 11 0 = M 11 0 := gm_clr_ne M m 0 (by decide)
  rw [e11] at hki
  by_cases hk : k = 7
  · subst hk
    rw [gm_clr_7]
    by_cases his : i = s
    · rw [his, gm_set_at, if_pos h7]
    · rw [gm_set_i _ _ his, if_neg (fun q => his (gm_wf_ap wf i s (by omega) hs (by omega) (by omega)))]
  · rw [gm_set_k _ _ hk, gm_clr_ne _ _ _ hk]
end GPR
/-! how many are not ground, and their ranks by the rule -/
def gp_un (M : gm_M) (n : Nat) : Nat := n - gm_gct M n
theorem gp_un_0 (M : gm_M) : gp_un M 0 = 0 := rfl
theorem gp_un_yes {M : gm_M} {n : Nat} (h : M 8 n = 0) : gp_un M (n + 1) = gp_un M n + 1 := by
  have := gm_gct_le M n
  unfold gp_un
  rw [show gm_gct M (n + 1) = gm_gct M n + (if M 8 n = 0 then 0 else 1) from rfl, if_pos h]
  omega
theorem gp_un_no {M : gm_M} {n : Nat} (h : M 8 n ≠ 0) : gp_un M (n + 1) = gp_un M n := by
  have := gm_gct_le M n
  unfold gp_un
  rw [show gm_gct M (n + 1) = gm_gct M n + (if M 8 n = 0 then 0 else 1) from rfl, if_neg h]
  omega
theorem gp_un_le (M : gm_M) (n : Nat) : gp_un M n ≤ n := Nat.sub_le _ _
theorem gp_un_mono (M : gm_M) {i : Nat} : ∀ {n : Nat}, i ≤ n → gp_un M i ≤ gp_un M n
  | 0, h => by rw [Nat.le_zero.mp h]; exact Nat.le_refl _
  | n + 1, h => by
    have h1 : gp_un M n ≤ gp_un M (n + 1) := by
      by_cases h8 : M 8 n = 0
      · rw [gp_un_yes h8]; exact Nat.le_succ _
      · rw [gp_un_no h8]; exact Nat.le_refl _
    rcases Nat.le_succ_iff.mp h with q | q
    · exact Nat.le_trans (gp_un_mono M q) h1
    · rw [q]; exact Nat.le_refl _
theorem gp_trn_inj {M : gm_M} {s t : Nat} (hs : s < 16) (ht : t < 16) (h : gm_trn M s = gm_trn M t) : s = t := by
  unfold gm_trn at h; omega
theorem gp_cnt_succ (M : gm_M) (s n : Nat) : gm_cnt M s (n + 1) = gm_cnt M s n + (if M 8 n = 0 ∧ gm_trn M n < gm_trn M s then 1 else 0) := rfl
theorem gp_cnt_mono {M : gm_M} {s t : Nat} (h : gm_trn M s ≤ gm_trn M t) : ∀ n : Nat, gm_cnt M s n ≤ gm_cnt M t n
  | 0 => Nat.le_refl _
  | n + 1 => by
    have ih := gp_cnt_mono h n
    rw [gp_cnt_succ, gp_cnt_succ]
    by_cases h1 : M 8 n = 0 ∧ gm_trn M n < gm_trn M s
    · rw [if_pos h1, if_pos ⟨h1.1, by omega⟩]; omega
    · rw [if_neg h1]; omega
theorem gp_cnt_str {M : gm_M} {s t : Nat} (h : gm_trn M s < gm_trn M t) (h8 : M 8 s = 0) : ∀ n : Nat, s < n → gm_cnt M s n < gm_cnt M t n
  | 0, hs => absurd hs (Nat.not_lt_zero _)
  | n + 1, hs => by
    rw [gp_cnt_succ, gp_cnt_succ]
    by_cases hn : s = n
    · subst hn
      have := gp_cnt_mono (Nat.le_of_lt h) s
      rw [if_neg (by omega), if_pos ⟨h8, h⟩]; omega
    · have ih := gp_cnt_str h h8 n (by omega)
      by_cases h1 : M 8 n = 0 ∧ gm_trn M n < gm_trn M s
      · rw [if_pos h1, if_pos ⟨h1.1, by omega⟩]; omega
      · rw [if_neg h1]; omega
theorem gp_cnt_un (M : gm_M) (s : Nat) : ∀ n : Nat, gm_cnt M s n ≤ gp_un M n
  | 0 => Nat.le_refl _
  | n + 1 => by
    have ih := gp_cnt_un M s n
    rw [gp_cnt_succ]
    by_cases h8 : M 8 n = 0
    · rw [gp_un_yes h8]; split <;> omega
    · rw [gp_un_no h8, if_neg (fun q => h8 q.1)]; exact ih
theorem gp_cnt_lt {M : gm_M} {s : Nat} (h8 : M 8 s = 0) : ∀ n : Nat, s < n → gm_cnt M s n < gp_un M n
  | 0, hs => absurd hs (Nat.not_lt_zero _)
  | n + 1, hs => by
    rw [gp_cnt_succ]
    by_cases hn : s = n
    · subst hn
      have := gp_cnt_un M s s
      rw [gp_un_yes h8, if_neg (by omega)]; omega
    · have ih := gp_cnt_lt h8 n (by omega)
      by_cases h : M 8 n = 0
      · rw [gp_un_yes h]; split <;> omega
      · rw [gp_un_no h, if_neg (fun q => h q.1)]; exact ih
theorem gp_cnt_iff {M : gm_M} {s t n : Nat} (hs : s < n) (ht : t < n) (hn : n ≤ 16) (h8 : M 8 s = 0) (h9 : M 8 t = 0) : gm_cnt M s n < gm_cnt M t n ↔ gm_trn M s < gm_trn M t := by
  constructor
  · intro h
    rcases Nat.lt_trichotomy (gm_trn M s) (gm_trn M t) with q | q | q
    · exact q
    · have := gp_trn_inj (by omega) (by omega) q
      subst this; omega
    · have := gp_cnt_str q h9 n ht; omega
  · intro h; exact gp_cnt_str h h8 n hs
theorem gp_cnt_inj {M : gm_M} {s t n : Nat} (hs : s < n) (ht : t < n) (hn : n ≤ 16) (h8 : M 8 s = 0) (h9 : M 8 t = 0) (h : gm_cnt M s n = gm_cnt M t n) : s = t := by
  rcases Nat.lt_trichotomy (gm_trn M s) (gm_trn M t) with q | q | q
  · have := gp_cnt_str q h8 n hs; omega
  · exact gp_trn_inj (by omega) (by omega) q
  · have := gp_cnt_str q h9 n ht; omega
theorem gp_cnt_sur {M : gm_M} : ∀ n : Nat, n ≤ 16 → ∀ k, k < gp_un M n → ∃ s, s < n ∧ M 8 s = 0 ∧ gm_cnt M s n = k
  | 0, _, k, hk => absurd hk (Nat.not_lt_zero _)
  | n + 1, hn, k, hk => by
    by_cases h8 : M 8 n = 0
    · rw [gp_un_yes h8] at hk
      have hc := gp_cnt_un M n n
      have hself : gm_cnt M n (n + 1) = gm_cnt M n n := by rw [gp_cnt_succ, if_neg (by omega), Nat.add_zero]
      rcases Nat.lt_trichotomy k (gm_cnt M n n) with q | q | q
      · obtain ⟨s, h1, h2, h3⟩ := gp_cnt_sur (M := M) n (by omega) k (by omega)
        refine ⟨s, by omega, h2, ?_⟩
        have : ¬ gm_trn M n < gm_trn M s := fun g => by have := gp_cnt_mono (M := M) (Nat.le_of_lt g) n; omega
        rw [gp_cnt_succ, if_neg (fun g => this g.2)]; exact h3
      · exact ⟨n, Nat.lt_succ_self n, h8, by rw [hself]; exact q.symm⟩
      · obtain ⟨s, h1, h2, h3⟩ := gp_cnt_sur (M := M) n (by omega) (k - 1) (by omega)
        refine ⟨s, by omega, h2, ?_⟩
        have : gm_trn M n < gm_trn M s := by
          rcases Nat.lt_trichotomy (gm_trn M n) (gm_trn M s) with g | g | g
          · exact g
          · have := gp_trn_inj (by omega) (by omega) g; omega
          · have := gp_cnt_str g h2 n h1; omega
        rw [gp_cnt_succ, if_pos ⟨h8, this⟩, h3]; omega
    · rw [gp_un_no h8] at hk
      obtain ⟨s, h1, h2, h3⟩ := gp_cnt_sur n (by omega) k hk
      exact ⟨s, by omega, h2, by rw [gp_cnt_succ, if_neg (fun g => h8 g.1)]; exact h3⟩
/-- the row of those that are not ground, by the rule -/
def gp_ord (M : gm_M) (n : Nat) (o : Nat → Int32) : Prop := ∀ s, s < n → M 8 s = 0 → o (gm_cnt M s n) = nI s
