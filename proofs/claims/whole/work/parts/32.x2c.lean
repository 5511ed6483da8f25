theorem gr_now_cp {f f' : Nat → Int32} {M : gm_M} (h : gr_now f M) (h16 : M 11 0 ≤ 16) (e : ∀ j, j < 51 → f' j = f j) : gr_now f' M := by
  obtain ⟨a0, a1, a2, r5, r8, r7⟩ := h
  exact ⟨by rw [e 0 (by decide)]; exact a0, by rw [e 1 (by decide)]; exact a1, by rw [e 2 (by decide)]; exact a2, fun i hi => by rw [e (3 + i) (by omega)]; exact r5 i hi, fun i hi => by rw [e (19 + i) (by omega)]; exact r8 i hi, fun i hi => by rw [e (35 + i) (by omega)]; exact r7 i hi⟩
theorem gr_st_0 {F : Nat → Int32} {B : Nat → Nat → Int32} {M : gm_M} {v : Int32} (h : gr_st F B M) : gr_st (upd F 0 v) B M := h
def gm_rg (p : Int32) (lo hi : Nat) : Prop := ∃ v, lo ≤ v ∧ v < hi ∧ p = nI v
theorem gm_rg_of {p : Int32} {lo hi : Nat} (hhi : hi < 2 ^ 31) (h1 : ¬ p < nI lo) (h2 : ¬ nI hi ≤ p) (hlo : lo < 2 ^ 31) : gm_rg p lo hi := by
  have a1 : ¬ p.toInt < lo := by rw [Int32.lt_iff_toInt_lt, nI_toInt hlo] at h1; exact h1
  have a2 : ¬ (hi : Int) ≤ p.toInt := by rw [Int32.le_iff_toInt_le, nI_toInt hhi] at h2; exact h2
  obtain ⟨j, hj, e⟩ := nI_of (x := p) (by rw [Int32.lt_iff_toInt_lt, Int32.toInt_zero]; omega)
  subst e
  rw [nI_toInt hj] at a1 a2
  exact ⟨j, by omega, by omega, rfl⟩
theorem gm_rg_le {p : Int32} {lo hi : Nat} (hhi : hi < 2 ^ 31) (h1 : ¬ p < nI lo) (h2 : ¬ nI hi < p) (hlo : lo < 2 ^ 31) : gm_rg p lo (hi + 1) := by
  have a1 : ¬ p.toInt < lo := by rw [Int32.lt_iff_toInt_lt, nI_toInt hlo] at h1; exact h1
  have a2 : ¬ (hi : Int) < p.toInt := by rw [Int32.lt_iff_toInt_lt, nI_toInt hhi] at h2; exact h2
  obtain ⟨j, hj, e⟩ := nI_of (x := p) (by rw [Int32.lt_iff_toInt_lt, Int32.toInt_zero]; omega)
  subst e
  rw [nI_toInt hj] at a1 a2
  exact ⟨j, by omega, by omega, rfl⟩
theorem gm_in1 {v lo hi : Nat} (h1 : lo ≤ v) (h2 : v ≤ hi) (h3 : hi < 2 ^ 31) : nI lo ≤ nI v ∧ nI v ≤ nI hi := ⟨nI_le h1 (by omega), nI_le h2 h3⟩
theorem gm_in0 {p : Int32} {lo hi : Nat} (hb : ¬ gm_rg p lo (hi + 1)) (hlo : lo < 2 ^ 31) (hhi : hi < 2 ^ 31) : ¬ (nI lo ≤ p ∧ p ≤ nI hi) := fun q =>
  hb (gm_rg_le hhi (fun z => by have := q.1; rw [Int32.lt_iff_toInt_lt] at z; rw [Int32.le_iff_toInt_le] at this; omega) (fun z => by have := q.2; rw [Int32.lt_iff_toInt_lt] at z; rw [Int32.le_iff_toInt_le] at this; omega) hlo)
theorem gm_ine1 {v n : Nat} (h2 : v < n) (h3 : n < 2 ^ 31) : nI 0 ≤ nI v ∧ nI v ≤ gm_e n := ⟨nI_le (Nat.zero_le _) (by omega), by rw [gm_e_pred (by omega)]; exact nI_le (by omega) (by omega)⟩
theorem gm_ine0 {p : Int32} {n : Nat} (hb : ¬ gm_rg p 0 n) (h3 : n < 2 ^ 31) : ¬ (nI 0 ≤ p ∧ p ≤ gm_e n) := fun q => by
  have q1 := q.1
  have q2 := q.2
  rw [Int32.le_iff_toInt_le, nI_toInt (by decide)] at q1
  rw [Int32.le_iff_toInt_le, gm_e_toInt h3] at q2
  obtain ⟨j, hj, e⟩ := nI_of (x := p) (by rw [Int32.lt_iff_toInt_lt, Int32.toInt_zero]; omega)
  subst e
  rw [nI_toInt hj] at q2
  exact hb ⟨j, Nat.zero_le _, by omega, rfl⟩
theorem gm_e_sub (n : Nat) : nI n - nI 1 = gm_e n := by
  show nI n - 1 = nI n + (-1)
  rw [Int32.sub_eq_add_neg]
theorem gm_cpy51 {f g : Nat → Int32} {j : Nat} (h : j < 51) : va_cpy f g 0 0 51 j = f j := sb_cpy0 h
def gm_ru (M : gm_M) (r o : Nat) : gm_M := gm_set (gm_set M 14 0 r) 15 0 o
def gm_lw (M : gm_M) (r o : Nat) : Nat := gm_late (gm_hrs (gm_ru M r o) 200) 200 (M 11 0)
theorem gm_ru_ne (M : gm_M) (r o i : Nat) {k : Nat} (h4 : k ≠ 14) (h5 : k ≠ 15) : gm_ru M r o k i = M k i := by
  unfold gm_ru; rw [gm_set_k _ _ h5, gm_set_k _ _ h4]
theorem gm_ru_wf {M : gm_M} {r o : Nat} (wf : gm_wf M) (hr : r ≤ 2) (ho : o ≤ 1) : gm_wf (gm_ru M r o) := by
  obtain ⟨w1, w2, w3, w4, w5, w6, w7, w8⟩ := wf
  have e : ∀ k i, k ≠ 14 → k ≠ 15 → gm_ru M r o k i = M k i := fun k i h1 h2 => gm_ru_ne M r o i h1 h2
  have e11 : gm_ru M r o 11 0 = M 11 0 := e 11 0 (by decide) (by decide)
  have e10 : gm_ru M r o 10 0 = M 10 0 := e 10 0 (by decide) (by decide)
  refine ⟨by rw [e10]; exact w1, by rw [e11]; exact w2, ?_, ?_, fun i hi => ?_, fun i hi => ?_, fun i hi => ?_, fun i j hi hj => ?_⟩
  · unfold gm_ru; rw [gm_set_k _ _ (by decide), gm_set_at]; exact hr
  · unfold gm_ru; rw [gm_set_at]; exact ho
  · rw [e 0 i (by decide) (by decide)]; exact w5 i hi
  · rw [e10] at hi; rw [e 1 i (by decide) (by decide)]; exact w6 i hi
  · rw [e11] at hi
    rw [e 4 i (by decide) (by decide), e 5 i (by decide) (by decide), e 6 i (by decide) (by decide), e 7 i (by decide) (by decide), e 8 i (by decide) (by decide), e10, e 9 0 (by decide) (by decide)]
    exact w7 i hi
  · rw [e11] at hi hj
    rw [e 7 i (by decide) (by decide), e 7 j (by decide) (by decide)]
    exact w8 i j hi hj
theorem gm_ru_rest {M : gm_M} {r o : Nat} (h : gm_rest M) : gm_rest (gm_ru M r o) := by
  intro i hi
  rw [gm_ru_ne _ _ _ _ (by decide) (by decide)] at hi
  rw [gm_ru_ne _ _ _ _ (by decide) (by decide), gm_ru_ne _ _ _ _ (by decide) (by decide)]
  exact h i hi
theorem gm_late_le {M : gm_M} {o c : Nat} : ∀ n : Nat, (∀ i, i < n → M 8 i ≤ c) → gm_late M o n ≤ n * (o + c)
  | 0, _ => by show 0 ≤ _; exact Nat.zero_le _
  | n + 1, h => by
    have ih := gm_late_le (M := M) (o := o) (c := c) n (fun i hi => h i (Nat.lt_succ_of_lt hi))
    have hn := h n (Nat.lt_succ_self n)
    show gm_late M o n + (if M 8 n = 0 then o else M 8 n - 1 - M 6 n) ≤ _
    rw [Nat.add_mul, Nat.one_mul]
    split <;> omega
theorem gm_late_lt {M : gm_M} {o : Nat} (wf : gm_wf M) (ho : o ≤ 200) (hh : M 9 0 < 2000000) : gm_late M o (M 11 0) < 2 ^ 30 := by
  have h := gm_late_le (M := M) (o := o) (c := 2000000) (M 11 0) (fun i hi => by have := (wf.2.2.2.2.2.2.1 i hi).2.2.2.2.2.2; omega)
  have h16 := wf.2.1
  have : M 11 0 * (o + 2000000) ≤ 16 * (o + 2000000) := Nat.mul_le_mul_right _ h16
  omega
theorem gm_lw_lt {M : gm_M} {r o : Nat} (wf : gm_wf M) (hr : r ≤ 2) (ho : o ≤ 1) (hh : M 9 0 < 1999000) : gm_lw M r o < 2 ^ 30 := by
  have e11 : gm_hrs (gm_ru M r o) 200 11 0 = M 11 0 := (gm_hrs_ne _ 0 (by decide) (by decide) (by decide) (by decide) (by decide) (by decide) (by decide) 200).trans (gm_ru_ne M r o 0 (by decide) (by decide))
  have h := gm_late_lt (o := 200) (gm_hrs_wf (gm_ru_wf wf hr ho) 200) (Nat.le_refl _) (by rw [gm_hrs_9, gm_ru_ne M r o 0 (by decide) (by decide)]; omega)
  rw [e11] at h
  exact h
/-- the best rule among the first k + 1, and its loss -/
def gm_bst (M : gm_M) : Nat → Nat × Nat
  | 0 => (0, gm_lw M 0 (M 15 0))
  | k + 1 => if gm_lw M (k + 1) (M 15 0) < (gm_bst M k).2 then (k + 1, gm_lw M (k + 1) (M 15 0)) else gm_bst M k
theorem gm_bst_lt {M : gm_M} (wf : gm_wf M) (hh : M 9 0 < 1999000) : ∀ k : Nat, k ≤ 2 → (gm_bst M k).2 < 2 ^ 30 ∧ (gm_bst M k).1 ≤ k
  | 0, _ => ⟨gm_lw_lt wf (by decide) wf.2.2.2.1 hh, Nat.le_refl 0⟩
  | k + 1, hk => by
    have ih := gm_bst_lt wf hh k (by omega)
    have hu : gm_bst M (k + 1) = if gm_lw M (k + 1) (M 15 0) < (gm_bst M k).2 then (k + 1, gm_lw M (k + 1) (M 15 0)) else gm_bst M k := rfl
    rw [hu]
    split
    · exact ⟨gm_lw_lt wf hk wf.2.2.2.1 hh, Nat.le_refl _⟩
    · exact ⟨ih.1, by omega⟩

set_option maxRecDepth 100000 in
set_option maxHeartbeats 1000000 in
theorem c2_hoursOn (l : Launch) (D : va_G) (cI cZ cJ : ClassId) (h : Nat) (q : Nat → Nat) (F : Nat → Int32) (B : Nat → Nat → Int32) (f kp g : Nat → Int32) (M : gm_M) (n0 : Nat) (wf : gm_wf M) (hs : gr_st F B M) (hn : gr_now f M) (hrest : gm_rest M) (hh : M 9 0 + n0 < 1999999) : gk_V l yX2_hoursOn wsX2_hoursOn ({ frames := 3, cells := 0, slots := 0, locals := 68 } : Room) D (g_T cI cZ cJ) gk_E0 [.ref h, .int (nI n0)] (gd_W cI h q F B f kp g) 0 0 (fun (u : (Nat → Int32) × (Nat → Int32)) => gr_now u.1 (gm_hrs M n0)) (fun u => (gd_W cI h q F B u.1 kp u.2)) := by
  refine gk_V_of (cc := cX2_hoursOn) (nL := 3) (by decide +kernel) rfl (Nat.le_of_ble_eq_true rfl) ?_
  intro p e s m below meth c A Q hnm hE G RET
  obtain ⟨hz1, hz2, hz3, hz4, hz5, hz6, hz7, hz8⟩ := id wf
  have L2 : ∀ (n : Nat) (k : Nat) (f1 : Nat → Int32) (g1 : Nat → Int32), n0 - k < n → (k ≤ n0) → (gr_now f1 (gm_hrs M k)) → gk_C p l e ({ frames := 3, cells := 0, slots := 0, locals := 68 } : Room) s m ([.ref h, .int (nI n0)] : List Value).toArray below meth c 3 D A Q 0 0 (gd_W cI h q F B f1 kp g1) [(0, .ref h), (1, .int (nI n0)), (2, .int (nI k))] 2 [] := by
    intro n
    induction n with
    | zero => intro k f1 g1 h0; exact absurd h0 (Nat.not_lt_zero _)
    | succ n ih =>
      intro k f1 g1 h0 w0 w1
      have wfX := gm_hrs_wf wf k
      have rest1 := gm_hrs_rest wf hrest k
      have x9 := gm_hrs_9 M k
      have hsX : gr_st F B (gm_hrs M k) := gr_st_eq hs (fun k0 i h3 h5 h7 h8 h9 h13 h16 => gm_hrs_ne M i h3 h7 h13 h5 h16 h8 h9 k)
      refine gk_iload_n G dX2_hoursOn_2 2 rfl ?_
      refine gk_iload_n G dX2_hoursOn_3 1 rfl ?_
      refine gk_icmp_ge (tgt := 17) G dX2_hoursOn_4 (by decide) (fun c_4 => ?_) (fun c_4 => ?_)
      · replace c_4 := (nI_leI (a := n0) (b := k) (by omega) (by omega)).mp c_4
        exact RET _ _ _ _ _ (f1, g1) dX2_hoursOn_17 (by rw [show n0 = k by omega]; exact w1) rfl (Nat.le_of_ble_eq_true rfl) (Nat.le_of_ble_eq_true rfl)
      · replace c_4 := (not_congr (nI_leI (a := n0) (b := k) (by omega) (by omega))).mp c_4
        refine gk_aload_n G dX2_hoursOn_7 0 rfl ?_
        refine gk_callVV (wr := []) G (c2_hourOn l D cI cZ cJ h q F B f1 kp g1 (gm_hrs M k) wfX hsX w1 rest1 (by omega)) gX2_hoursOn_X2_hourOn rfl 0 (by decide +kernel) rfl rfl ⟨(Nat.le_of_ble_eq_true rfl), (Nat.le_of_ble_eq_true rfl)⟩ rfl (q0 := 0) rfl (T := TX2) (N := 12) rfl gk_ok0 trivial [0, 1, 2, 3, 4, 5, 6, 7] rfl (by decide) [] rfl (by decide) (by decide) rfl (Nat.le_of_ble_eq_true rfl) dX2_hoursOn_8 ⟨(Nat.le_of_ble_eq_true rfl), (Nat.le_of_ble_eq_true rfl)⟩ (fun u8 hp8 => ?_)
        obtain ⟨f8, g8⟩ := u8
        have hn8 : gr_now f8 (gm_hour (gm_hrs M k)) := hp8
        show gk_C p l e ({ frames := 3, cells := 0, slots := 0, locals := 68 } : Room) s m ([.ref h, .int (nI n0)] : List Value).toArray below meth c 3 D A Q 0 0 (gd_W cI h q F B f8 kp g8) [(0, .ref h), (1, .int (nI n0)), (2, .int (nI k))] 11 []
        refine gk_iinc (j := 2) (v := nI (k + 1)) (lv' := [(2, .int (nI (k + 1))), (0, .ref h), (1, .int (nI n0))]) G dX2_hoursOn_11 rfl (nI_add k 1) (by decide) rfl ?_
        refine gk_goto (tgt := 2) G dX2_hoursOn_14 (by decide) ?_
        exact gk_lsub [1,2,0] rfl (ih (k + 1) _ _ (by omega) (by omega) hn8)
  refine gk_iconst (v := nI 0) G dX2_hoursOn_0 (by decide) ?_
  refine gk_istore_n (lv' := [(2, .int (nI 0)), (0, .ref h), (1, .int (nI n0))]) G dX2_hoursOn_1 rfl (by decide) rfl ?_
  exact gk_lsub [1,2,0] rfl (L2 (n0 + 1) 0 f g (by omega) (by omega) hn)
set_option maxRecDepth 100000 in
set_option maxHeartbeats 1000000 in
theorem c2_keep (l : Launch) (D : va_G) (cI cZ cJ : ClassId) (h : Nat) (q : Nat → Nat) (F : Nat → Int32) (B : Nat → Nat → Int32) (f kp g : Nat → Int32) (M : gm_M)  : gk_V l yX2_keep wsX2_keep ({ frames := 1, cells := 0, slots := 0, locals := 26 } : Room) D (g_T cI cZ cJ) gk_E0 [.ref h] (gd_W cI h q F B f kp g) 0 0 (fun (u : Unit) => True) (fun u => (gd_W cI h q F B f (va_cpy f kp 0 0 51) g)) := by
  refine gk_V_of (cc := cX2_keep) (nL := 1) (by decide +kernel) rfl (Nat.le_of_ble_eq_true rfl) ?_
  intro p e s m below meth c A Q hnm hE G RET
  have hinX2 : ∀ w ∈ wsX20, w ∈ wsX2_keep := fun w h9 => (List.mem_cons_of_mem _ (List.mem_append_right _ h9))
  have k22 := G.2.2.2.2.1 (.fieldLink RX2 22 "GustMillModel" "now" "[I") (List.mem_cons_of_mem _ (List.mem_append_left _ (List.mem_of_getElem? (i := 0) rfl)))
  have k25 := G.2.2.2.2.1 (.fieldLink RX2 25 "GustMillModel" "kept" "[I") (List.mem_cons_of_mem _ (List.mem_append_left _ (List.mem_of_getElem? (i := 1) rfl)))
  refine gk_aload_n G dX2_keep_0 0 rfl ?_
  refine gk_get (v' := .ref (q 9)) G hinX2 (q0 := 0) rfl rfl 9 (by decide) k22 rfl rfl dX2_keep_1 ?_
  refine gk_iconst (v := nI 0) G dX2_keep_4 (by decide) ?_
  refine gk_aload_n G dX2_keep_5 0 rfl ?_
  refine gk_get (v' := .ref (q 10)) G hinX2 (q0 := 0) rfl rfl 10 (by decide) k25 rfl rfl dX2_keep_6 ?_
  refine gk_iconst (v := nI 0) G dX2_keep_9 (by decide) ?_
  refine gk_bipush (v := nI 51) G dX2_keep_10 (by decide) ?_
  refine gk_acopy (w' := (gd_W cI h q F B f (va_cpy f kp 0 0 51) g)) G (G.2.2.2.2.1 (.methodLink RX2 45 arraycopyName) (List.mem_cons_of_mem _ (List.mem_append_left _ (List.mem_of_getElem? (i := 2) rfl)))) (G.2.2.2.2.1 (.native arraycopyName) (List.mem_cons_of_mem _ (List.mem_append_left _ (List.mem_of_getElem? (i := 3) rfl)))) (G.2.2.2.2.1 (.static arraycopyName) (List.mem_cons_of_mem _ (List.mem_append_left _ (List.mem_of_getElem? (i := 4) rfl)))) (G.2.2.2.2.1 (.initialized "java/lang/System") (List.mem_cons_of_mem _ (List.mem_append_left _ (List.mem_of_getElem? (i := 5) rfl)))) (q0 := 5) (q1 := 6) (t0 := 0) rfl rfl rfl 51 (Nat.le_of_ble_eq_true rfl) (Nat.le_of_ble_eq_true rfl) (Nat.le_of_ble_eq_true rfl) (Nat.le_of_ble_eq_true rfl) (by decide) rfl dX2_keep_12 ?_
  exact RET _ _ _ _ _ () dX2_keep_15 trivial rfl (Nat.le_of_ble_eq_true rfl) (Nat.le_of_ble_eq_true rfl)
set_option maxRecDepth 100000 in
set_option maxHeartbeats 1000000 in
theorem c2_bringBack (l : Launch) (D : va_G) (cI cZ cJ : ClassId) (h : Nat) (q : Nat → Nat) (F : Nat → Int32) (B : Nat → Nat → Int32) (f kp g : Nat → Int32) (M : gm_M)  : gk_V l yX2_bringBack wsX2_bringBack ({ frames := 1, cells := 0, slots := 0, locals := 26 } : Room) D (g_T cI cZ cJ) gk_E0 [.ref h] (gd_W cI h q F B f kp g) 0 0 (fun (u : Unit) => True) (fun u => (gd_W cI h q F B (va_cpy kp f 0 0 51) kp g)) := by
  refine gk_V_of (cc := cX2_bringBack) (nL := 1) (by decide +kernel) rfl (Nat.le_of_ble_eq_true rfl) ?_
  intro p e s m below meth c A Q hnm hE G RET
  have hinX2 : ∀ w ∈ wsX20, w ∈ wsX2_bringBack := fun w h9 => (List.mem_cons_of_mem _ (List.mem_append_right _ h9))
  have k22 := G.2.2.2.2.1 (.fieldLink RX2 22 "GustMillModel" "now" "[I") (List.mem_cons_of_mem _ (List.mem_append_left _ (List.mem_of_getElem? (i := 1) rfl)))
  have k25 := G.2.2.2.2.1 (.fieldLink RX2 25 "GustMillModel" "kept" "[I") (List.mem_cons_of_mem _ (List.mem_append_left _ (List.mem_of_getElem? (i := 0) rfl)))
  refine gk_aload_n G dX2_bringBack_0 0 rfl ?_
  refine gk_get (v' := .ref (q 10)) G hinX2 (q0 := 0) rfl rfl 10 (by decide) k25 rfl rfl dX2_bringBack_1 ?_
  refine gk_iconst (v := nI 0) G dX2_bringBack_4 (by decide) ?_
  refine gk_aload_n G dX2_bringBack_5 0 rfl ?_
  refine gk_get (v' := .ref (q 9)) G hinX2 (q0 := 0) rfl rfl 9 (by decide) k22 rfl rfl dX2_bringBack_6 ?_
  refine gk_iconst (v := nI 0) G dX2_bringBack_9 (by decide) ?_
  refine gk_bipush (v := nI 51) G dX2_bringBack_10 (by decide) ?_
  refine gk_acopy (w' := (gd_W cI h q F B (va_cpy kp f 0 0 51) kp g)) G (G.2.2.2.2.1 (.methodLink RX2 45 arraycopyName) (List.mem_cons_of_mem _ (List.mem_append_left _ (List.mem_of_getElem? (i := 2) rfl)))) (G.2.2.2.2.1 (.native arraycopyName) (List.mem_cons_of_mem _ (List.mem_append_left _ (List.mem_of_getElem? (i := 3) rfl)))) (G.2.2.2.2.1 (.static arraycopyName) (List.mem_cons_of_mem _ (List.mem_append_left _ (List.mem_of_getElem? (i := 4) rfl)))) (G.2.2.2.2.1 (.initialized "java/lang/System") (List.mem_cons_of_mem _ (List.mem_append_left _ (List.mem_of_getElem? (i := 5) rfl)))) (q0 := 6) (q1 := 5) (t0 := 0) rfl rfl rfl 51 (Nat.le_of_ble_eq_true rfl) (Nat.le_of_ble_eq_true rfl) (Nat.le_of_ble_eq_true rfl) (Nat.le_of_ble_eq_true rfl) (by decide) rfl dX2_bringBack_12 ?_
  exact RET _ _ _ _ _ () dX2_bringBack_15 trivial rfl (Nat.le_of_ble_eq_true rfl) (Nat.le_of_ble_eq_true rfl)
set_option maxRecDepth 100000 in
set_option maxHeartbeats 1000000 in
theorem c2_fail (l : Launch) (D : va_G) (cI cZ cJ : ClassId) (h : Nat) (q : Nat → Nat) (F : Nat → Int32) (B : Nat → Nat → Int32) (f kp g : Nat → Int32) (M : gm_M) (pv : Int32) : gk_I l yX2_fail wsX2_fail ({ frames := 0, cells := 0, slots := 0, locals := 0 } : Room) D (g_T cI cZ cJ) gk_E0 [.ref h, .int pv] (gd_W cI h q F B f kp g) 0 0 (fun (r : Int32) (u : Nat → Int32) => r = nI 0 ∧ u = upd F 0 pv) (fun u => (gd_W cI h q u B f kp g)) := by
  refine gk_I_of (ty := .int) (cc := cX2_fail) (nL := 2) (by decide +kernel) rfl (Nat.le_of_ble_eq_true rfl) ?_
  intro p e s m below meth c A Q hnm hE G RET
  have hinX2 : ∀ w ∈ wsX20, w ∈ wsX2_fail := fun w h9 => (List.mem_cons_of_mem _ (List.mem_append_right _ h9))
  have k31 := G.2.2.2.2.1 (.fieldLink RX2 31 "GustMillModel" "thrown" "I") (List.mem_cons_of_mem _ (List.mem_append_left _ (List.mem_of_getElem? (i := 0) rfl)))
  refine gk_aload_n G dX2_fail_0 0 rfl ?_
  refine gk_iload_n G dX2_fail_1 1 rfl ?_
  refine gk_topi (fun v2 ev2 => ?_)
  refine gk_put (w' := (gd_W cI h q (upd F 0 v2) B f kp g)) G hinX2 tyX2_ok nmX2 (q0 := 0) rfl rfl 0 (by decide) k31 rfl rfl rfl (Nat.le_of_ble_eq_true rfl) rfl dX2_fail_2 ?_
  generalize eF2 : upd F 0 v2 = F2
  refine gk_iconst (v := nI 0) G dX2_fail_5 (by decide) ?_
  exact RET _ _ _ _ _ _ F2 dX2_fail_6 rfl ⟨rfl, by rw [← eF2, ev2]⟩ rfl (Nat.le_of_ble_eq_true rfl) (Nat.le_of_ble_eq_true rfl)
set_option maxRecDepth 100000 in
set_option maxHeartbeats 1000000 in
theorem c2_told (l : Launch) (D : va_G) (cI cZ cJ : ClassId) (h : Nat) (q : Nat → Nat) (F : Nat → Int32) (B : Nat → Nat → Int32) (f kp g : Nat → Int32) (M : gm_M) (pv : Int32) : gk_I l yX2_told wsX2_told ({ frames := 0, cells := 0, slots := 0, locals := 0 } : Room) D (g_T cI cZ cJ) gk_E0 [.ref h, .int pv] (gd_W cI h q F B f kp g) 0 0 (fun (r : Int32) (u : Nat → Int32) => r = pv ∧ u = upd F 0 (nI 0)) (fun u => (gd_W cI h q u B f kp g)) := by
  refine gk_I_of (ty := .int) (cc := cX2_told) (nL := 2) (by decide +kernel) rfl (Nat.le_of_ble_eq_true rfl) ?_
  intro p e s m below meth c A Q hnm hE G RET
  have hinX2 : ∀ w ∈ wsX20, w ∈ wsX2_told := fun w h9 => (List.mem_cons_of_mem _ (List.mem_append_right _ h9))
  have k31 := G.2.2.2.2.1 (.fieldLink RX2 31 "GustMillModel" "thrown" "I") (List.mem_cons_of_mem _ (List.mem_append_left _ (List.mem_of_getElem? (i := 0) rfl)))
  refine gk_aload_n G dX2_told_0 0 rfl ?_
  refine gk_iconst (v := nI 0) G dX2_told_1 (by decide) ?_
  refine gk_topi (fun v2 ev2 => ?_)
  refine gk_put (w' := (gd_W cI h q (upd F 0 v2) B f kp g)) G hinX2 tyX2_ok nmX2 (q0 := 0) rfl rfl 0 (by decide) k31 rfl rfl rfl (Nat.le_of_ble_eq_true rfl) rfl dX2_told_2 ?_
  generalize eF2 : upd F 0 v2 = F2
  refine gk_iload_n G dX2_told_5 1 rfl ?_
  exact RET _ _ _ _ _ _ F2 dX2_told_6 rfl ⟨rfl, by rw [← eF2, ev2]⟩ rfl (Nat.le_of_ble_eq_true rfl) (Nat.le_of_ble_eq_true rfl)
set_option maxRecDepth 100000 in
set_option maxHeartbeats 1000000 in
theorem c2_thrown (l : Launch) (D : va_G) (cI cZ cJ : ClassId) (h : Nat) (q : Nat → Nat) (F : Nat → Int32) (B : Nat → Nat → Int32) (f kp g : Nat → Int32) (M : gm_M)  : gk_I l yX2_thrown wsX2_thrown ({ frames := 0, cells := 0, slots := 0, locals := 0 } : Room) D (g_T cI cZ cJ) gk_E0 [.ref h] (gd_W cI h q F B f kp g) 0 0 (fun (r : Int32) (u : Unit) => r = F 0) (fun u => (gd_W cI h q F B f kp g)) := by
  refine gk_I_of (ty := .int) (cc := cX2_thrown) (nL := 1) (by decide +kernel) rfl (Nat.le_of_ble_eq_true rfl) ?_
  intro p e s m below meth c A Q hnm hE G RET
  have hinX2 : ∀ w ∈ wsX20, w ∈ wsX2_thrown := fun w h9 => (List.mem_cons_of_mem _ (List.mem_append_right _ h9))
  have k31 := G.2.2.2.2.1 (.fieldLink RX2 31 "GustMillModel" "thrown" "I") (List.mem_cons_of_mem _ (List.mem_append_left _ (List.mem_of_getElem? (i := 0) rfl)))
  refine gk_aload_n G dX2_thrown_0 0 rfl ?_
  refine gk_get (v' := .int (F 0)) G hinX2 (q0 := 0) rfl rfl 0 (by decide) k31 rfl rfl dX2_thrown_1 ?_
  exact RET _ _ _ _ _ _ () dX2_thrown_4 rfl rfl rfl (Nat.le_of_ble_eq_true rfl) (Nat.le_of_ble_eq_true rfl)
theorem gm_nlt {a b : Int32} (h : ¬ a < b) : b ≤ a := by
  rw [Int32.lt_iff_toInt_lt] at h; rw [Int32.le_iff_toInt_le]; omega
theorem gm_nle {a b : Int32} (h : a < b) : ¬ b ≤ a := by
  rw [Int32.lt_iff_toInt_lt] at h; rw [Int32.le_iff_toInt_le]; omega
set_option maxRecDepth 100000 in
set_option maxHeartbeats 1000000 in
theorem c2_isIn (l : Launch) (D : va_G) (cI cZ cJ : ClassId) (va vb vc : Int32) : gk_I l yX2_isIn wsX2_isIn ({ frames := 0, cells := 0, slots := 0, locals := 0 } : Room) D (g_T cI cZ cJ) gk_E0 [.int va, .int vb, .int vc] ([] : va_W) 0 0 (fun (r : Int32) (u : Unit) => r = gm_b (vb ≤ va ∧ va ≤ vc)) (fun u => ([] : va_W)) := by
  refine gk_I_of (ty := .boolean) (cc := cX2_isIn) (nL := 3) (by decide +kernel) rfl (Nat.le_of_ble_eq_true rfl) ?_
  intro p e s m below meth c A Q hnm hE G RET
  refine gk_iload_n G dX2_isIn_0 0 rfl ?_
  refine gk_iload_n G dX2_isIn_1 1 rfl ?_
  refine gk_icmp_lt (tgt := 14) G dX2_isIn_2 (by decide) (fun c_2 => ?_) (fun c_2 => ?_)
  · refine gk_iconst (v := nI 0) G dX2_isIn_14 (by decide) ?_
    exact RET _ _ _ _ _ _ () dX2_isIn_15 rfl (by first | exact (gm_b1 ⟨gm_nlt c_2, gm_nlt c_7⟩).symm | exact (gm_b0 (fun q => gm_nle c_2 q.1)).symm | exact (gm_b0 (fun q => gm_nle c_7 q.2)).symm) rfl (Nat.le_of_ble_eq_true rfl) (Nat.le_of_ble_eq_true rfl)
  · refine gk_iload_n G dX2_isIn_5 0 rfl ?_
    refine gk_iload_n G dX2_isIn_6 2 rfl ?_
    refine gk_icmp_gt (tgt := 14) G dX2_isIn_7 (by decide) (fun c_7 => ?_) (fun c_7 => ?_)
    · refine gk_iconst (v := nI 0) G dX2_isIn_14 (by decide) ?_
      exact RET _ _ _ _ _ _ () dX2_isIn_15 rfl (by first | exact (gm_b1 ⟨gm_nlt c_2, gm_nlt c_7⟩).symm | exact (gm_b0 (fun q => gm_nle c_2 q.1)).symm | exact (gm_b0 (fun q => gm_nle c_7 q.2)).symm) rfl (Nat.le_of_ble_eq_true rfl) (Nat.le_of_ble_eq_true rfl)
    · refine gk_iconst (v := nI 1) G dX2_isIn_10 (by decide) ?_
      refine gk_goto (tgt := 15) G dX2_isIn_11 (by decide) ?_
      exact RET _ _ _ _ _ _ () dX2_isIn_15 rfl (by first | exact (gm_b1 ⟨gm_nlt c_2, gm_nlt c_7⟩).symm | exact (gm_b0 (fun q => gm_nle c_2 q.1)).symm | exact (gm_b0 (fun q => gm_nle c_7 q.2)).symm) rfl (Nat.le_of_ble_eq_true rfl) (Nat.le_of_ble_eq_true rfl)
set_option maxRecDepth 100000 in
set_option maxHeartbeats 1000000 in
theorem c2_isStone_ok (l : Launch) (D : va_G) (cI cZ cJ : ClassId) (h : Nat) (q : Nat → Nat) (F : Nat → Int32) (B : Nat → Nat → Int32) (f kp g : Nat → Int32) (M : gm_M) (j : Nat) (wf : gm_wf M) (hs : gr_st F B M) (hj : j < M 10 0) : gk_I l yX2_isStone wsX2_isStone ({ frames := 1, cells := 0, slots := 0, locals := 22 } : Room) D (g_T cI cZ cJ) gk_E0 [.ref h, .int (nI j)] (gd_W cI h q F B f kp g) 0 0 (fun (r : Int32) (u : Unit) => r = nI 1) (fun u => (gd_W cI h q F B f kp g)) := by
  refine gk_I_of (ty := .boolean) (cc := cX2_isStone) (nL := 2) (by decide +kernel) rfl (Nat.le_of_ble_eq_true rfl) ?_
  intro p e s m below meth c A Q hnm hE G RET
  obtain ⟨hz1, hz2, hz3, hz4, hz5, hz6, hz7, hz8⟩ := id wf
  have hinX2 : ∀ w ∈ wsX20, w ∈ wsX2_isStone := fun w h9 => (List.mem_cons_of_mem _ (List.mem_append_right _ h9))
  have k35 := G.2.2.2.2.1 (.fieldLink RX2 35 "GustMillModel" "stones" "I") (List.mem_cons_of_mem _ (List.mem_append_left _ (List.mem_of_getElem? (i := 0) rfl)))
  refine gk_iload_n G dX2_isStone_0 1 rfl ?_
  refine gk_iconst (v := nI 0) G dX2_isStone_1 (by decide) ?_
  refine gk_aload_n G dX2_isStone_2 0 rfl ?_
  refine gk_get (v' := .int (nI (M 10 0))) G hinX2 (q0 := 0) rfl rfl 1 (by decide) k35 rfl (congrArg Value.int (hs.1)) dX2_isStone_3 ?_
  refine gk_iconst (v := nI 1) G dX2_isStone_6 (by decide) ?_
  refine gk_isub (v := gm_e (M 10 0)) G dX2_isStone_7 (gm_e_sub _) ?_
  refine gk_callIS (wc := []) (wr := (gd_W cI h q F B f kp g)) (isC := []) (isR := [0, 1, 2, 3, 4, 5, 6, 7]) G (c2_isIn l D cI cZ cJ (nI j) (nI 0) (gm_e (M 10 0))) gX2_isStone_X2_isIn rfl 3 (by decide +kernel) rfl rfl ⟨(Nat.le_of_ble_eq_true rfl), (Nat.le_of_ble_eq_true rfl)⟩ rfl gk_ok0 trivial rfl (by decide) rfl (by decide) (by decide) rfl (Nat.le_of_ble_eq_true rfl) dX2_isStone_8 ⟨(Nat.le_of_ble_eq_true rfl), (Nat.le_of_ble_eq_true rfl)⟩ (fun r8 u8 hp8 => ?_)
  obtain rfl : r8 = nI 1 := (hp8.trans (gm_b1 (gm_ine1 hj (by omega))))
  show gk_C p l e ({ frames := 1, cells := 0, slots := 0, locals := 22 } : Room) s m ([.ref h, .int (nI j)] : List Value).toArray below meth c 2 D A Q 0 0 (gd_W cI h q F B f kp g) [(0, .ref h), (1, .int (nI j))] 11 [.int (nI 1)]
  exact RET _ _ _ _ _ _ () dX2_isStone_11 rfl rfl rfl (Nat.le_of_ble_eq_true rfl) (Nat.le_of_ble_eq_true rfl)
set_option maxRecDepth 100000 in
set_option maxHeartbeats 1000000 in
theorem c2_isStone_no (l : Launch) (D : va_G) (cI cZ cJ : ClassId) (h : Nat) (q : Nat → Nat) (F : Nat → Int32) (B : Nat → Nat → Int32) (f kp g : Nat → Int32) (M : gm_M) (p0 : Int32) (wf : gm_wf M) (hs : gr_st F B M) (hb : ¬ gm_rg p0 0 (M 10 0)) : gk_I l yX2_isStone wsX2_isStone ({ frames := 1, cells := 0, slots := 0, locals := 22 } : Room) D (g_T cI cZ cJ) gk_E0 [.ref h, .int p0] (gd_W cI h q F B f kp g) 0 0 (fun (r : Int32) (u : Unit) => r = nI 0) (fun u => (gd_W cI h q F B f kp g)) := by
  refine gk_I_of (ty := .boolean) (cc := cX2_isStone) (nL := 2) (by decide +kernel) rfl (Nat.le_of_ble_eq_true rfl) ?_
  intro p e s m below meth c A Q hnm hE G RET
  obtain ⟨hz1, hz2, hz3, hz4, hz5, hz6, hz7, hz8⟩ := id wf
  have hinX2 : ∀ w ∈ wsX20, w ∈ wsX2_isStone := fun w h9 => (List.mem_cons_of_mem _ (List.mem_append_right _ h9))
  have k35 := G.2.2.2.2.1 (.fieldLink RX2 35 "GustMillModel" "stones" "I") (List.mem_cons_of_mem _ (List.mem_append_left _ (List.mem_of_getElem? (i := 0) rfl)))
  refine gk_iload_n G dX2_isStone_0 1 rfl ?_
  refine gk_iconst (v := nI 0) G dX2_isStone_1 (by decide) ?_
  refine gk_aload_n G dX2_isStone_2 0 rfl ?_
  refine gk_get (v' := .int (nI (M 10 0))) G hinX2 (q0 := 0) rfl rfl 1 (by decide) k35 rfl (congrArg Value.int (hs.1)) dX2_isStone_3 ?_
  refine gk_iconst (v := nI 1) G dX2_isStone_6 (by decide) ?_
  refine gk_isub (v := gm_e (M 10 0)) G dX2_isStone_7 (gm_e_sub _) ?_
  refine gk_callIS (wc := []) (wr := (gd_W cI h q F B f kp g)) (isC := []) (isR := [0, 1, 2, 3, 4, 5, 6, 7]) G (c2_isIn l D cI cZ cJ p0 (nI 0) (gm_e (M 10 0))) gX2_isStone_X2_isIn rfl 3 (by decide +kernel) rfl rfl ⟨(Nat.le_of_ble_eq_true rfl), (Nat.le_of_ble_eq_true rfl)⟩ rfl gk_ok0 trivial rfl (by decide) rfl (by decide) (by decide) rfl (Nat.le_of_ble_eq_true rfl) dX2_isStone_8 ⟨(Nat.le_of_ble_eq_true rfl), (Nat.le_of_ble_eq_true rfl)⟩ (fun r8 u8 hp8 => ?_)
  obtain rfl : r8 = nI 0 := (hp8.trans (gm_b0 (gm_ine0 hb (by omega))))
  show gk_C p l e ({ frames := 1, cells := 0, slots := 0, locals := 22 } : Room) s m ([.ref h, .int p0] : List Value).toArray below meth c 2 D A Q 0 0 (gd_W cI h q F B f kp g) [(0, .ref h), (1, .int p0)] 11 [.int (nI 0)]
  exact RET _ _ _ _ _ _ () dX2_isStone_11 rfl rfl rfl (Nat.le_of_ble_eq_true rfl) (Nat.le_of_ble_eq_true rfl)
set_option maxRecDepth 100000 in
set_option maxHeartbeats 1000000 in
theorem c2_isSack_ok (l : Launch) (D : va_G) (cI cZ cJ : ClassId) (h : Nat) (q : Nat → Nat) (F : Nat → Int32) (B : Nat → Nat → Int32) (f kp g : Nat → Int32) (M : gm_M) (j : Nat) (wf : gm_wf M) (hs : gr_st F B M) (hj : j < M 11 0) : gk_I l yX2_isSack wsX2_isSack ({ frames := 1, cells := 0, slots := 0, locals := 22 } : Room) D (g_T cI cZ cJ) gk_E0 [.ref h, .int (nI j)] (gd_W cI h q F B f kp g) 0 0 (fun (r : Int32) (u : Unit) => r = nI 1) (fun u => (gd_W cI h q F B f kp g)) := by
  refine gk_I_of (ty := .boolean) (cc := cX2_isSack) (nL := 2) (by decide +kernel) rfl (Nat.le_of_ble_eq_true rfl) ?_
  intro p e s m below meth c A Q hnm hE G RET
  obtain ⟨hz1, hz2, hz3, hz4, hz5, hz6, hz7, hz8⟩ := id wf
  have hinX2 : ∀ w ∈ wsX20, w ∈ wsX2_isSack := fun w h9 => (List.mem_cons_of_mem _ (List.mem_append_right _ h9))
  have k42 := G.2.2.2.2.1 (.fieldLink RX2 42 "GustMillModel" "sacks" "I") (List.mem_cons_of_mem _ (List.mem_append_left _ (List.mem_of_getElem? (i := 0) rfl)))
  refine gk_iload_n G dX2_isSack_0 1 rfl ?_
  refine gk_iconst (v := nI 0) G dX2_isSack_1 (by decide) ?_
  refine gk_aload_n G dX2_isSack_2 0 rfl ?_
  refine gk_get (v' := .int (nI (M 11 0))) G hinX2 (q0 := 0) rfl rfl 6 (by decide) k42 rfl (congrArg Value.int (hs.2.2.2.1)) dX2_isSack_3 ?_
  refine gk_iconst (v := nI 1) G dX2_isSack_6 (by decide) ?_
  refine gk_isub (v := gm_e (M 11 0)) G dX2_isSack_7 (gm_e_sub _) ?_
  refine gk_callIS (wc := []) (wr := (gd_W cI h q F B f kp g)) (isC := []) (isR := [0, 1, 2, 3, 4, 5, 6, 7]) G (c2_isIn l D cI cZ cJ (nI j) (nI 0) (gm_e (M 11 0))) gX2_isSack_X2_isIn rfl 3 (by decide +kernel) rfl rfl ⟨(Nat.le_of_ble_eq_true rfl), (Nat.le_of_ble_eq_true rfl)⟩ rfl gk_ok0 trivial rfl (by decide) rfl (by decide) (by decide) rfl (Nat.le_of_ble_eq_true rfl) dX2_isSack_8 ⟨(Nat.le_of_ble_eq_true rfl), (Nat.le_of_ble_eq_true rfl)⟩ (fun r8 u8 hp8 => ?_)
  obtain rfl : r8 = nI 1 := (hp8.trans (gm_b1 (gm_ine1 hj (by omega))))
  show gk_C p l e ({ frames := 1, cells := 0, slots := 0, locals := 22 } : Room) s m ([.ref h, .int (nI j)] : List Value).toArray below meth c 2 D A Q 0 0 (gd_W cI h q F B f kp g) [(0, .ref h), (1, .int (nI j))] 11 [.int (nI 1)]
  exact RET _ _ _ _ _ _ () dX2_isSack_11 rfl rfl rfl (Nat.le_of_ble_eq_true rfl) (Nat.le_of_ble_eq_true rfl)
set_option maxRecDepth 100000 in
set_option maxHeartbeats 1000000 in
theorem c2_isSack_no (l : Launch) (D : va_G) (cI cZ cJ : ClassId) (h : Nat) (q : Nat → Nat) (F : Nat → Int32) (B : Nat → Nat → Int32) (f kp g : Nat → Int32) (M : gm_M) (p0 : Int32) (wf : gm_wf M) (hs : gr_st F B M) (hb : ¬ gm_rg p0 0 (M 11 0)) : gk_I l yX2_isSack wsX2_isSack ({ frames := 1, cells := 0, slots := 0, locals := 22 } : Room) D (g_T cI cZ cJ) gk_E0 [.ref h, .int p0] (gd_W cI h q F B f kp g) 0 0 (fun (r : Int32) (u : Unit) => r = nI 0) (fun u => (gd_W cI h q F B f kp g)) := by
  refine gk_I_of (ty := .boolean) (cc := cX2_isSack) (nL := 2) (by decide +kernel) rfl (Nat.le_of_ble_eq_true rfl) ?_
  intro p e s m below meth c A Q hnm hE G RET
  obtain ⟨hz1, hz2, hz3, hz4, hz5, hz6, hz7, hz8⟩ := id wf
  have hinX2 : ∀ w ∈ wsX20, w ∈ wsX2_isSack := fun w h9 => (List.mem_cons_of_mem _ (List.mem_append_right _ h9))
  have k42 := G.2.2.2.2.1 (.fieldLink RX2 42 "GustMillModel" "sacks" "I") (List.mem_cons_of_mem _ (List.mem_append_left _ (List.mem_of_getElem? (i := 0) rfl)))
  refine gk_iload_n G dX2_isSack_0 1 rfl ?_
  refine gk_iconst (v := nI 0) G dX2_isSack_1 (by decide) ?_
  refine gk_aload_n G dX2_isSack_2 0 rfl ?_
  refine gk_get (v' := .int (nI (M 11 0))) G hinX2 (q0 := 0) rfl rfl 6 (by decide) k42 rfl (congrArg Value.int (hs.2.2.2.1)) dX2_isSack_3 ?_
  refine gk_iconst (v := nI 1) G dX2_isSack_6 (by decide) ?_
  refine gk_isub (v := gm_e (M 11 0)) G dX2_isSack_7 (gm_e_sub _) ?_
  refine gk_callIS (wc := []) (wr := (gd_W cI h q F B f kp g)) (isC := []) (isR := [0, 1, 2, 3, 4, 5, 6, 7]) G (c2_isIn l D cI cZ cJ p0 (nI 0) (gm_e (M 11 0))) gX2_isSack_X2_isIn rfl 3 (by decide +kernel) rfl rfl ⟨(Nat.le_of_ble_eq_true rfl), (Nat.le_of_ble_eq_true rfl)⟩ rfl gk_ok0 trivial rfl (by decide) rfl (by decide) (by decide) rfl (Nat.le_of_ble_eq_true rfl) dX2_isSack_8 ⟨(Nat.le_of_ble_eq_true rfl), (Nat.le_of_ble_eq_true rfl)⟩ (fun r8 u8 hp8 => ?_)
  obtain rfl : r8 = nI 0 := (hp8.trans (gm_b0 (gm_ine0 hb (by omega))))
  show gk_C p l e ({ frames := 1, cells := 0, slots := 0, locals := 22 } : Room) s m ([.ref h, .int p0] : List Value).toArray below meth c 2 D A Q 0 0 (gd_W cI h q F B f kp g) [(0, .ref h), (1, .int p0)] 11 [.int (nI 0)]
  exact RET _ _ _ _ _ _ () dX2_isSack_11 rfl rfl rfl (Nat.le_of_ble_eq_true rfl) (Nat.le_of_ble_eq_true rfl)
