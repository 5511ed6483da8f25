theorem gp_e_ge {n : Nat} (h : n < 2 ^ 31) : (0 : Int32) ≤ gm_e n ↔ n ≠ 0 := by
  rw [Int32.le_iff_toInt_le, gm_e_toInt h, Int32.toInt_zero]; omega
theorem gp_e_lt {n : Nat} (h : n < 2 ^ 31) : gm_e n < 0 ↔ n = 0 := by
  rw [Int32.lt_iff_toInt_lt, gm_e_toInt h, Int32.toInt_zero]; omega
theorem gp_dec {t : Nat} (h : t ≠ 0) : nI t + Int32.ofInt (-1) = nI (t - 1) := by
  rw [← gm_e_pred h, show Int32.ofInt (-1) = -1 by decide]; rfl
theorem gk_pnil (w : va_W) : w.Perm (w ++ []) := by rw [List.append_nil]
theorem gp_keyv {F W0 : Nat → Int32} {T V : Nat → Nat → Int32} {M : gm_M} {i : Nat} (hr : gp_rep F W0 T V M) (hi : i < M 11 0) (h1 : 0 < M 14 0) (h2 : M 14 0 ≤ 2) : V i (3 - M 14 0) = nI (gm_key M i) := by
  unfold gm_key
  rcases (show M 14 0 = 1 ∨ M 14 0 = 2 by omega) with h | h
  · rw [h, if_neg (by decide), if_pos rfl]; exact hr.2.2.2.2.2.2.1 i hi
  · rw [h, if_neg (by decide), if_neg (by decide)]; exact hr.2.2.2.2.2.1 i hi
theorem gp_key_le {M : gm_M} (wf : gm_wf M) {i : Nat} (hi : i < M 11 0) : gm_key M i ≤ 200 := by
  have h := wf.2.2.2.2.2.2.1 i hi
  unfold gm_key
  split
  · omega
  · split <;> omega
theorem gp_sort_hi {M : gm_M} {i j : Nat} (hi : i < 16) (hj : j < i) (h8 : M 8 j = 0) (h : gm_cnt M i i ≤ gm_cnt M j i) : gm_key M i < gm_key M j := by
  have h1 : gm_trn M i < gm_trn M j := by
    rcases Nat.lt_trichotomy (gm_trn M i) (gm_trn M j) with g | g | g
    · exact g
    · have := gp_trn_inj (by omega) (by omega) g; omega
    · have := gp_cnt_str g h8 i hj; omega
  unfold gm_trn at h1; omega
theorem gp_sort_lo {M : gm_M} {i j : Nat} (hi : i < 16) (hj : j < 16) (h : gm_key M i < gm_key M j) : gm_cnt M i i ≤ gm_cnt M j i :=
  gp_cnt_mono (by unfold gm_trn; omega) i
theorem gp_ord_ins {M : gm_M} {i : Nat} {fo f1 : Nat → Int32} (hi : i < 16) (h8 : M 8 i = 0) (ho : gp_ord M i fo) (h1 : ∀ k, k < gm_cnt M i i → f1 k = fo k) (h2 : ∀ k, gm_cnt M i i < k → k ≤ gp_un M i → f1 k = fo (k - 1)) : gp_ord M (i + 1) (upd f1 (gm_cnt M i i) (nI i)) := by
  intro j hj hj8
  by_cases hji : j = i
  · rw [hji, gp_cnt_succ, if_neg (by omega), Nat.add_zero, pk_us]
  · have hj1 : j < i := by omega
    have hlt := gp_cnt_lt hj8 i hj1
    rcases Nat.lt_trichotomy (gm_trn M j) (gm_trn M i) with g | g | g
    · have hc := gp_cnt_str g hj8 i hj1
      rw [gp_cnt_succ, if_neg (by omega), Nat.add_zero, pk_un (by omega), h1 _ hc]
      exact ho j hj1 hj8
    · have := gp_trn_inj (by omega) (by omega) g; omega
    · have hc := gp_cnt_mono (M := M) (Nat.le_of_lt g) i
      rw [gp_cnt_succ, if_pos ⟨h8, g⟩, pk_un (by omega), h2 _ (by omega) (by omega), Nat.add_sub_cancel]
      exact ho j hj1 hj8
theorem gp_ord_skip {M : gm_M} {i : Nat} {fo : Nat → Int32} (h8 : M 8 i ≠ 0) (ho : gp_ord M i fo) : gp_ord M (i + 1) fo := by
  intro j hj hj8
  have hj1 : j < i := by
    rcases Nat.lt_succ_iff_lt_or_eq.mp hj with g | g
    · exact g
    · rw [g] at hj8; exact absurd hj8 h8
  rw [gp_cnt_succ, if_neg (fun g => h8 g.1)]
  exact ho j hj1 hj8
set_option maxRecDepth 100000 in
set_option maxHeartbeats 2000000 in
theorem c2_order (l : Launch) (D : va_G) (cI cZ cJ : ClassId) (a : Nat) (q : Nat → Nat) (F W0 : Nat → Int32) (nm nk : Nat) (fS fK : Nat → Option Nat) (Sx Kx : Nat → Nat) (T V : Nat → Nat → Int32) (M : gm_M) (wf : gm_wf M) (hr : gp_rep F W0 T V M) (hm : M 10 0 = nm) (hk : M 11 0 = nk) (hfS : gp_rows fS Sx nm) (hfK : gp_rows fK Kx nk) (hh : M 9 0 < 2000000) : gk_R l yX2_order wsX2_order ({ frames := 0, cells := 1, slots := 16, locals := 0 } : Room) D (g_T cI cZ cJ) gk_E0 [.ref a] (gp_W cI cJ a q F W0 nm nk fS fK Sx Kx T V) 1 16 (fun (u : (Nat → Int32)) => gp_ord M nk u) (fun u ra => (gw_R cI ra (gp_un M nk) u ++ (gp_W cI cJ a q F W0 nm nk fS fK Sx Kx T V))) := by
  refine gk_R_of (rt := (.array .int)) (cc := cX2_order) (nL := 6) (Or.inr ⟨_, rfl⟩) (by decide +kernel) rfl (Nat.le_of_ble_eq_true rfl) ?_
  intro p e s m below meth c A Q hnm hE G RET
  obtain ⟨hz1, hz2, hz3, hz4, hz5, hz6, hz7, hz8⟩ := id wf
  have hinX2 : ∀ w ∈ wsX20, w ∈ wsX2_order := fun w h9 => (List.mem_cons_of_mem _ (List.mem_append_right _ h9))
  have k18 := G.2.2.2.2.1 (.fieldLink RX2 18 "GustMillLaw$Sim" "sacks" "[[I") (List.mem_cons_of_mem _ (List.mem_append_left _ (List.mem_of_getElem? (i := 0) rfl)))
  have k21 := G.2.2.2.2.1 (.fieldLink RX2 21 "GustMillLaw$Sim" "rule" "I") (List.mem_cons_of_mem _ (List.mem_append_left _ (List.mem_of_getElem? (i := 2) rfl)))
  have hun : gp_un M nk ≤ 16 := by have := gp_un_le M nk; omega
  have J41 : gk_C p l e ({ frames := 0, cells := 1, slots := 16, locals := 0 } : Room) s m ([.ref a] : List Value).toArray below meth c 6 D A Q 0 0 (gp_W cI cJ a q F W0 nm nk fS fK Sx Kx T V) [(0, .ref a), (1, .int (nI (gp_un M nk)))] 41 [] := by
    refine gk_iload_n G dX2_order_41 1 rfl ?_
    refine gk_newa (cI := cI) (atype := .int) (N := (gp_un M nk)) (a0 := ((gp_un M nk), .inl (fun _ => 0))) G (G.2.2.2.2.1 (.arrayClass .int) (List.mem_cons_of_mem _ (List.mem_append_left _ (List.mem_of_getElem? (i := 1) rfl)))) rfl (fun C h => by cases h) 0 rfl (fun _ => rfl) rfl (by omega) (by show (gp_un M nk) * 4 ≤ 536870912; omega) (Nat.le_of_ble_eq_true rfl) (by show 0 + (gp_un M nk) ≤ 16; omega) dX2_order_42 (fun o1 => ?_)
    refine gk_widen (k := 1) (n := 16) (Nat.le_of_ble_eq_true rfl) (by omega) (gk_rot ?_)
    show gk_C p l e ({ frames := 0, cells := 1, slots := 16, locals := 0 } : Room) s m ([.ref a] : List Value).toArray below meth c 6 D A Q 1 16 (gw_R cI o1 (gp_un M nk) (fun _ => 0) ++ (gp_W cI cJ a q F W0 nm nk fS fK Sx Kx T V)) [(0, .ref a), (1, .int (nI (gp_un M nk)))] 44 [.ref o1]
    refine gk_astore_n (lv' := [(2, .ref o1), (0, .ref a), (1, .int (nI (gp_un M nk)))]) G dX2_order_44 rfl (by decide) rfl ?_
    have L50 : ∀ (n : Nat) (i : Nat) (fo : Nat → Int32), nk - i < n → (i ≤ nk) → (gp_ord M i fo) → gk_C p l e ({ frames := 0, cells := 1, slots := 16, locals := 0 } : Room) s m ([.ref a] : List Value).toArray below meth c 6 D A Q 1 16 (gw_R cI o1 (gp_un M nk) fo ++ (gp_W cI cJ a q F W0 nm nk fS fK Sx Kx T V)) [(0, .ref a), (2, .ref o1), (3, .int (nI (gp_un M i))), (4, .int (nI i))] 50 [] := by
      intro n
      induction n with
      | zero => intro i fo h0; exact absurd h0 (Nat.not_lt_zero _)
      | succ n ih =>
        intro i fo h0 w0 w1
        refine gk_iload G dX2_order_50 3 rfl ?_
        refine gk_aload_n G dX2_order_52 0 rfl ?_
        refine gk_get (v' := .ref (q 2)) G hinX2 (q0 := 1) rfl rfl 7 (by decide) k18 rfl rfl dX2_order_53 ?_
        refine gk_alen (v := nI nk) G (q0 := 4) (t0 := 2) rfl rfl rfl dX2_order_56 ?_
        refine gk_icmp_ge (tgt := 156) G dX2_order_57 (by decide) (fun c_57 => ?_) (fun c_57 => ?_)
        · replace c_57 := (nI_leI (a := nk) (b := i) (by omega) (by omega)).mp c_57
          refine gk_aload_n G dX2_order_156 1 rfl ?_
          exact RET _ _ _ _ _ _ fo [] dX2_order_157 (by rw [show nk = i by omega]; exact w1) (gk_pnil _) (Nat.le_of_ble_eq_true rfl) (Nat.le_of_ble_eq_true rfl)
        · replace c_57 := (not_congr (nI_leI (a := nk) (b := i) (by omega) (by omega))).mp c_57
          have h8b := (hz7 i (by omega)).2.2.2.2.2.2
          have hui := gp_un_mono M (show i ≤ nk by omega)
          have hule := gp_un_le M i
          refine gk_aload_n G dX2_order_60 0 rfl ?_
          refine gk_get (v' := .ref (q 2)) G hinX2 (q0 := 1) rfl rfl 7 (by decide) k18 rfl rfl dX2_order_61 ?_
          refine gk_iload G dX2_order_64 3 rfl ?_
          refine gk_aald (v := Kx i) G (q0 := 4) (t0 := 2) rfl rfl i rfl (by omega) (by omega) (hfK i (by omega)) dX2_order_66 ?_
          refine gk_iconst (v := nI 3) G dX2_order_67 (by decide) ?_
          refine gk_iald (v := gm_e (M 8 i)) G (q0 := (nm + i + 4 + 1)) (t0 := 0) (gp_s1 (gp_atK (by omega))) rfl 3 rfl (by decide) (by decide) (hr.2.2.2.2.2.2.2 i (by omega)) dX2_order_68 ?_
          refine gk_if_lt (tgt := 75) G dX2_order_69 (by decide) (fun c_69 => ?_) (fun c_69 => ?_)
          · replace c_69 := (gp_e_lt (n := M 8 i) (by omega)).mp c_69
            have hu1 := gp_un_yes (M := M) (n := i) (by omega)
            have hu2 := gp_un_mono M (show i + 1 ≤ nk by omega)
            have hcu := gp_cnt_un M i i
            have J141 : ∀ f1 : Nat → Int32, (∀ k, k < gm_cnt M i i → f1 k = fo k) → (∀ k, gm_cnt M i i < k → k ≤ gp_un M i → f1 k = fo (k - 1)) → gk_C p l e ({ frames := 0, cells := 1, slots := 16, locals := 0 } : Room) s m ([.ref a] : List Value).toArray below meth c 6 D A Q 1 16 (gw_R cI o1 (gp_un M nk) f1 ++ (gp_W cI cJ a q F W0 nm nk fS fK Sx Kx T V)) [(0, .ref a), (2, .ref o1), (3, .int (nI (gp_un M i))), (4, .int (nI i)), (5, .int (nI (gm_cnt M i i)))] 141 [] := by
              intro f1 h1 h2
              refine gk_aload_n G dX2_order_141 1 rfl ?_
              refine gk_iload G dX2_order_142 4 rfl ?_
              refine gk_iload G dX2_order_144 3 rfl ?_
              refine gk_topi (fun v146 ev146 => ?_)
              refine gk_iast (w' := (gw_R cI o1 (gp_un M nk) (upd f1 (gm_cnt M i i) v146) ++ (gp_W cI cJ a q F W0 nm nk fS fK Sx Kx T V))) G (q0 := 0) (t0 := 0) rfl rfl (gm_cnt M i i) rfl (by omega) (by omega) rfl dX2_order_146 ?_
              refine gk_iinc (j := 2) (v := nI (gp_un M i + 1)) (lv' := [(3, .int (nI (gp_un M i + 1))), (0, .ref a), (2, .ref o1), (4, .int (nI i)), (5, .int (nI (gm_cnt M i i)))]) G dX2_order_147 rfl (nI_add (gp_un M i) 1) (by decide) rfl ?_
              refine gk_iinc (j := 3) (v := nI (i + 1)) (lv' := [(4, .int (nI (i + 1))), (3, .int (nI (gp_un M i + 1))), (0, .ref a), (2, .ref o1), (5, .int (nI (gm_cnt M i i)))]) G dX2_order_150 rfl (nI_add i 1) (by decide) rfl ?_
              refine gk_goto (tgt := 50) G dX2_order_153 (by decide) ?_
              have e9 : gp_un M (i + 1) = gp_un M i + 1 := hu1
              have t9 := ih (i + 1) _ (by omega) (by omega) (gp_ord_ins (by omega) (by omega) w1 h1 h2)
              rw [e9, ← ev146] at t9
              exact gk_lsub [2,3,1,0] rfl t9
            have L78 : ∀ (n : Nat) (t : Nat) (f1 : Nat → Int32), t < n → (gm_cnt M i i ≤ t) → (t ≤ gp_un M i) → (∀ k, k < t → f1 k = fo k) → (∀ k, t < k → k ≤ gp_un M i → f1 k = fo (k - 1)) → gk_C p l e ({ frames := 0, cells := 1, slots := 16, locals := 0 } : Room) s m ([.ref a] : List Value).toArray below meth c 6 D A Q 1 16 (gw_R cI o1 (gp_un M nk) f1 ++ (gp_W cI cJ a q F W0 nm nk fS fK Sx Kx T V)) [(0, .ref a), (2, .ref o1), (3, .int (nI (gp_un M i))), (4, .int (nI i)), (5, .int (nI t))] 78 [] := by
              intro n
              induction n with
              | zero => intro t f1 h0; exact absurd h0 (Nat.not_lt_zero _)
              | succ n ih7 =>
                intro t f1 h0 u0 u1 u2 u3
                refine gk_iload G dX2_order_78 4 rfl ?_
                refine gk_if_le (tgt := 141) G dX2_order_80 (by decide) (fun c_80 => ?_) (fun c_80 => ?_)
                · replace c_80 := (nI_leI (a := t) (b := 0) (by omega) (by omega)).mp c_80
                  have hc9 : t = gm_cnt M i i := by omega
                  rw [hc9] at u2 u3
                  have t9 := J141 f1 u2 u3
                  rw [← hc9] at t9
                  exact gk_lsub [0,1,2,3,4] rfl t9
                · replace c_80 := (not_congr (nI_leI (a := t) (b := 0) (by omega) (by omega))).mp c_80
                  obtain ⟨sx, hs1, hs2, hs3⟩ := gp_cnt_sur (M := M) i (by omega) (t - 1) (by omega)
                  have hf : f1 (t - 1) = nI sx := by rw [u2 (t - 1) (by omega), ← hs3]; exact w1 sx hs1 hs2
                  have hk1 := gp_key_le wf (show sx < M 11 0 by omega)
                  have hk2 := gp_key_le wf (show i < M 11 0 by omega)
                  refine gk_aload_n G dX2_order_83 0 rfl ?_
                  refine gk_get (v' := .int (nI (M 14 0))) G hinX2 (q0 := 1) rfl rfl 1 (by decide) k21 rfl (congrArg Value.int (hr.1.2.1)) dX2_order_84 ?_
                  refine gk_if_le (tgt := 141) G dX2_order_87 (by decide) (fun c_87 => ?_) (fun c_87 => ?_)
                  · replace c_87 := (nI_leI (a := M 14 0) (b := 0) (by omega) (by omega)).mp c_87
                    have hk0 : ∀ x, gm_key M x = 0 := fun x => by unfold gm_key; rw [if_pos (by omega)]
                    have hc9 : t = gm_cnt M i i := Nat.le_antisymm (Nat.le_of_not_lt (fun q9 => by have := gp_sort_hi (M := M) (i := i) (j := sx) (by omega) hs1 hs2 (by omega); rw [hk0, hk0] at this; omega)) u0
                    rw [hc9] at u2 u3
                    have t9 := J141 f1 u2 u3
                    rw [← hc9] at t9
                    exact gk_lsub [0,1,2,3,4] rfl t9
                  · replace c_87 := (not_congr (nI_leI (a := M 14 0) (b := 0) (by omega) (by omega))).mp c_87
                    refine gk_aload_n G dX2_order_90 0 rfl ?_
                    refine gk_get (v' := .ref (q 2)) G hinX2 (q0 := 1) rfl rfl 7 (by decide) k18 rfl rfl dX2_order_91 ?_
                    refine gk_aload_n G dX2_order_94 1 rfl ?_
                    refine gk_iload G dX2_order_95 4 rfl ?_
                    refine gk_iconst (v := nI 1) G dX2_order_97 (by decide) ?_
                    refine gk_isub (v := nI (t - 1)) G dX2_order_98 (pk_sub (by omega)) ?_
                    refine gk_iald (v := nI sx) G (q0 := 0) (t0 := 0) rfl rfl (t - 1) rfl (by omega) (by omega) hf dX2_order_99 ?_
                    refine gk_aald (v := Kx sx) G (q0 := 4) (t0 := 2) rfl rfl sx rfl (by omega) (by omega) (hfK sx (by omega)) dX2_order_100 ?_
                    refine gk_iconst (v := nI 3) G dX2_order_101 (by decide) ?_
                    refine gk_aload_n G dX2_order_102 0 rfl ?_
                    refine gk_get (v' := .int (nI (M 14 0))) G hinX2 (q0 := 1) rfl rfl 1 (by decide) k21 rfl (congrArg Value.int (hr.1.2.1)) dX2_order_103 ?_
                    refine gk_isub (v := nI (3 - M 14 0)) G dX2_order_106 (pk_sub (by omega)) ?_
                    refine gk_iald (v := nI (gm_key M sx)) G (q0 := (nm + sx + 4 + 1)) (t0 := 0) (gp_s1 (gp_atK (by omega))) rfl (3 - M 14 0) rfl (by omega) (by decide) (gp_keyv hr (by omega) (by omega) hz3) dX2_order_107 ?_
                    refine gk_aload_n G dX2_order_108 0 rfl ?_
                    refine gk_get (v' := .ref (q 2)) G hinX2 (q0 := 1) rfl rfl 7 (by decide) k18 rfl rfl dX2_order_109 ?_
                    refine gk_iload G dX2_order_112 3 rfl ?_
                    refine gk_aald (v := Kx i) G (q0 := 4) (t0 := 2) rfl rfl i rfl (by omega) (by omega) (hfK i (by omega)) dX2_order_114 ?_
                    refine gk_iconst (v := nI 3) G dX2_order_115 (by decide) ?_
                    refine gk_aload_n G dX2_order_116 0 rfl ?_
                    refine gk_get (v' := .int (nI (M 14 0))) G hinX2 (q0 := 1) rfl rfl 1 (by decide) k21 rfl (congrArg Value.int (hr.1.2.1)) dX2_order_117 ?_
                    refine gk_isub (v := nI (3 - M 14 0)) G dX2_order_120 (pk_sub (by omega)) ?_
                    refine gk_iald (v := nI (gm_key M i)) G (q0 := (nm + i + 4 + 1)) (t0 := 0) (gp_s1 (gp_atK (by omega))) rfl (3 - M 14 0) rfl (by omega) (by decide) (gp_keyv hr (by omega) (by omega) hz3) dX2_order_121 ?_
                    refine gk_icmp_le (tgt := 141) G dX2_order_122 (by decide) (fun c_122 => ?_) (fun c_122 => ?_)
                    · replace c_122 := (nI_leI (a := gm_key M sx) (b := gm_key M i) (by omega) (by omega)).mp c_122
                      have hc9 : t = gm_cnt M i i := Nat.le_antisymm (Nat.le_of_not_lt (fun q9 => by have := gp_sort_hi (M := M) (i := i) (j := sx) (by omega) hs1 hs2 (by omega); omega)) u0
                      rw [hc9] at u2 u3
                      have t9 := J141 f1 u2 u3
                      rw [← hc9] at t9
                      exact gk_lsub [0,1,2,3,4] rfl t9
                    · replace c_122 := (not_congr (nI_leI (a := gm_key M sx) (b := gm_key M i) (by omega) (by omega))).mp c_122
                      have hlo := gp_sort_lo (M := M) (i := i) (j := sx) (by omega) (by omega) (by omega)
                      refine gk_aload_n G dX2_order_125 1 rfl ?_
                      refine gk_iload G dX2_order_126 4 rfl ?_
                      refine gk_aload_n G dX2_order_128 1 rfl ?_
                      refine gk_iload G dX2_order_129 4 rfl ?_
                      refine gk_iconst (v := nI 1) G dX2_order_131 (by decide) ?_
                      refine gk_isub (v := nI (t - 1)) G dX2_order_132 (pk_sub (by omega)) ?_
                      refine gk_iald (v := nI sx) G (q0 := 0) (t0 := 0) rfl rfl (t - 1) rfl (by omega) (by omega) hf dX2_order_133 ?_
                      refine gk_topi (fun v134 ev134 => ?_)
                      refine gk_iast (w' := (gw_R cI o1 (gp_un M nk) (upd f1 t v134) ++ (gp_W cI cJ a q F W0 nm nk fS fK Sx Kx T V))) G (q0 := 0) (t0 := 0) rfl rfl t rfl (by omega) (by omega) rfl dX2_order_134 ?_
                      refine gk_iinc (j := 4) (v := nI (t - 1)) (lv' := [(5, .int (nI (t - 1))), (0, .ref a), (2, .ref o1), (3, .int (nI (gp_un M i))), (4, .int (nI i))]) G dX2_order_135 rfl (gp_dec (by omega)) (by decide) rfl ?_
                      refine gk_goto (tgt := 78) G dX2_order_138 (by decide) ?_
                      exact gk_lsub [1,2,3,4,0] rfl (ih7 (t - 1) _ (by omega) (by omega) (by omega) (fun k hk => by rw [pk_un (by omega)]; exact u2 k (by omega)) (fun k g1 g2 => by
                        by_cases hkt : k = t
                        · rw [hkt, pk_us, ev134, ← hf]; exact u2 (t - 1) (by omega)
                        · rw [pk_un hkt]; exact u3 k (by omega) g2))
            refine gk_iload_n G dX2_order_75 2 rfl ?_
            refine gk_istore (lv' := [(5, .int (nI (gp_un M i))), (0, .ref a), (2, .ref o1), (3, .int (nI (gp_un M i))), (4, .int (nI i))]) G dX2_order_76 (by decide) rfl ?_
            exact gk_lsub [1,2,3,4,0] rfl (L78 (gp_un M i + 1) (gp_un M i) fo (by omega) hcu (by omega) (fun k _ => rfl) (fun k g1 g2 => absurd g1 (by omega)))
          · replace c_69 := (not_congr (gp_e_lt (n := M 8 i) (by omega))).mp c_69
            refine gk_goto (tgt := 150) G dX2_order_72 (by decide) ?_
            refine gk_iinc (j := 3) (v := nI (i + 1)) (lv' := [(4, .int (nI (i + 1))), (0, .ref a), (2, .ref o1), (3, .int (nI (gp_un M i)))]) G dX2_order_150 rfl (nI_add i 1) (by decide) rfl ?_
            refine gk_goto (tgt := 50) G dX2_order_153 (by decide) ?_
            have e9 : gp_un M (i + 1) = gp_un M i := gp_un_no (by omega)
            have t9 := ih (i + 1) fo (by omega) (by omega) (gp_ord_skip (by omega) w1)
            rw [e9] at t9
            exact gk_lsub [1,2,3,0] rfl t9
    refine gk_iconst (v := nI 0) G dX2_order_45 (by decide) ?_
    refine gk_istore_n (lv' := [(3, .int (nI 0)), (2, .ref o1), (0, .ref a), (1, .int (nI (gp_un M nk)))]) G dX2_order_46 rfl (by decide) rfl ?_
    refine gk_iconst (v := nI 0) G dX2_order_47 (by decide) ?_
    refine gk_istore (lv' := [(4, .int (nI 0)), (3, .int (nI 0)), (2, .ref o1), (0, .ref a), (1, .int (nI (gp_un M nk)))]) G dX2_order_48 (by decide) rfl ?_
    have t9 := L50 (nk + 1) 0 (fun _ => 0) (by omega) (by omega) (fun s9 h9 => absurd h9 (Nat.not_lt_zero _))
    exact gk_lsub [3,2,1,0] rfl t9
  have L13 : ∀ (n : Nat) (k : Nat), nk - k < n → (k ≤ nk) → gk_C p l e ({ frames := 0, cells := 1, slots := 16, locals := 0 } : Room) s m ([.ref a] : List Value).toArray below meth c 6 D A Q 0 0 (gp_W cI cJ a q F W0 nm nk fS fK Sx Kx T V) [(0, .ref a), (1, .int (nI (gp_un M k))), (2, .ref (q 2)), (3, .int (nI nk)), (4, .int (nI k))] 13 [] := by
    intro n
    induction n with
    | zero => intro k h0; exact absurd h0 (Nat.not_lt_zero _)
    | succ n ih =>
      intro k h0 w0
      refine gk_iload G dX2_order_13 4 rfl ?_
      refine gk_iload_n G dX2_order_15 3 rfl ?_
      refine gk_icmp_ge (tgt := 41) G dX2_order_16 (by decide) (fun c_16 => ?_) (fun c_16 => ?_)
      · replace c_16 := (nI_leI (a := nk) (b := k) (by omega) (by omega)).mp c_16
        have hkn : k = nk := by omega
        subst hkn
        exact gk_lsub [0,1] rfl J41
      · replace c_16 := (not_congr (nI_leI (a := nk) (b := k) (by omega) (by omega))).mp c_16
        have h8b := (hz7 k (by omega)).2.2.2.2.2.2
        refine gk_aload_n G dX2_order_19 2 rfl ?_
        refine gk_iload G dX2_order_20 4 rfl ?_
        refine gk_aald (v := Kx k) G (q0 := 3) (t0 := 2) rfl rfl k rfl (by omega) (by omega) (hfK k (by omega)) dX2_order_22 ?_
        refine gk_astore (lv' := [(5, .ref (Kx k)), (0, .ref a), (1, .int (nI (gp_un M k))), (2, .ref (q 2)), (3, .int (nI nk)), (4, .int (nI k))]) G dX2_order_23 (by decide) rfl ?_
        refine gk_aload G dX2_order_25 0 rfl ?_
        refine gk_iconst (v := nI 3) G dX2_order_27 (by decide) ?_
        refine gk_iald (v := gm_e (M 8 k)) G (q0 := (nm + k + 4)) (t0 := 0) (gp_atK (by omega)) rfl 3 rfl (by decide) (by decide) (hr.2.2.2.2.2.2.2 k (by omega)) dX2_order_28 ?_
        refine gk_if_ge (tgt := 35) G dX2_order_29 (by decide) (fun c_29 => ?_) (fun c_29 => ?_)
        · replace c_29 := (gp_e_ge (n := M 8 k) (by omega)).mp c_29
          refine gk_iinc (j := 5) (v := nI (k + 1)) (lv' := [(4, .int (nI (k + 1))), (5, .ref (Kx k)), (0, .ref a), (1, .int (nI (gp_un M k))), (2, .ref (q 2)), (3, .int (nI nk))]) G dX2_order_35 rfl (nI_add k 1) (by decide) rfl ?_
          refine gk_goto (tgt := 13) G dX2_order_38 (by decide) ?_
          have e9 : gp_un M (k + 1) = gp_un M k := gp_un_no (by omega)
          have t9 := ih (k + 1) (by omega) (by omega)
          rw [e9] at t9
          exact gk_lsub [2,3,4,5,0] rfl t9
        · replace c_29 := (not_congr (gp_e_ge (n := M 8 k) (by omega))).mp c_29
          refine gk_iinc (j := 2) (v := nI (gp_un M k + 1)) (lv' := [(1, .int (nI (gp_un M k + 1))), (5, .ref (Kx k)), (0, .ref a), (2, .ref (q 2)), (3, .int (nI nk)), (4, .int (nI k))]) G dX2_order_32 rfl (nI_add (gp_un M k) 1) (by decide) rfl ?_
          refine gk_iinc (j := 5) (v := nI (k + 1)) (lv' := [(4, .int (nI (k + 1))), (1, .int (nI (gp_un M k + 1))), (5, .ref (Kx k)), (0, .ref a), (2, .ref (q 2)), (3, .int (nI nk))]) G dX2_order_35 rfl (nI_add k 1) (by decide) rfl ?_
          refine gk_goto (tgt := 13) G dX2_order_38 (by decide) ?_
          have e9 : gp_un M (k + 1) = gp_un M k + 1 := gp_un_yes (by omega)
          have t9 := ih (k + 1) (by omega) (by omega)
          rw [e9] at t9
          exact gk_lsub [3,1,4,5,0] rfl t9
  refine gk_iconst (v := nI 0) G dX2_order_0 (by decide) ?_
  refine gk_istore_n (lv' := [(1, .int (nI 0)), (0, .ref a)]) G dX2_order_1 rfl (by decide) rfl ?_
  refine gk_aload_n G dX2_order_2 1 rfl ?_
  refine gk_get (v' := .ref (q 2)) G hinX2 (q0 := 0) rfl rfl 7 (by decide) k18 rfl rfl dX2_order_3 ?_
  refine gk_astore_n (lv' := [(2, .ref (q 2)), (1, .int (nI 0)), (0, .ref a)]) G dX2_order_6 rfl (by decide) rfl ?_
  refine gk_aload_n G dX2_order_7 0 rfl ?_
  refine gk_alen (v := nI nk) G (q0 := 3) (t0 := 2) rfl rfl rfl dX2_order_8 ?_
  refine gk_istore_n (lv' := [(3, .int (nI nk)), (2, .ref (q 2)), (1, .int (nI 0)), (0, .ref a)]) G dX2_order_9 rfl (by decide) rfl ?_
  refine gk_iconst (v := nI 0) G dX2_order_10 (by decide) ?_
  refine gk_istore (lv' := [(4, .int (nI 0)), (3, .int (nI nk)), (2, .ref (q 2)), (1, .int (nI 0)), (0, .ref a)]) G dX2_order_11 (by decide) rfl ?_
  exact gk_lsub [4,3,2,1,0] rfl (L13 (nk + 1) 0 (by omega) (by omega))
