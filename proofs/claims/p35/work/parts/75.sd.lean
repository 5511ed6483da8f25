theorem gp_nxt_no {X : gm_M} {f : Nat} : ∀ n : Nat, gm_nxt X f n = 0 → ∀ j, j < n → X 8 j = 0 → (f = 0 ∨ X 7 j = 0) → False
  | 0, _, j, hj, _, _ => Nat.not_lt_zero _ hj
  | n + 1, h, j, hj, h8, h7 => by
    have hu : gm_nxt X f (n + 1) = (if X 8 n = 0 ∧ (f = 0 ∨ X 7 n = 0) ∧ (gm_nxt X f n = 0 ∨ gm_trn X n < gm_trn X (gm_nxt X f n - 1)) then n + 1 else gm_nxt X f n) := rfl
    by_cases hc : X 8 n = 0 ∧ (f = 0 ∨ X 7 n = 0) ∧ (gm_nxt X f n = 0 ∨ gm_trn X n < gm_trn X (gm_nxt X f n - 1))
    · rw [hu, if_pos hc] at h; omega
    · rw [hu, if_neg hc] at h
      rcases Nat.lt_succ_iff_lt_or_eq.mp hj with g | g
      · exact gp_nxt_no n h j g h8 h7
      · subst g; exact hc ⟨h8, h7, Or.inl h⟩
theorem gp_nxt_min {X : gm_M} {f : Nat} : ∀ n : Nat, gm_nxt X f n ≠ 0 → ∀ j, j < n → X 8 j = 0 → (f = 0 ∨ X 7 j = 0) → gm_trn X (gm_nxt X f n - 1) ≤ gm_trn X j
  | 0, _, j, hj, _, _ => absurd hj (Nat.not_lt_zero _)
  | n + 1, h, j, hj, h8, h7 => by
    have hu : gm_nxt X f (n + 1) = (if X 8 n = 0 ∧ (f = 0 ∨ X 7 n = 0) ∧ (gm_nxt X f n = 0 ∨ gm_trn X n < gm_trn X (gm_nxt X f n - 1)) then n + 1 else gm_nxt X f n) := rfl
    by_cases hc : X 8 n = 0 ∧ (f = 0 ∨ X 7 n = 0) ∧ (gm_nxt X f n = 0 ∨ gm_trn X n < gm_trn X (gm_nxt X f n - 1))
    · rw [hu, if_pos hc, Nat.add_sub_cancel]
      rcases Nat.lt_succ_iff_lt_or_eq.mp hj with g | g
      · rcases hc.2.2 with q | q
        · exact (gp_nxt_no n q j g h8 h7).elim
        · have h0 : gm_nxt X f n ≠ 0 ∨ gm_nxt X f n = 0 := by omega
          rcases h0 with h0 | h0
          · have := gp_nxt_min n h0 j g h8 h7; omega
          · exact (gp_nxt_no n h0 j g h8 h7).elim
      · rw [g]; exact Nat.le_refl _
    · rw [hu, if_neg hc] at h ⊢
      rcases Nat.lt_succ_iff_lt_or_eq.mp hj with g | g
      · exact gp_nxt_min n h j g h8 h7
      · subst g
        exact Nat.le_of_not_lt (fun q => hc ⟨h8, h7, Or.inr q⟩)
theorem gp_nxt_is {X : gm_M} {f n j : Nat} (hn : n ≤ 16) (hj : j < n) (h8 : X 8 j = 0) (h7 : f = 0 ∨ X 7 j = 0) (hmin : ∀ i, i < n → X 8 i = 0 → (f = 0 ∨ X 7 i = 0) → gm_trn X j ≤ gm_trn X i) : gm_nxt X f n = j + 1 := by
  have h0 : gm_nxt X f n ≠ 0 := fun q => gp_nxt_no n q j hj h8 h7
  have h1 := gp_nxt_min n h0 j hj h8 h7
  have hl := gm_nxt_le X f n
  have ho := gm_nxt_ok n h0
  have h2 := hmin (gm_nxt X f n - 1) (by omega) ho.1 ho.2
  have := gp_trn_inj (M := X) (s := gm_nxt X f n - 1) (t := j) (by omega) (by omega) (by omega)
  omega
/-- what filling leaves as it was -/
theorem gp_ft {M : gm_M} (k i : Nat) {x : Nat} (h3 : x ≠ 3) (h7 : x ≠ 7) (h13 : x ≠ 13) : gm_fil (gm_tk M) k x i = M x i := (gm_fil_ne _ i h3 h7 h13 k).trans (gm_tk_ne M i h7)
theorem gp_ft_trn {M : gm_M} (k i : Nat) : gm_trn (gm_fil (gm_tk M) k) i = gm_trn M i := gm_trn_congr (gp_ft k 0 (by decide) (by decide) (by decide)) (gp_ft k i (by decide) (by decide) (by decide)) (gp_ft k i (by decide) (by decide) (by decide))
/-- all of the first t in the row lie on stones -/
def gp_on (M X : gm_M) (nk t : Nat) : Prop := ∀ j, j < nk → M 8 j = 0 → gm_cnt M j nk < t → X 7 j ≠ 0
theorem gp_fil_none {M : gm_M} {k nk : Nat} (hk : M 11 0 = nk) (hon : gp_on M (gm_fil (gm_tk M) k) nk (gp_un M nk)) : gm_nxt (gm_fil (gm_tk M) k) 1 (gm_fil (gm_tk M) k 11 0) = 0 := by
  refine Decidable.byContradiction (fun h => ?_)
  have e11 : gm_fil (gm_tk M) k 11 0 = nk := (gp_ft k 0 (by decide) (by decide) (by decide)).trans hk
  rw [e11] at h
  have hl := gm_nxt_le (gm_fil (gm_tk M) k) 1 nk
  have ho := gm_nxt_ok _ h
  have h8 := ho.1
  rw [gp_ft k _ (by decide) (by decide) (by decide)] at h8
  refine hon _ (by omega) h8 (gp_cnt_lt h8 nk (by omega)) (ho.2.resolve_left (by decide))
theorem gp_fil_one {M : gm_M} {k nk t j : Nat} (hk : M 11 0 = nk) (h16 : nk ≤ 16) (hon : gp_on M (gm_fil (gm_tk M) k) nk t) (hj : j < nk) (h8 : M 8 j = 0) (hc : gm_cnt M j nk = t) (h7 : gm_fil (gm_tk M) k 7 j = 0) : gm_nxt (gm_fil (gm_tk M) k) 1 (gm_fil (gm_tk M) k 11 0) = j + 1 := by
  have e11 : gm_fil (gm_tk M) k 11 0 = nk := (gp_ft k 0 (by decide) (by decide) (by decide)).trans hk
  rw [e11]
  refine gp_nxt_is h16 hj (by rw [gp_ft k _ (by decide) (by decide) (by decide)]; exact h8) (Or.inr h7) (fun i hi g8 g7 => ?_)
  rw [gp_ft k _ (by decide) (by decide) (by decide)] at g8
  rw [gp_ft_trn, gp_ft_trn]
  refine Nat.le_of_not_lt (fun q => ?_)
  have := gp_cnt_str q g8 nk hi
  exact hon i hi g8 (by omega) (g7.resolve_left (by decide))
theorem gk_pa3 (A B C : va_W) : (A ++ (B ++ C)).Perm ((A ++ B) ++ C) := by rw [List.append_assoc]
theorem gk_pa3' (A B C : va_W) : ((A ++ B) ++ C).Perm (A ++ (B ++ C)) := by rw [List.append_assoc]
set_option maxRecDepth 100000 in
set_option maxHeartbeats 2000000 in
theorem sp_2 {p : Program} {l : Launch} {e : Env} {s : State} {m : MethodId} {below : List Frame} {meth : Method} {c : Code} {D : va_G} {A : Nat → Prop} {Q : State → Prop} {cI cZ cJ : ClassId} {a : Nat} {q : Nat → Nat} {F W0 : Nat → Int32} {nm nk : Nat} {fS fK : Nat → Option Nat} {Sx Kx : Nat → Nat} {T V : Nat → Nat → Int32} {M : gm_M}  (G : gk_G p s m ([.ref a] : List Value).toArray meth c RX2 9 cX2_pass none wsX2_pass D (g_T cI cZ cJ) A) (o : Nat) (fo : Nat → Int32) (hr : gp_rep F W0 T V (gm_tk M)) (ho : gp_ord M nk fo) (wf : gm_wf M) (hm : M 10 0 = nm) (hk : M 11 0 = nk) (hfS : gp_rows fS Sx nm) (hfK : gp_rows fK Kx nk) (hh : M 9 0 < 2000000) (K : ∀ (ls : Nat) (fl F1 : Nat → Int32) (T1 : Nat → Nat → Int32), gp_rep F1 W0 T1 V (gm_h1 M) → (∀ i, i < nm → fl i = nI (gm_h1 M 3 i)) → gk_C p l e ({ frames := 1, cells := 2, slots := 20, locals := 25 } : Room) s m ([.ref a] : List Value).toArray below meth c 9 D A Q 2 20 (gw_R cI ls nm fl ++ (gw_R cI o (gp_un M nk) fo ++ (gp_W cI cJ a q F1 W0 nm nk fS fK Sx Kx T1 V))) [(0, .ref a), (2, .int (nI (gm_wnd M))), (3, .ref ls)] 223 []) : gk_C p l e ({ frames := 1, cells := 2, slots := 20, locals := 25 } : Room) s m ([.ref a] : List Value).toArray below meth c 9 D A Q 1 16 (gw_R cI o (gp_un M nk) fo ++ (gp_W cI cJ a q F W0 nm nk fS fK Sx Kx T V)) [(0, .ref a), (1, .ref o)] 103 [] := by
  obtain ⟨hz1, hz2, hz3, hz4, hz5, hz6, hz7, hz8⟩ := id wf
  have t9 : gm_tk M 9 0 = M 9 0 := gm_tk_ne M 0 (by decide)
  have t10 : gm_tk M 10 0 = nm := (gm_tk_ne M 0 (by decide)).trans hm
  have t11 : gm_tk M 11 0 = nk := (gm_tk_ne M 0 (by decide)).trans hk
  have hinX2 : ∀ w ∈ wsX20, w ∈ wsX2_pass := fun w h9 => (List.mem_cons_of_mem _ (List.mem_append_right _ h9))
  have k7 := G.2.2.2.2.1 (.fieldLink RX2 7 "GustMillLaw$Sim" "wind" "[I") (List.mem_cons_of_mem _ (List.mem_append_left _ (List.mem_of_getElem? (i := 2) rfl)))
  have k14 := G.2.2.2.2.1 (.fieldLink RX2 14 "GustMillLaw$Sim" "stones" "[[I") (List.mem_cons_of_mem _ (List.mem_append_left _ (List.mem_of_getElem? (i := 0) rfl)))
  have k33 := G.2.2.2.2.1 (.fieldLink RX2 33 "GustMillLaw$Sim" "hour" "I") (List.mem_cons_of_mem _ (List.mem_append_left _ (List.mem_of_getElem? (i := 3) rfl)))
  have k40 := G.2.2.2.2.1 (.fieldLink RX2 40 "GustMillLaw$Sim" "changes" "I") (List.mem_cons_of_mem _ (List.mem_append_left _ (List.mem_of_getElem? (i := 5) rfl)))
  refine gk_aload_n G dX2_pass_103 0 rfl ?_
  refine gk_get (v' := .ref (q 0)) G hinX2 (q0 := 1) rfl rfl 5 (by decide) k7 rfl rfl dX2_pass_104 ?_
  refine gk_aload_n G dX2_pass_107 0 rfl ?_
  refine gk_get (v' := .int (nI ((gm_tk M) 9 0))) G hinX2 (q0 := 1) rfl rfl 0 (by decide) k33 rfl (congrArg Value.int (hr.1.1)) dX2_pass_108 ?_
  refine gk_bipush (v := nI 12) G dX2_pass_111 (by decide) ?_
  refine gk_irem (v := nI (gm_tk M 9 0 % 12)) G dX2_pass_113 (by decide) (pk_rem (by omega) (by decide) (by decide)) ?_
  refine gk_iald (v := nI (gm_wnd M)) G (q0 := 2) (t0 := 0) rfl rfl (gm_tk M 9 0 % 12) rfl (Nat.mod_lt _ (by decide)) (by decide) (by rw [t9]; exact (hr.2.1 _ (Nat.mod_lt _ (by decide))).trans (congrArg nI (gm_tk_ne M _ (by decide)))) dX2_pass_114 ?_
  refine gk_istore_n (lv' := [(2, .int (nI (gm_wnd M))), (0, .ref a), (1, .ref o)]) G dX2_pass_115 rfl (by decide) rfl ?_
  refine gk_aload_n G dX2_pass_116 1 rfl ?_
  refine gk_get (v' := .ref (q 1)) G hinX2 (q0 := 1) rfl rfl 6 (by decide) k14 rfl rfl dX2_pass_117 ?_
  refine gk_alen (v := nI nm) G (q0 := 3) (t0 := 2) rfl rfl rfl dX2_pass_120 ?_
  refine gk_newa (cI := cI) (atype := .int) (N := nm) (a0 := (nm, .inl (fun _ => 0))) G (G.2.2.2.2.1 (.arrayClass .int) (List.mem_cons_of_mem _ (List.mem_append_left _ (List.mem_of_getElem? (i := 4) rfl)))) rfl (fun C h => by cases h) 0 rfl (fun _ => rfl) rfl (by omega) (by show nm * 4 ≤ 536870912; omega) (Nat.le_of_ble_eq_true rfl) (by show 16 + nm ≤ 20; omega) dX2_pass_121 (fun ls => ?_)
  refine gk_widen (k := 2) (n := 20) (Nat.le_of_ble_eq_true rfl) (by omega) (gk_rot ?_)
  show gk_C p l e ({ frames := 1, cells := 2, slots := 20, locals := 25 } : Room) s m ([.ref a] : List Value).toArray below meth c 9 D A Q 2 20 (gw_R cI ls nm (fun _ => 0) ++ (gw_R cI o (gp_un M nk) fo ++ (gp_W cI cJ a q F W0 nm nk fS fK Sx Kx T V))) [(2, .int (nI (gm_wnd M))), (0, .ref a), (1, .ref o)] 123 [.ref ls]
  refine gk_astore_n (lv' := [(3, .ref ls), (2, .int (nI (gm_wnd M))), (0, .ref a), (1, .ref o)]) G dX2_pass_123 rfl (by decide) rfl ?_
  have L130 : ∀ (n : Nat) (k t : Nat) (F1 : Nat → Int32) (T1 : Nat → Nat → Int32) (fl : Nat → Int32), nm - k < n → (k ≤ nm) → (gp_rep F1 W0 T1 V (gm_fil (gm_tk M) k)) → (t ≤ gp_un M nk) → (gp_on M (gm_fil (gm_tk M) k) nk t) → (∀ i, i < k → fl i = nI ((gm_fil (gm_tk M) k) 3 i)) → (∀ i, k ≤ i → fl i = 0) → gk_C p l e ({ frames := 1, cells := 2, slots := 20, locals := 25 } : Room) s m ([.ref a] : List Value).toArray below meth c 9 D A Q 2 20 (gw_R cI ls nm fl ++ (gw_R cI o (gp_un M nk) fo ++ (gp_W cI cJ a q F1 W0 nm nk fS fK Sx Kx T1 V))) [(0, .ref a), (1, .ref o), (2, .int (nI (gm_wnd M))), (3, .ref ls), (4, .int (nI t)), (5, .int (nI k))] 130 [] := by
    intro n
    induction n with
    | zero => intro k t F1 T1 fl h0; exact absurd h0 (Nat.not_lt_zero _)
    | succ n ih =>
      intro k t F1 T1 fl h0 w0 w1 w2 w3 w4 w5
      refine gk_iload G dX2_pass_130 5 rfl ?_
      refine gk_aload_n G dX2_pass_132 0 rfl ?_
      refine gk_get (v' := .ref (q 1)) G hinX2 (q0 := 2) rfl rfl 6 (by decide) k14 rfl rfl dX2_pass_133 ?_
      refine gk_alen (v := nI nm) G (q0 := 4) (t0 := 2) rfl rfl rfl dX2_pass_136 ?_
      refine gk_icmp_ge (tgt := 223) G dX2_pass_137 (by decide) (fun c_137 => ?_) (fun c_137 => ?_)
      · replace c_137 := (nI_leI (a := nm) (b := k) (by omega) (by omega)).mp c_137
        have ek : gm_fil (gm_tk M) k = gm_h1 M := by
          unfold gm_h1
          rw [show M 10 0 = k by omega]
        rw [ek] at w1 w4
        exact gk_lsub [0,2,3] rfl (K ls fl F1 T1 w1 (fun i hi => w4 i (by omega)))
      · replace c_137 := (not_congr (nI_leI (a := nm) (b := k) (by omega) (by omega))).mp c_137
        have x10 : gm_fil (gm_tk M) k 10 0 = nm := (gp_ft k 0 (by decide) (by decide) (by decide)).trans hm
        have x11 : gm_fil (gm_tk M) k 11 0 = nk := (gp_ft k 0 (by decide) (by decide) (by decide)).trans hk
        have wfX : gm_wf (gm_fil (gm_tk M) k) := gm_fil_wf (gm_tk_wf wf) k (by rw [gm_tk_ne M 0 (by decide)]; omega)
        have hun := gp_un_le M nk
        have hwl := gm_who_le (gm_fil (gm_tk M) k) k (gm_fil (gm_tk M) k 11 0)
        refine gk_aload_n G dX2_pass_140 0 rfl ?_
        refine gk_get (v' := .ref (q 1)) G hinX2 (q0 := 2) rfl rfl 6 (by decide) k14 rfl rfl dX2_pass_141 ?_
        refine gk_iload G dX2_pass_144 5 rfl ?_
        refine gk_aald (v := Sx k) G (q0 := 4) (t0 := 2) rfl rfl k rfl (by omega) (by omega) (hfS k (by omega)) dX2_pass_146 ?_
        refine gk_iconst (v := nI 1) G dX2_pass_147 (by decide) ?_
        refine gk_iald (v := gm_e (gm_who (gm_fil (gm_tk M) k) k ((gm_fil (gm_tk M) k) 11 0))) G (q0 := (k + 4 + 1 + 1)) (t0 := 0) (gp_s1 (gp_s1 (gp_atS (by omega)))) rfl 1 rfl (by decide) (by decide) (w1.2.2.2.1 k (by omega)) dX2_pass_148 ?_
        refine gk_if_lt (tgt := 155) G dX2_pass_149 (by decide) (fun c_149 => ?_) (fun c_149 => ?_)
        · replace c_149 := (gp_e_lt (n := gm_who (gm_fil (gm_tk M) k) k ((gm_fil (gm_tk M) k) 11 0)) (by omega)).mp c_149
          have J179 : ∀ t2 : Nat, t2 ≤ gp_un M nk → gp_on M (gm_fil (gm_tk M) k) nk t2 → (∀ j, j < nk → M 8 j = 0 → gm_cnt M j nk = t2 → (gm_fil (gm_tk M) k) 7 j = 0) → gk_C p l e ({ frames := 1, cells := 2, slots := 20, locals := 25 } : Room) s m ([.ref a] : List Value).toArray below meth c 9 D A Q 2 20 (gw_R cI ls nm fl ++ (gw_R cI o (gp_un M nk) fo ++ (gp_W cI cJ a q F1 W0 nm nk fS fK Sx Kx T1 V))) [(0, .ref a), (1, .ref o), (2, .int (nI (gm_wnd M))), (3, .ref ls), (4, .int (nI t2)), (5, .int (nI k))] 179 [] := by
            intro t2 x1 x2 x3
            refine gk_iload G dX2_pass_179 4 rfl ?_
            refine gk_aload_n G dX2_pass_181 1 rfl ?_
            refine gk_alen (v := nI (gp_un M nk)) G (q0 := 1) (t0 := 0) rfl rfl rfl dX2_pass_182 ?_
            refine gk_icmp_ne (tgt := 189) G dX2_pass_183 (by decide) (fun c_183 => ?_) (fun c_183 => ?_)
            · replace c_183 := (not_congr (nI_eq (a := t2) (b := gp_un M nk) (by omega) (by omega))).mp c_183
              obtain ⟨sx, hs1, hs2, hs3⟩ := gp_cnt_sur (M := M) nk (by omega) t2 (by omega)
              have hf : fo t2 = nI sx := by rw [← hs3]; exact ho sx hs1 hs2
              have x7 := x3 sx hs1 hs2 hs3
              have hnx := gp_fil_one (k := k) hk (by omega) x2 hs1 hs2 hs3 x7
              have fe : gm_fil (gm_tk M) (k + 1) = gm_set (gm_put (gm_fil (gm_tk M) k) k sx) 3 k 1 := by
                have := gm_fs_2 (X := (gm_fil (gm_tk M) k)) (m := k) (by omega) (by omega)
                rw [hnx, Nat.add_sub_cancel] at this; exact this
              refine gk_aload_n G dX2_pass_189 0 rfl ?_
              refine gk_get (v' := .ref (q 1)) G hinX2 (q0 := 2) rfl rfl 6 (by decide) k14 rfl rfl dX2_pass_190 ?_
              refine gk_iload G dX2_pass_193 5 rfl ?_
              refine gk_aald (v := Sx k) G (q0 := 4) (t0 := 2) rfl rfl k rfl (by omega) (by omega) (hfS k (by omega)) dX2_pass_195 ?_
              refine gk_iconst (v := nI 1) G dX2_pass_196 (by decide) ?_
              refine gk_aload_n G dX2_pass_197 1 rfl ?_
              refine gk_iload G dX2_pass_198 4 rfl ?_
              refine gk_iald (v := nI sx) G (q0 := 1) (t0 := 0) rfl rfl t2 rfl (by omega) (by omega) hf dX2_pass_200 ?_
              refine gk_topi (fun v201 ev201 => ?_)
              refine gk_iast (w' := (gw_R cI ls nm fl ++ (gw_R cI o (gp_un M nk) fo ++ (gp_W cI cJ a q F1 W0 nm nk fS fK Sx Kx (gc_up T1 k (upd (T1 k) 1 v201)) V)))) G (q0 := (k + 4 + 1 + 1)) (t0 := 0) (gp_s1 (gp_s1 (gp_atS (by omega)))) rfl 1 rfl (by decide) (by decide) (gp_t1 (gp_t1 (gp_setS (by omega) _))) dX2_pass_201 ?_
              generalize eT201 : gc_up T1 k (upd (T1 k) 1 v201) = T201
              refine gk_aload_n G dX2_pass_202 3 rfl ?_
              refine gk_iload G dX2_pass_203 5 rfl ?_
              refine gk_iconst (v := nI 1) G dX2_pass_205 (by decide) ?_
              refine gk_topi (fun v206 ev206 => ?_)
              refine gk_iast (w' := (gw_R cI ls nm (upd fl k v206) ++ (gw_R cI o (gp_un M nk) fo ++ (gp_W cI cJ a q F1 W0 nm nk fS fK Sx Kx T201 V)))) G (q0 := 0) (t0 := 0) rfl rfl k rfl (by omega) (by omega) rfl dX2_pass_206 ?_
              refine gk_aload_n G dX2_pass_207 0 rfl ?_
              refine gk_dup G dX2_pass_208 rfl ?_
              refine gk_get (v' := .int (nI ((gm_fil (gm_tk M) k) 13 0))) G hinX2 (q0 := 2) rfl rfl 3 (by decide) k40 rfl (congrArg Value.int (w1.1.2.2.2.1)) dX2_pass_209 ?_
              refine gk_iconst (v := nI 1) G dX2_pass_212 (by decide) ?_
              refine gk_iadd (v := nI (((gm_fil (gm_tk M) k) 13 0) + 1)) G dX2_pass_213 (nI_add ((gm_fil (gm_tk M) k) 13 0) 1) ?_
              refine gk_topi (fun v214 ev214 => ?_)
              refine gk_put (w' := (gw_R cI ls nm (upd fl k v206) ++ (gw_R cI o (gp_un M nk) fo ++ (gp_W cI cJ a q (upd F1 3 v214) W0 nm nk fS fK Sx Kx T201 V)))) G hinX2 tyX2_ok nmX2 (q0 := 2) rfl rfl 3 (by decide) k40 rfl rfl rfl (Nat.le_of_ble_eq_true rfl) rfl dX2_pass_214 ?_
              generalize eF214 : upd F1 3 v214 = F214
              refine gk_iinc (j := 5) (v := nI (k + 1)) (lv' := [(5, .int (nI (k + 1))), (0, .ref a), (1, .ref o), (2, .int (nI (gm_wnd M))), (3, .ref ls), (4, .int (nI t2))]) G dX2_pass_217 rfl (nI_add k 1) (by decide) rfl ?_
              refine gk_goto (tgt := 130) G dX2_pass_220 (by decide) ?_
              have r9 : gp_rep F214 W0 T201 V (gm_fil (gm_tk M) (k + 1)) := by
                rw [fe]
                refine gp_rep_same ?_ (gm_same_set3 _ _ _)
                subst eT201; subst eF214; subst ev201; subst ev214
                exact gp_rep_put w1 (by omega) x7 (by omega)
              have f9 : ∀ i, i < k + 1 → (upd fl k v206) i = nI (gm_fil (gm_tk M) (k + 1) 3 i) := fun i hi => by
                rw [fe]
                by_cases hik : i = k
                · rw [hik, gm_set_at, pk_us]; exact ev206
                · rw [gm_set_i _ _ hik, gm_put_ne _ _ _ _ (by decide) (by decide), pk_un hik]; exact w4 i (by omega)
              have o9 : gp_on M (gm_fil (gm_tk M) (k + 1)) nk t2 := fun j a1 a2 a3 => by
                rw [fe, gm_set_k _ _ (by decide), gm_put_7]
                split
                · exact Nat.succ_ne_zero _
                · exact x2 j a1 a2 a3
              exact gk_lsub [1,2,3,4,5,0] rfl (ih (k + 1) t2 _ _ _ (by omega) (by omega) r9 x1 o9 f9 (fun i hi => by rw [pk_un (by omega)]; exact w5 i (by omega)))
            · replace c_183 := (nI_eq (a := t2) (b := gp_un M nk) (by omega) (by omega)).mp c_183
              have et : t2 = gp_un M nk := by omega
              rw [et] at x2
              have hnx := gp_fil_none (k := k) hk x2
              have fe : gm_fil (gm_tk M) (k + 1) = gm_set (gm_fil (gm_tk M) k) 3 k 0 := gm_fs_1 (by omega) hnx
              refine gk_goto (tgt := 217) G dX2_pass_186 (by decide) ?_
              refine gk_iinc (j := 5) (v := nI (k + 1)) (lv' := [(5, .int (nI (k + 1))), (0, .ref a), (1, .ref o), (2, .int (nI (gm_wnd M))), (3, .ref ls), (4, .int (nI t2))]) G dX2_pass_217 rfl (nI_add k 1) (by decide) rfl ?_
              refine gk_goto (tgt := 130) G dX2_pass_220 (by decide) ?_
              have r9 : gp_rep F1 W0 T1 V (gm_fil (gm_tk M) (k + 1)) := by rw [fe]; exact gp_rep_same w1 (gm_same_set3 _ _ _)
              have f9 : ∀ i, i < k + 1 → fl i = nI (gm_fil (gm_tk M) (k + 1) 3 i) := fun i hi => by
                rw [fe]
                by_cases hik : i = k
                · rw [hik, gm_set_at]; exact w5 k (Nat.le_refl _)
                · rw [gm_set_i _ _ hik]; exact w4 i (by omega)
              have o9 : gp_on M (gm_fil (gm_tk M) (k + 1)) nk t2 := fun j a1 a2 a3 => by rw [fe, gm_set_k _ _ (by decide)]; exact (et ▸ x2) j a1 a2 a3
              exact gk_lsub [1,2,3,4,5,0] rfl (ih (k + 1) t2 F1 T1 fl (by omega) (by omega) r9 x1 o9 f9 (fun i hi => w5 i (by omega)))
          have L155 : ∀ (n : Nat) (t1 : Nat), gp_un M nk - t1 < n → (t1 ≤ gp_un M nk) → (gp_on M (gm_fil (gm_tk M) k) nk t1) → gk_C p l e ({ frames := 1, cells := 2, slots := 20, locals := 25 } : Room) s m ([.ref a] : List Value).toArray below meth c 9 D A Q 2 20 (gw_R cI ls nm fl ++ (gw_R cI o (gp_un M nk) fo ++ (gp_W cI cJ a q F1 W0 nm nk fS fK Sx Kx T1 V))) [(0, .ref a), (1, .ref o), (2, .int (nI (gm_wnd M))), (3, .ref ls), (4, .int (nI t1)), (5, .int (nI k))] 155 [] := by
            intro n
            induction n with
            | zero => intro t1 h0; exact absurd h0 (Nat.not_lt_zero _)
            | succ n ih7 =>
              intro t1 h0 u0 u1
              refine gk_iload G dX2_pass_155 4 rfl ?_
              refine gk_aload_n G dX2_pass_157 1 rfl ?_
              refine gk_alen (v := nI (gp_un M nk)) G (q0 := 1) (t0 := 0) rfl rfl rfl dX2_pass_158 ?_
              refine gk_icmp_ge (tgt := 179) G dX2_pass_159 (by decide) (fun c_159 => ?_) (fun c_159 => ?_)
              · replace c_159 := (nI_leI (a := gp_un M nk) (b := t1) (by omega) (by omega)).mp c_159
                have fin := True.intro
                exact gk_lsub [0,1,2,3,4,5] rfl (J179 t1 u0 u1 (fun j a1 a2 a3 => by
                  first
                  | (have := gp_cnt_lt a2 nk a1; omega)
                  | (rw [gp_cnt_inj a1 hs1 (by omega) a2 hs2 (by rw [a3, hs3])]; omega)))
              · replace c_159 := (not_congr (nI_leI (a := gp_un M nk) (b := t1) (by omega) (by omega))).mp c_159
                obtain ⟨sx, hs1, hs2, hs3⟩ := gp_cnt_sur (M := M) nk (by omega) t1 (by omega)
                have hf : fo t1 = nI sx := by rw [← hs3]; exact ho sx hs1 hs2
                have h7l := (wfX.2.2.2.2.2.2.1 sx (by omega)).2.2.2.2.1
                refine gk_aload_n G dX2_pass_162 0 rfl ?_
                refine gk_aload_n G dX2_pass_163 1 rfl ?_
                refine gk_iload G dX2_pass_164 4 rfl ?_
                refine gk_iald (v := nI sx) G (q0 := 1) (t0 := 0) rfl rfl t1 rfl (by omega) (by omega) hf dX2_pass_166 ?_
                refine gp_callIV (wr := (gw_R cI ls nm fl ++ gw_R cI o (gp_un M nk) fo)) G (c2_stoneOf l D cI cZ cJ a q F1 W0 nm nk fS fK Sx Kx T1 V (gm_fil (gm_tk M) k) sx wfX w1 x10 x11 hfS hfK hs1) gX2_pass_X2_stoneOf rfl 1 (by decide +kernel) rfl rfl ⟨(Nat.le_of_ble_eq_true rfl), (Nat.le_of_ble_eq_true rfl)⟩ rfl (q0 := 0) rfl (T := TX2) (N := 8) rfl gk_ok0 trivial (gk_pa3 _ _ _) rfl (Nat.le_of_ble_eq_true rfl) dX2_pass_167 ⟨(Nat.le_of_ble_eq_true rfl), (Nat.le_of_ble_eq_true rfl)⟩ (fun r167 u167 hp167 => ?_)
                rw [show r167 = gm_e ((gm_fil (gm_tk M) k) 7 sx) from hp167]
                refine gk_perm (gk_pa3' _ _ _) ?_
                show gk_C p l e ({ frames := 1, cells := 2, slots := 20, locals := 25 } : Room) s m ([.ref a] : List Value).toArray below meth c 9 D A Q 2 20 (gw_R cI ls nm fl ++ (gw_R cI o (gp_un M nk) fo ++ (gp_W cI cJ a q F1 W0 nm nk fS fK Sx Kx T1 V))) [(0, .ref a), (1, .ref o), (2, .int (nI (gm_wnd M))), (3, .ref ls), (4, .int (nI t1)), (5, .int (nI k))] 170 [.int (gm_e ((gm_fil (gm_tk M) k) 7 sx))]
                refine gk_if_lt (tgt := 179) G dX2_pass_170 (by decide) (fun c_170 => ?_) (fun c_170 => ?_)
                · replace c_170 := (gp_e_lt (n := (gm_fil (gm_tk M) k) 7 sx) (by omega)).mp c_170
                  exact gk_lsub [0,1,2,3,4,5] rfl (J179 t1 u0 u1 (fun j a1 a2 a3 => by
                    first
                    | (have := gp_cnt_lt a2 nk a1; omega)
                    | (rw [gp_cnt_inj a1 hs1 (by omega) a2 hs2 (by rw [a3, hs3])]; omega)))
                · replace c_170 := (not_congr (gp_e_lt (n := (gm_fil (gm_tk M) k) 7 sx) (by omega))).mp c_170
                  refine gk_iinc (j := 4) (v := nI (t1 + 1)) (lv' := [(4, .int (nI (t1 + 1))), (0, .ref a), (1, .ref o), (2, .int (nI (gm_wnd M))), (3, .ref ls), (5, .int (nI k))]) G dX2_pass_173 rfl (nI_add t1 1) (by decide) rfl ?_
                  refine gk_goto (tgt := 155) G dX2_pass_176 (by decide) ?_
                  exact gk_lsub [1,2,3,4,0,5] rfl (ih7 (t1 + 1) (by omega) (by omega) (fun j a1 a2 a3 => by
                    rcases Nat.lt_succ_iff_lt_or_eq.mp a3 with g9 | g9
                    · exact u1 j a1 a2 g9
                    · rw [gp_cnt_inj a1 hs1 (by omega) a2 hs2 (by rw [g9, hs3])]; omega))
          exact gk_lsub [0,1,2,3,4,5] rfl (L155 (gp_un M nk + 1) t (by omega) w2 w3)
        · replace c_149 := (not_congr (gp_e_lt (n := gm_who (gm_fil (gm_tk M) k) k ((gm_fil (gm_tk M) k) 11 0)) (by omega))).mp c_149
          have fe : gm_fil (gm_tk M) (k + 1) = gm_set (gm_fil (gm_tk M) k) 3 k 0 := gm_fs_0 (by omega)
          refine gk_goto (tgt := 217) G dX2_pass_152 (by decide) ?_
          refine gk_iinc (j := 5) (v := nI (k + 1)) (lv' := [(5, .int (nI (k + 1))), (0, .ref a), (1, .ref o), (2, .int (nI (gm_wnd M))), (3, .ref ls), (4, .int (nI t))]) G dX2_pass_217 rfl (nI_add k 1) (by decide) rfl ?_
          refine gk_goto (tgt := 130) G dX2_pass_220 (by decide) ?_
          have r9 : gp_rep F1 W0 T1 V (gm_fil (gm_tk M) (k + 1)) := by rw [fe]; exact gp_rep_same w1 (gm_same_set3 _ _ _)
          have f9 : ∀ i, i < k + 1 → fl i = nI (gm_fil (gm_tk M) (k + 1) 3 i) := fun i hi => by
            rw [fe]
            by_cases hik : i = k
            · rw [hik, gm_set_at]; exact w5 k (Nat.le_refl _)
            · rw [gm_set_i _ _ hik]; exact w4 i (by omega)
          have o9 : gp_on M (gm_fil (gm_tk M) (k + 1)) nk t := fun j a1 a2 a3 => by rw [fe, gm_set_k _ _ (by decide)]; exact w3 j a1 a2 a3
          exact gk_lsub [1,2,3,4,5,0] rfl (ih (k + 1) t F1 T1 fl (by omega) (by omega) r9 w2 o9 f9 (fun i hi => w5 i (by omega)))
  refine gk_iconst (v := nI 0) G dX2_pass_124 (by decide) ?_
  refine gk_istore (lv' := [(4, .int (nI 0)), (3, .ref ls), (2, .int (nI (gm_wnd M))), (0, .ref a), (1, .ref o)]) G dX2_pass_125 (by decide) rfl ?_
  refine gk_iconst (v := nI 0) G dX2_pass_127 (by decide) ?_
  refine gk_istore (lv' := [(5, .int (nI 0)), (4, .int (nI 0)), (3, .ref ls), (2, .int (nI (gm_wnd M))), (0, .ref a), (1, .ref o)]) G dX2_pass_128 (by decide) rfl ?_
  have t9 := L130 (nm + 1) 0 0 F T (fun _ => 0) (by omega) (by omega) hr (Nat.zero_le _) (fun j _ _ h9 => absurd h9 (Nat.not_lt_zero _)) (fun i h9 => absurd h9 (Nat.not_lt_zero _)) (fun i _ => rfl)
  exact gk_lsub [4,5,3,2,1,0] rfl t9
