/-- taking off, of the first k stones -/
def gp_tk (M : gm_M) (k : Nat) : gm_M := if M 15 0 = 0 then M else gm_tkc M k
theorem gp_tk_ne (M : gm_M) (k i : Nat) {x : Nat} (h : x ≠ 7) : gp_tk M k x i = M x i := by
  unfold gp_tk
  split
  · rfl
  · exact gm_tkc_ne M k i h
theorem gp_tk_who (M : gm_M) (k n : Nat) : gm_who (gp_tk M k) k n = gm_who M k n := by
  unfold gp_tk
  split
  · rfl
  · exact gm_tkc_who M k n
theorem gp_tk_0 (M : gm_M) : gm_same M (gp_tk M 0) := by
  unfold gp_tk
  split
  · exact gm_same_rf M
  · exact gm_tkc_0 M
theorem gp_tk_all {M : gm_M} (wf : gm_wf M) : gm_same (gp_tk M (M 10 0)) (gm_tk M) := by
  unfold gp_tk gm_tk
  split
  · exact gm_same_rf M
  · exact gm_tkc_all wf
theorem gp_tk_off {M : gm_M} {k : Nat} (h : M 15 0 = 0) : gm_same (gp_tk M k) (gp_tk M (k + 1)) := by
  unfold gp_tk
  rw [if_pos h, if_pos h]
  exact gm_same_rf M
theorem gp_tk_wanted {M : gm_M} (wf : gm_wf M) {k nm nk j : Nat} {fo : Nat → Int32} (h15 : M 15 0 ≠ 0) (hm : M 10 0 = nm) (hk : M 11 0 = nk) (ho : gp_ord M nk fo) (hj : j < gp_un M nk) (hjm : j < nm) (h : fo j = gm_e (gm_who M k (M 11 0))) : gm_same (gp_tk M k) (gp_tk M (k + 1)) := by
  unfold gp_tk
  rw [if_neg h15, if_neg h15]
  have h16 := wf.2.1
  obtain ⟨sx, a1, a2, a3⟩ := gp_cnt_sur (M := M) nk (by omega) j hj
  have e1 := ho sx a1 a2
  rw [a3, h, ← gm_eS sx] at e1
  have hwl := gm_who_le M k (M 11 0)
  have e2 := (gm_e_inj (by omega) (by omega)).mp e1
  have e3 := gm_who_on (M := M) (m := k) (M 11 0) (by omega)
  rw [e2] at e3
  refine gm_tkc_skip (fun i hi h7 => ?_)
  have := wf.2.2.2.2.2.2.2 i sx hi (by omega) (by rw [h7]; exact e3.symm) (by omega)
  rw [this, hk, a3, hm]; exact hjm
theorem gp_tk_clr {M : gm_M} (wf : gm_wf M) {k nm nk : Nat} {fo : Nat → Int32} (h15 : M 15 0 ≠ 0) (hm : M 10 0 = nm) (hk : M 11 0 = nk) (ho : gp_ord M nk fo) (h : ∀ j, j < gp_un M nk → j < nm → fo j ≠ gm_e (gm_who M k (M 11 0))) : gm_same (gm_clr (gp_tk M k) k) (gp_tk M (k + 1)) := by
  unfold gp_tk
  rw [if_neg h15, if_neg h15]
  refine gm_tkc_clr (fun i hi h7 => Nat.le_of_not_lt (fun hlt => ?_))
  have h7i := wf.2.2.2.2.2.2.1 i hi
  have h8 : M 8 i = 0 := Decidable.byContradiction (fun q9 => by have := (h7i.2.2.2.2.2.1 q9).1; omega)
  have hu := gp_cnt_lt h8 nk (by omega)
  rw [hk] at hlt
  refine h _ hu (by omega) ?_
  rw [ho i (by omega) h8, gm_who_is hi h7 (fun j hj h9 => wf.2.2.2.2.2.2.2 j i hj hi (by omega) (by omega)), gm_eS]
set_option maxRecDepth 100000 in
set_option maxHeartbeats 2000000 in
theorem sp_1 {p : Program} {l : Launch} {e : Env} {s : State} {m : MethodId} {below : List Frame} {meth : Method} {c : Code} {D : va_G} {A : Nat → Prop} {Q : State → Prop} {cI cZ cJ : ClassId} {a : Nat} {q : Nat → Nat} {F W0 : Nat → Int32} {nm nk : Nat} {fS fK : Nat → Option Nat} {Sx Kx : Nat → Nat} {T V : Nat → Nat → Int32} {M : gm_M}  (G : gk_G p s m ([.ref a] : List Value).toArray meth c RX2 9 cX2_pass none wsX2_pass D (g_T cI cZ cJ) A) (o : Nat) (fo : Nat → Int32) (hr : gp_rep F W0 T V M) (ho : gp_ord M nk fo) (wf : gm_wf M) (hm : M 10 0 = nm) (hk : M 11 0 = nk) (hfS : gp_rows fS Sx nm) (hfK : gp_rows fK Kx nk) (hh : M 9 0 < 2000000) (K : ∀ T1, gp_rep F W0 T1 V (gm_tk M) → gk_C p l e ({ frames := 1, cells := 2, slots := 20, locals := 25 } : Room) s m ([.ref a] : List Value).toArray below meth c 9 D A Q 1 16 (gw_R cI o (gp_un M nk) fo ++ (gp_W cI cJ a q F W0 nm nk fS fK Sx Kx T1 V)) [(0, .ref a), (1, .ref o)] 103 []) : gk_C p l e ({ frames := 1, cells := 2, slots := 20, locals := 25 } : Room) s m ([.ref a] : List Value).toArray below meth c 9 D A Q 1 16 (gw_R cI o (gp_un M nk) fo ++ (gp_W cI cJ a q F W0 nm nk fS fK Sx Kx T V)) [(0, .ref a), (1, .ref o), (2, .ref (q 1)), (3, .int (nI nm)), (4, .int (nI 0))] 16 [] := by
  obtain ⟨hz1, hz2, hz3, hz4, hz5, hz6, hz7, hz8⟩ := id wf
  have hinX2 : ∀ w ∈ wsX20, w ∈ wsX2_pass := fun w h9 => (List.mem_cons_of_mem _ (List.mem_append_right _ h9))
  have k14 := G.2.2.2.2.1 (.fieldLink RX2 14 "GustMillLaw$Sim" "stones" "[[I") (List.mem_cons_of_mem _ (List.mem_append_left _ (List.mem_of_getElem? (i := 0) rfl)))
  have k29 := G.2.2.2.2.1 (.fieldLink RX2 29 "GustMillLaw$Sim" "isAllowed" "Z") (List.mem_cons_of_mem _ (List.mem_append_left _ (List.mem_of_getElem? (i := 1) rfl)))
  have L16 : ∀ (n : Nat) (k : Nat) (T1 : Nat → Nat → Int32), nm - k < n → (k ≤ nm) → (gp_rep F W0 T1 V (gp_tk M k)) → gk_C p l e ({ frames := 1, cells := 2, slots := 20, locals := 25 } : Room) s m ([.ref a] : List Value).toArray below meth c 9 D A Q 1 16 (gw_R cI o (gp_un M nk) fo ++ (gp_W cI cJ a q F W0 nm nk fS fK Sx Kx T1 V)) [(0, .ref a), (1, .ref o), (2, .ref (q 1)), (3, .int (nI nm)), (4, .int (nI k))] 16 [] := by
    intro n
    induction n with
    | zero => intro k T1 h0; exact absurd h0 (Nat.not_lt_zero _)
    | succ n ih =>
      intro k T1 h0 w0 w1
      refine gk_iload G dX2_pass_16 4 rfl ?_
      refine gk_iload_n G dX2_pass_18 3 rfl ?_
      refine gk_icmp_ge (tgt := 103) G dX2_pass_19 (by decide) (fun c_19 => ?_) (fun c_19 => ?_)
      · replace c_19 := (nI_leI (a := nm) (b := k) (by omega) (by omega)).mp c_19
        exact gk_lsub [0,1] rfl (K _ (gp_rep_same w1 (by rw [show k = M 10 0 by omega]; exact gp_tk_all wf)))
      · replace c_19 := (not_congr (nI_leI (a := nm) (b := k) (by omega) (by omega))).mp c_19
        have y10 : gp_tk M k 10 0 = nm := (gp_tk_ne M k 0 (by decide)).trans hm
        have y11 : gp_tk M k 11 0 = nk := (gp_tk_ne M k 0 (by decide)).trans hk
        have y15 : gp_tk M k 15 0 = M 15 0 := gp_tk_ne M k 0 (by decide)
        have hun := gp_un_le M nk
        have yw : gm_who (gp_tk M k) k (gp_tk M k 11 0) = gm_who M k (M 11 0) := by rw [y11, hk, gp_tk_who]
        have J80 : ∀ wv : Int32, (wv = 0 → ∀ i, i < gp_un M nk → i < nm → fo i ≠ gm_e (gm_who M k (M 11 0))) → (wv ≠ 0 → ∃ i, i < gp_un M nk ∧ i < nm ∧ fo i = gm_e (gm_who M k (M 11 0))) → gk_C p l e ({ frames := 1, cells := 2, slots := 20, locals := 25 } : Room) s m ([.ref a] : List Value).toArray below meth c 9 D A Q 1 16 (gw_R cI o (gp_un M nk) fo ++ (gp_W cI cJ a q F W0 nm nk fS fK Sx Kx T1 V)) [(0, .ref a), (1, .ref o), (2, .ref (q 1)), (3, .int (nI nm)), (4, .int (nI k)), (5, .ref (Sx k)), (6, .int wv)] 80 [] := by
          intro wv v1 v2
          refine gk_aload_n G dX2_pass_80 0 rfl ?_
          refine gk_get (v' := .int (nI ((gp_tk M k) 15 0))) G hinX2 (q0 := 1) rfl rfl 2 (by decide) k29 rfl (congrArg Value.int (w1.1.2.2.1)) dX2_pass_81 ?_
          refine gk_if_eq (tgt := 97) G dX2_pass_84 (by decide) (fun c_84 => ?_) (fun c_84 => ?_)
          · replace c_84 := (nI_eq (a := (gp_tk M k) 15 0) (b := 0) (by omega) (by omega)).mp c_84
            have hsame := gp_tk_off (M := M) (k := k) (by omega)
            refine gk_iinc (j := 4) (v := nI (k + 1)) (lv' := [(4, .int (nI (k + 1))), (0, .ref a), (1, .ref o), (2, .ref (q 1)), (3, .int (nI nm)), (5, .ref (Sx k)), (6, .int wv)]) G dX2_pass_97 rfl (nI_add k 1) (by decide) rfl ?_
            refine gk_goto (tgt := 16) G dX2_pass_100 (by decide) ?_
            exact gk_lsub [1,2,3,4,0] rfl (ih (k + 1) _ (by omega) (by omega) (gp_rep_same w1 hsame))
          · replace c_84 := (not_congr (nI_eq (a := (gp_tk M k) 15 0) (b := 0) (by omega) (by omega))).mp c_84
            refine gk_iload G dX2_pass_87 6 rfl ?_
            refine gk_if_ne (tgt := 97) G dX2_pass_89 (by decide) (fun c_89 => ?_) (fun c_89 => ?_)
            · obtain ⟨j9, a1, a2, a3⟩ := v2 c_89
              have hsame := gp_tk_wanted wf (k := k) (by omega) hm hk ho a1 a2 a3
              refine gk_iinc (j := 4) (v := nI (k + 1)) (lv' := [(4, .int (nI (k + 1))), (0, .ref a), (1, .ref o), (2, .ref (q 1)), (3, .int (nI nm)), (5, .ref (Sx k)), (6, .int wv)]) G dX2_pass_97 rfl (nI_add k 1) (by decide) rfl ?_
              refine gk_goto (tgt := 16) G dX2_pass_100 (by decide) ?_
              exact gk_lsub [1,2,3,4,0] rfl (ih (k + 1) _ (by omega) (by omega) (gp_rep_same w1 hsame))
            · refine gk_aload G dX2_pass_92 5 rfl ?_
              refine gk_iconst (v := nI 1) G dX2_pass_94 (by decide) ?_
              refine gk_iconst (v := -1) G dX2_pass_95 (by decide) ?_
              refine gk_topi (fun v96 ev96 => ?_)
              refine gk_iast (w' := (gw_R cI o (gp_un M nk) fo ++ (gp_W cI cJ a q F W0 nm nk fS fK Sx Kx (gc_up T1 k (upd (T1 k) 1 v96)) V))) G (q0 := (k + 4 + 1)) (t0 := 0) (gp_s1 (gp_atS (by omega))) rfl 1 rfl (by decide) (by decide) (gp_t1 (gp_setS (by omega) _)) dX2_pass_96 ?_
              generalize eT96 : gc_up T1 k (upd (T1 k) 1 v96) = T96
              refine gk_iinc (j := 4) (v := nI (k + 1)) (lv' := [(4, .int (nI (k + 1))), (0, .ref a), (1, .ref o), (2, .ref (q 1)), (3, .int (nI nm)), (5, .ref (Sx k)), (6, .int wv)]) G dX2_pass_97 rfl (nI_add k 1) (by decide) rfl ?_
              refine gk_goto (tgt := 16) G dX2_pass_100 (by decide) ?_
              have r9 : gp_rep F W0 T96 V (gp_tk M (k + 1)) := gp_rep_same (by subst eT96; subst ev96; exact gp_rep_clr w1) (gp_tk_clr wf (by omega) hm hk ho (fun j9 a1 a2 => v1 c_89 j9 a1 a2))
              exact gk_lsub [1,2,3,4,0] rfl (ih (k + 1) _ (by omega) (by omega) r9)
        have L34 : ∀ (n : Nat) (j : Nat) (wv : Int32), (gp_un M nk + nm) - j < n → (j ≤ gp_un M nk) → (wv = 0 → ∀ i, i < j → i < gp_un M nk → i < nm → fo i ≠ gm_e (gm_who M k (M 11 0))) → (wv ≠ 0 → ∃ i, i < j ∧ i < gp_un M nk ∧ i < nm ∧ fo i = gm_e (gm_who M k (M 11 0))) → gk_C p l e ({ frames := 1, cells := 2, slots := 20, locals := 25 } : Room) s m ([.ref a] : List Value).toArray below meth c 9 D A Q 1 16 (gw_R cI o (gp_un M nk) fo ++ (gp_W cI cJ a q F W0 nm nk fS fK Sx Kx T1 V)) [(0, .ref a), (1, .ref o), (2, .ref (q 1)), (3, .int (nI nm)), (4, .int (nI k)), (5, .ref (Sx k)), (6, .int wv), (7, .int (nI j))] 34 [] := by
          intro n
          induction n with
          | zero => intro j wv h0; exact absurd h0 (Nat.not_lt_zero _)
          | succ n ih7 =>
            intro j wv h0 u0 u1 u2
            refine gk_iload G dX2_pass_34 7 rfl ?_
            refine gk_aload_n G dX2_pass_36 1 rfl ?_
            refine gk_alen (v := nI (gp_un M nk)) G (q0 := 0) (t0 := 0) rfl rfl rfl dX2_pass_37 ?_
            refine gk_icmp_ge (tgt := 80) G dX2_pass_38 (by decide) (fun c_38 => ?_) (fun c_38 => ?_)
            · replace c_38 := (nI_leI (a := gp_un M nk) (b := j) (by omega) (by omega)).mp c_38
              exact gk_lsub [0,1,2,3,4,5,6] rfl (J80 wv (fun h9 i a1 a2 => u1 h9 i (by omega) a1 a2) (fun h9 => by
                obtain ⟨i9, a1, a2, a3⟩ := u2 h9
                exact ⟨i9, a2, a3⟩))
            · replace c_38 := (not_congr (nI_leI (a := gp_un M nk) (b := j) (by omega) (by omega))).mp c_38
              refine gk_iload G dX2_pass_41 7 rfl ?_
              refine gk_aload_n G dX2_pass_43 0 rfl ?_
              refine gk_get (v' := .ref (q 1)) G hinX2 (q0 := 1) rfl rfl 6 (by decide) k14 rfl rfl dX2_pass_44 ?_
              refine gk_alen (v := nI nm) G (q0 := 3) (t0 := 2) rfl rfl rfl dX2_pass_47 ?_
              refine gk_icmp_ge (tgt := 80) G dX2_pass_48 (by decide) (fun c_48 => ?_) (fun c_48 => ?_)
              · replace c_48 := (nI_leI (a := nm) (b := j) (by omega) (by omega)).mp c_48
                exact gk_lsub [0,1,2,3,4,5,6] rfl (J80 wv (fun h9 i a1 a2 => u1 h9 i (by omega) a1 a2) (fun h9 => by
                  obtain ⟨i9, a1, a2, a3⟩ := u2 h9
                  exact ⟨i9, a2, a3⟩))
              · replace c_48 := (not_congr (nI_leI (a := nm) (b := j) (by omega) (by omega))).mp c_48
                refine gk_iload G dX2_pass_51 6 rfl ?_
                refine gk_if_ne (tgt := 67) G dX2_pass_53 (by decide) (fun c_53 => ?_) (fun c_53 => ?_)
                · have hyes : ∃ i, i < j + 1 ∧ i < gp_un M nk ∧ i < nm ∧ fo i = gm_e (gm_who M k (M 11 0)) := by
                    obtain ⟨i9, a1, a2⟩ := u2 c_53
                    exact ⟨i9, by omega, a2⟩
                  refine gk_iconst (v := nI 1) G dX2_pass_67 (by decide) ?_
                  refine gk_goto (tgt := 72) G dX2_pass_68 (by decide) ?_
                  refine gk_istore (lv' := [(6, .int (nI 1)), (0, .ref a), (1, .ref o), (2, .ref (q 1)), (3, .int (nI nm)), (4, .int (nI k)), (5, .ref (Sx k)), (7, .int (nI j))]) G dX2_pass_72 (by decide) rfl ?_
                  refine gk_iinc (j := 7) (v := nI (j + 1)) (lv' := [(7, .int (nI (j + 1))), (6, .int (nI 1)), (0, .ref a), (1, .ref o), (2, .ref (q 1)), (3, .int (nI nm)), (4, .int (nI k)), (5, .ref (Sx k))]) G dX2_pass_74 rfl (nI_add j 1) (by decide) rfl ?_
                  refine gk_goto (tgt := 34) G dX2_pass_77 (by decide) ?_
                  exact gk_lsub [2,3,4,5,6,7,1,0] rfl (ih7 (j + 1) 1 (by omega) (by omega) (fun h9 => absurd h9 (by decide)) (fun _ => hyes))
                · have hw0 : wv = 0 := c_53
                  refine gk_aload_n G dX2_pass_56 1 rfl ?_
                  refine gk_iload G dX2_pass_57 7 rfl ?_
                  refine gk_iald (v := fo j) G (q0 := 0) (t0 := 0) rfl rfl j rfl (by omega) (by omega) rfl dX2_pass_59 ?_
                  refine gk_aload G dX2_pass_60 5 rfl ?_
                  refine gk_iconst (v := nI 1) G dX2_pass_62 (by decide) ?_
                  refine gk_iald (v := gm_e (gm_who (gp_tk M k) k ((gp_tk M k) 11 0))) G (q0 := (k + 4 + 1)) (t0 := 0) (gp_s1 (gp_atS (by omega))) rfl 1 rfl (by decide) (by decide) (w1.2.2.2.1 k (by omega)) dX2_pass_63 ?_
                  refine gk_icmp_ne (tgt := 71) G dX2_pass_64 (by decide) (fun c_64 => ?_) (fun c_64 => ?_)
                  · rw [yw] at c_64
                    have hno : ∀ i, i < j + 1 → i < gp_un M nk → i < nm → fo i ≠ gm_e (gm_who M k (M 11 0)) := fun i a1 a2 a3 => by
                      rcases Nat.lt_succ_iff_lt_or_eq.mp a1 with g9 | g9
                      · exact u1 hw0 i g9 a2 a3
                      · rw [g9]; exact c_64
                    refine gk_iconst (v := nI 0) G dX2_pass_71 (by decide) ?_
                    refine gk_istore (lv' := [(6, .int (nI 0)), (0, .ref a), (1, .ref o), (2, .ref (q 1)), (3, .int (nI nm)), (4, .int (nI k)), (5, .ref (Sx k)), (7, .int (nI j))]) G dX2_pass_72 (by decide) rfl ?_
                    refine gk_iinc (j := 7) (v := nI (j + 1)) (lv' := [(7, .int (nI (j + 1))), (6, .int (nI 0)), (0, .ref a), (1, .ref o), (2, .ref (q 1)), (3, .int (nI nm)), (4, .int (nI k)), (5, .ref (Sx k))]) G dX2_pass_74 rfl (nI_add j 1) (by decide) rfl ?_
                    refine gk_goto (tgt := 34) G dX2_pass_77 (by decide) ?_
                    exact gk_lsub [2,3,4,5,6,7,1,0] rfl (ih7 (j + 1) 0 (by omega) (by omega) (fun _ => hno) (fun h9 => absurd rfl h9))
                  · rw [yw] at c_64
                    have hyes : ∃ i, i < j + 1 ∧ i < gp_un M nk ∧ i < nm ∧ fo i = gm_e (gm_who M k (M 11 0)) := ⟨j, by omega, by omega, by omega, c_64⟩
                    refine gk_iconst (v := nI 1) G dX2_pass_67 (by decide) ?_
                    refine gk_goto (tgt := 72) G dX2_pass_68 (by decide) ?_
                    refine gk_istore (lv' := [(6, .int (nI 1)), (0, .ref a), (1, .ref o), (2, .ref (q 1)), (3, .int (nI nm)), (4, .int (nI k)), (5, .ref (Sx k)), (7, .int (nI j))]) G dX2_pass_72 (by decide) rfl ?_
                    refine gk_iinc (j := 7) (v := nI (j + 1)) (lv' := [(7, .int (nI (j + 1))), (6, .int (nI 1)), (0, .ref a), (1, .ref o), (2, .ref (q 1)), (3, .int (nI nm)), (4, .int (nI k)), (5, .ref (Sx k))]) G dX2_pass_74 rfl (nI_add j 1) (by decide) rfl ?_
                    refine gk_goto (tgt := 34) G dX2_pass_77 (by decide) ?_
                    exact gk_lsub [2,3,4,5,6,7,1,0] rfl (ih7 (j + 1) 1 (by omega) (by omega) (fun h9 => absurd h9 (by decide)) (fun _ => hyes))
        refine gk_aload_n G dX2_pass_22 2 rfl ?_
        refine gk_iload G dX2_pass_23 4 rfl ?_
        refine gk_aald (v := Sx k) G (q0 := 3) (t0 := 2) rfl rfl k rfl (by omega) (by omega) (hfS k (by omega)) dX2_pass_25 ?_
        refine gk_astore (lv' := [(5, .ref (Sx k)), (0, .ref a), (1, .ref o), (2, .ref (q 1)), (3, .int (nI nm)), (4, .int (nI k))]) G dX2_pass_26 (by decide) rfl ?_
        refine gk_iconst (v := nI 0) G dX2_pass_28 (by decide) ?_
        refine gk_istore (lv' := [(6, .int (nI 0)), (5, .ref (Sx k)), (0, .ref a), (1, .ref o), (2, .ref (q 1)), (3, .int (nI nm)), (4, .int (nI k))]) G dX2_pass_29 (by decide) rfl ?_
        refine gk_iconst (v := nI 0) G dX2_pass_31 (by decide) ?_
        refine gk_istore (lv' := [(7, .int (nI 0)), (6, .int (nI 0)), (5, .ref (Sx k)), (0, .ref a), (1, .ref o), (2, .ref (q 1)), (3, .int (nI nm)), (4, .int (nI k))]) G dX2_pass_32 (by decide) rfl ?_
        exact gk_lsub [3,4,5,6,7,2,1,0] rfl (L34 (gp_un M nk + nm + 1) 0 0 (by omega) (Nat.zero_le _) (fun _ i h9 => absurd h9 (Nat.not_lt_zero _)) (fun h9 => absurd rfl h9))
  exact L16 (nm + 1) 0 T (by omega) (Nat.zero_le _) (gp_rep_same hr (gp_tk_0 M))
