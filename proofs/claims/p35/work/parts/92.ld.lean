theorem nI_ge9 {n : Nat} (h : n < 2 ^ 31) : ¬ nI n ≤ -1 := by
  rw [Int32.le_iff_toInt_le, nI_toInt h]
  have : (-1 : Int32).toInt = -1 := by decide
  omega
set_option maxRecDepth 100000 in
set_option maxHeartbeats 4000000 in
theorem la_2 {p : Program} {l : Launch} {e : Env} {s : State} {m : MethodId} {below : List Frame} {meth : Method} {c : Code} {D : va_G} {A : Nat → Prop} {Q : State → Prop} {cI cZ cJ : ClassId} {b L : Nat} {xs : Nat → Int32} {g h1 h2 : Nat} {q1 q2 : Nat → Nat} {u : gw_U} {a : Nat} {v : gp_Q} {M : gm_M} {x : Int32} {nm nk c0 s0 t : Nat} (G : gk_G p s m ([.ref b] : List Value).toArray meth c RL 23 cL_law (some .boolean) wsL_law D (g_T cI cZ cJ) A) (wf : gm_wf M) (hrest : gm_rest M) (hm : M 10 0 = nm) (hk : M 11 0 = nk) (hh : M 9 0 < 1900000) (hE : gp_L b L xs A s s.heap) (hc0 : c0 ≤ 100000) (hs0 : s0 ≤ 1000000) (rI rL rA rO : Nat) (fi fl ft fo : Nat → Int32) (hfi : ∀ p, fi p = 0) (hr : gc_rep u.1.1 u.1.2 M) (K : ∀ (fi fl ft : Nat → Int32) (u : gw_U), gc_rep u.1.1 u.1.2 M → (∀ j, j < nk → fl j = nI (M 5 j)) → (∀ j, j < nk → ft j = gm_e (M 8 j)) → gk_C p l e room_1 s m ([.ref b] : List Value).toArray below meth c 23 D A Q c0 s0 ((gw_R cI rO nm fo ++ (gw_R cI rA nk ft ++ (gw_R cI rL nk fl ++ (gw_R cZ rI nk fi)))) ++ (gw_X cI cZ g h1 h2 q1 q2 u ++ (gp_U cI cJ a v))) [(0, .ref b), (1, .ref g), (2, .ref a), (3, .int (nI t)), (4, .int x), (5, .int (nI nk)), (6, .int (nI nm)), (7, .ref rI), (10, .ref rL), (11, .ref rA), (12, .ref rO), (8, .int (nI (gm_gct M nk))), (9, .int (nI (gm_sum M nk)))] 467 []) : gk_C p l e room_1 s m ([.ref b] : List Value).toArray below meth c 23 D A Q c0 s0 ((gw_R cI rO nm fo ++ (gw_R cI rA nk ft ++ (gw_R cI rL nk fl ++ (gw_R cZ rI nk fi)))) ++ (gw_X cI cZ g h1 h2 q1 q2 u ++ (gp_U cI cJ a v))) [(0, .ref b), (1, .ref g), (2, .ref a), (3, .int (nI t)), (4, .int x), (5, .int (nI nk)), (6, .int (nI nm)), (7, .ref rI), (10, .ref rL), (11, .ref rA), (12, .ref rO), (8, .int (nI 0)), (9, .int (nI 0))] 105 [] := by
  obtain ⟨hz1, hz2, hz3, hz4, hz5, hz6, hz7, hz8⟩ := id wf
  have hun := gp_un_le M nk
  have L108 : ∀ (n : Nat) (k : Nat) (u : gw_U) (fi fl ft : Nat → Int32), nk - k < n → (k ≤ nk) → (gc_rep u.1.1 u.1.2 M) → (∀ j, j < k → fl j = nI (M 5 j)) → (∀ j, j < k → ft j = gm_e (M 8 j)) → (gp_is M nk k fi) → gk_C p l e room_1 s m ([.ref b] : List Value).toArray below meth c 23 D A Q c0 s0 ((gw_R cI rO nm fo ++ (gw_R cI rA nk ft ++ (gw_R cI rL nk fl ++ (gw_R cZ rI nk fi)))) ++ (gw_X cI cZ g h1 h2 q1 q2 u ++ (gp_U cI cJ a v))) [(0, .ref b), (1, .ref g), (2, .ref a), (3, .int (nI t)), (4, .int x), (5, .int (nI nk)), (6, .int (nI nm)), (7, .ref rI), (10, .ref rL), (11, .ref rA), (12, .ref rO), (8, .int (nI (gm_gct M k))), (9, .int (nI (gm_sum M k))), (13, .int (nI k))] 108 [] := by
    intro n
    induction n with
    | zero => intro k u fi fl ft h0; exact absurd h0 (Nat.not_lt_zero _)
    | succ n ih =>
      intro k u fi fl ft h0 w0 w1 w2 w3 w4
      refine gk_iload G dL_law_108 13 rfl ?_
      refine gk_iload G dL_law_110 5 rfl ?_
      refine gk_icmp_ge (tgt := 467) G dL_law_112 (by decide) (fun c_112 => ?_) (fun c_112 => ?_)
      · replace c_112 := (nI_leI (a := nk) (b := k) (by omega) (by omega)).mp c_112
        have ek : k = nk := by omega
        rw [ek] at w2 w3
        refine gk_steq rfl ?_
        exact gk_lsub (lv' := [(0, .ref b), (1, .ref g), (2, .ref a), (3, .int (nI t)), (4, .int x), (5, .int (nI nk)), (6, .int (nI nm)), (7, .ref rI), (10, .ref rL), (11, .ref rA), (12, .ref rO), (8, .int (nI (gm_gct M k))), (9, .int (nI (gm_sum M k)))]) [0,1,2,3,4,5,6,7,8,9,10,11,12] rfl (by rw [ek]; exact K fi fl ft u w1 w2 w3)
      · replace c_112 := (not_congr (nI_leI (a := nk) (b := k) (by omega) (by omega))).mp c_112
        have hfl := w2
        have hft := w3
        have h7k := hz7 k (by omega)
        have hck := gp_cnt_un M k nk
        have hgk := gm_gct_le M k
        have hk5 := hrest k (by omega)
        have hkn : k < nk := by omega
        refine gk_aload G dL_law_115 8 rfl ?_
        refine gk_iload G dL_law_117 13 rfl ?_
        refine gk_aload_n G dL_law_119 1 rfl ?_
        refine gk_iload G dL_law_120 13 rfl ?_
        refine gq_leftOf_ok (Y := (gw_R cI rO nm fo ++ (gw_R cI rA nk ft ++ (gw_R cI rL nk fl ++ (gw_R cZ rI nk fi))))) G gL_law_X1_leftOf hE.1.1 ⟨(Nat.le_of_ble_eq_true rfl), (Nat.le_of_ble_eq_true rfl)⟩ ⟨by show c0 ≤ 600130; omega, by show s0 ≤ 7301080; omega⟩ k wf w1 (by omega) (Nat.le_of_ble_eq_true rfl) dL_law_122 (fun u122 hr122 => ?_)
        show gk_C p l e room_1 s m ([.ref b] : List Value).toArray below meth c 23 D A Q c0 s0 ((gw_R cI rO nm fo ++ (gw_R cI rA nk ft ++ (gw_R cI rL nk fl ++ (gw_R cZ rI nk fi)))) ++ (gw_X cI cZ g h1 h2 q1 q2 u122 ++ (gp_U cI cJ a v))) [(0, .ref b), (1, .ref g), (2, .ref a), (3, .int (nI t)), (4, .int x), (5, .int (nI nk)), (6, .int (nI nm)), (7, .ref rI), (10, .ref rL), (11, .ref rA), (12, .ref rO), (8, .int (nI (gm_gct M k))), (9, .int (nI (gm_sum M k))), (13, .int (nI k))] 125 [.int (nI (M 5 k)), .int (nI k), .ref rL]
        refine gk_topi (fun v125 ev125 => ?_)
        refine gk_iast (w' := ((gw_R cI rO nm fo ++ (gw_R cI rA nk ft ++ (gw_R cI rL nk (upd fl k v125) ++ (gw_R cZ rI nk fi)))) ++ (gw_X cI cZ g h1 h2 q1 q2 u122 ++ (gp_U cI cJ a v)))) G (q0 := 2) (t0 := 0) rfl rfl k rfl (by omega) (by omega) rfl dL_law_125 ?_
        refine gk_aload G dL_law_126 9 rfl ?_
        refine gk_iload G dL_law_128 13 rfl ?_
        refine gk_aload_n G dL_law_130 1 rfl ?_
        refine gk_iload G dL_law_131 13 rfl ?_
        refine gq_groundAt_ok (Y := (gw_R cI rO nm fo ++ (gw_R cI rA nk ft ++ (gw_R cI rL nk (upd fl k v125) ++ (gw_R cZ rI nk fi))))) G gL_law_X1_groundAt hE.1.1 ⟨(Nat.le_of_ble_eq_true rfl), (Nat.le_of_ble_eq_true rfl)⟩ ⟨by show c0 ≤ 600130; omega, by show s0 ≤ 7301080; omega⟩ k wf hr122 (by omega) (Nat.le_of_ble_eq_true rfl) dL_law_133 (fun u133 hr133 => ?_)
        show gk_C p l e room_1 s m ([.ref b] : List Value).toArray below meth c 23 D A Q c0 s0 ((gw_R cI rO nm fo ++ (gw_R cI rA nk ft ++ (gw_R cI rL nk (upd fl k v125) ++ (gw_R cZ rI nk fi)))) ++ (gw_X cI cZ g h1 h2 q1 q2 u133 ++ (gp_U cI cJ a v))) [(0, .ref b), (1, .ref g), (2, .ref a), (3, .int (nI t)), (4, .int x), (5, .int (nI nk)), (6, .int (nI nm)), (7, .ref rI), (10, .ref rL), (11, .ref rA), (12, .ref rO), (8, .int (nI (gm_gct M k))), (9, .int (nI (gm_sum M k))), (13, .int (nI k))] 136 [.int (gm_e (M 8 k)), .int (nI k), .ref rA]
        refine gk_topi (fun v136 ev136 => ?_)
        refine gk_iast (w' := ((gw_R cI rO nm fo ++ (gw_R cI rA nk (upd ft k v136) ++ (gw_R cI rL nk (upd fl k v125) ++ (gw_R cZ rI nk fi)))) ++ (gw_X cI cZ g h1 h2 q1 q2 u133 ++ (gp_U cI cJ a v)))) G (q0 := 1) (t0 := 0) rfl rfl k rfl (by omega) (by omega) rfl dL_law_136 ?_
        refine gk_iload G dL_law_137 12 rfl ?_
        refine gk_aload G dL_law_139 8 rfl ?_
        refine gk_iload G dL_law_141 13 rfl ?_
        refine gk_iald (v := nI (M 5 k)) G (q0 := 2) (t0 := 0) rfl rfl k rfl (by omega) (by omega) (pk_us.trans ev125) dL_law_143 ?_
        refine gk_iadd (v := nI ((gm_sum M k) + (M 5 k))) G dL_law_144 (nI_add (gm_sum M k) (M 5 k)) ?_
        refine gk_istore (lv' := [(9, .int (nI ((gm_sum M k) + (M 5 k)))), (0, .ref b), (1, .ref g), (2, .ref a), (3, .int (nI t)), (4, .int x), (5, .int (nI nk)), (6, .int (nI nm)), (7, .ref rI), (10, .ref rL), (11, .ref rA), (12, .ref rO), (8, .int (nI (gm_gct M k))), (13, .int (nI k))]) G dL_law_145 (by decide) rfl ?_
        refine gk_aload_n G dL_law_147 2 rfl ?_
        refine gk_iload G dL_law_148 13 rfl ?_
        refine gq_placeOf_ok (Y := (gw_R cI rO nm fo ++ (gw_R cI rA nk (upd ft k v136) ++ (gw_R cI rL nk (upd fl k v125) ++ (gw_R cZ rI nk fi))))) G gL_law_X1_placeOf hE.1.1 ⟨(Nat.le_of_ble_eq_true rfl), (Nat.le_of_ble_eq_true rfl)⟩ ⟨by show c0 ≤ 600130; omega, by show s0 ≤ 7301080; omega⟩ k wf hr133 hrest (by omega) (Nat.le_of_ble_eq_true rfl) dL_law_150 (fun u150 hr150 => ?_)
        show gk_C p l e room_1 s m ([.ref b] : List Value).toArray below meth c 23 D A Q c0 s0 ((gw_R cI rO nm fo ++ (gw_R cI rA nk (upd ft k v136) ++ (gw_R cI rL nk (upd fl k v125) ++ (gw_R cZ rI nk fi)))) ++ (gw_X cI cZ g h1 h2 q1 q2 u150 ++ (gp_U cI cJ a v))) [(9, .int (nI ((gm_sum M k) + (M 5 k)))), (0, .ref b), (1, .ref g), (2, .ref a), (3, .int (nI t)), (4, .int x), (5, .int (nI nk)), (6, .int (nI nm)), (7, .ref rI), (10, .ref rL), (11, .ref rA), (12, .ref rO), (8, .int (nI (gm_gct M k))), (13, .int (nI k))] 153 [.int (gm_plc M k)]
        refine gk_istore (lv' := [(14, .int (gm_plc M k)), (9, .int (nI ((gm_sum M k) + (M 5 k)))), (0, .ref b), (1, .ref g), (2, .ref a), (3, .int (nI t)), (4, .int x), (5, .int (nI nk)), (6, .int (nI nm)), (7, .ref rI), (10, .ref rL), (11, .ref rA), (12, .ref rO), (8, .int (nI (gm_gct M k))), (13, .int (nI k))]) G dL_law_153 (by decide) rfl ?_
        refine gk_aload_n G dL_law_155 3 rfl ?_
        refine gk_iload G dL_law_156 14 rfl ?_
        refine gq_stoneOf_ok (Y := (gw_R cI rO nm fo ++ (gw_R cI rA nk (upd ft k v136) ++ (gw_R cI rL nk (upd fl k v125) ++ (gw_R cZ rI nk fi))))) G gL_law_X1_stoneOf hE.1.1 ⟨(Nat.le_of_ble_eq_true rfl), (Nat.le_of_ble_eq_true rfl)⟩ ⟨by show c0 ≤ 600130; omega, by show s0 ≤ 7301080; omega⟩ k wf hr150 (by omega) (Nat.le_of_ble_eq_true rfl) dL_law_158 (fun u158 hr158 => ?_)
        show gk_C p l e room_1 s m ([.ref b] : List Value).toArray below meth c 23 D A Q c0 s0 ((gw_R cI rO nm fo ++ (gw_R cI rA nk (upd ft k v136) ++ (gw_R cI rL nk (upd fl k v125) ++ (gw_R cZ rI nk fi)))) ++ (gw_X cI cZ g h1 h2 q1 q2 u158 ++ (gp_U cI cJ a v))) [(14, .int (gm_plc M k)), (9, .int (nI ((gm_sum M k) + (M 5 k)))), (0, .ref b), (1, .ref g), (2, .ref a), (3, .int (nI t)), (4, .int x), (5, .int (nI nk)), (6, .int (nI nm)), (7, .ref rI), (10, .ref rL), (11, .ref rA), (12, .ref rO), (8, .int (nI (gm_gct M k))), (13, .int (nI k))] 161 [.int (gm_e (M 7 k))]
        refine gk_istore (lv' := [(15, .int (gm_e (M 7 k))), (14, .int (gm_plc M k)), (9, .int (nI ((gm_sum M k) + (M 5 k)))), (0, .ref b), (1, .ref g), (2, .ref a), (3, .int (nI t)), (4, .int x), (5, .int (nI nk)), (6, .int (nI nm)), (7, .ref rI), (10, .ref rL), (11, .ref rA), (12, .ref rO), (8, .int (nI (gm_gct M k))), (13, .int (nI k))]) G dL_law_161 (by decide) rfl ?_
        refine gk_aload G dL_law_163 12 rfl ?_
        refine gk_iload G dL_law_165 15 rfl ?_
        refine gk_iald (v := gm_e (M 8 k)) G (q0 := 1) (t0 := 0) rfl rfl k rfl (by omega) (by omega) (pk_us.trans ev136) dL_law_167 ?_
        refine gk_if_lt (tgt := 175) G dL_law_168 (by decide) (fun c_168 => ?_) (fun c_168 => ?_)
        · replace c_168 := (gp_e_lt (n := M 8 k) (by omega)).mp c_168
          have h8k : M 8 k = 0 := by omega
          have hcl := gp_cnt_lt h8k nk hkn
          rw [show gm_plc M k = nI (gm_cnt M k nk) from (by unfold gm_plc; rw [if_pos h8k, hk])]
          have J312 : ∀ u312 : gw_U, gc_rep u312.1.1 u312.1.2 M → gk_C p l e room_1 s m ([.ref b] : List Value).toArray below meth c 23 D A Q c0 s0 ((gw_R cI rO nm fo ++ (gw_R cI rA nk (upd ft k v136) ++ (gw_R cI rL nk (upd fl k v125) ++ (gw_R cZ rI nk fi)))) ++ (gw_X cI cZ g h1 h2 q1 q2 u312 ++ (gp_U cI cJ a v))) [(0, .ref b), (1, .ref g), (2, .ref a), (3, .int (nI t)), (4, .int x), (5, .int (nI nk)), (6, .int (nI nm)), (7, .ref rI), (10, .ref rL), (11, .ref rA), (12, .ref rO), (8, .int (nI (gm_gct M k + 0))), (9, .int (nI (gm_sum M k + M 5 k))), (13, .int (nI k)), (14, .int (nI (gm_cnt M k nk)))] 312 [] := by
            intro u312 hr312
            refine gk_iload G dL_law_312 14 rfl ?_
            refine gk_if_ge (tgt := 320) G dL_law_314 (by decide) (fun c_314 => ?_) (fun c_314 => ?_)
            · replace c_314 := (nI_leI (a := 0) (b := gm_cnt M k nk) (by omega) (by omega)).mp c_314
              refine gk_aload G dL_law_320 7 rfl ?_
              refine gk_iload G dL_law_322 14 rfl ?_
              refine gk_zald (v := nI 0) G (q0 := 3) (t0 := 1) rfl rfl (gm_cnt M k nk) rfl (by omega) (by omega) (w4 _ (fun i hi h8i h9 => absurd (gp_cnt_inj (by omega) hkn (by omega) h8i h8k h9) (by omega))) dL_law_324 ?_
              refine gk_if_eq (tgt := 330) G dL_law_325 (by decide) (fun c_325 => ?_) (fun c_325 => ?_)
              · refine gk_aload G dL_law_330 7 rfl ?_
                refine gk_iload G dL_law_332 14 rfl ?_
                refine gk_iconst (v := nI 1) G dL_law_334 (by decide) ?_
                refine gk_topi (fun v335 ev335 => ?_)
                refine gk_zast (w' := ((gw_R cI rO nm fo ++ (gw_R cI rA nk (upd ft k v136) ++ (gw_R cI rL nk (upd fl k v125) ++ (gw_R cZ rI nk (upd fi (gm_cnt M k nk) v335))))) ++ (gw_X cI cZ g h1 h2 q1 q2 u312 ++ (gp_U cI cJ a v)))) G (q0 := 3) (t0 := 1) rfl rfl (gm_cnt M k nk) rfl (by omega) (by omega) (by rw [ev335]; first | exact Or.inl rfl | exact Or.inr rfl) rfl dL_law_335 ?_
                have hfl2 : ∀ j, j < k + 1 → (upd fl k v125) j = nI (M 5 j) := fun j hj => by
                  by_cases hjk : j = k
                  · rw [hjk, pk_us]; exact ev125
                  · rw [pk_un hjk]; exact w2 j (by omega)
                have hft2 : ∀ j, j < k + 1 → (upd ft k v136) j = gm_e (M 8 j) := fun j hj => by
                  by_cases hjk : j = k
                  · rw [hjk, pk_us]; exact ev136
                  · rw [pk_un hjk]; exact w3 j (by omega)
                refine gk_lsub (lv' := [(0, .ref b), (1, .ref g), (2, .ref a), (3, .int (nI t)), (4, .int x), (5, .int (nI nk)), (6, .int (nI nm)), (7, .ref rI), (10, .ref rL), (11, .ref rA), (12, .ref rO), (8, .int (nI (gm_gct M k + 0))), (9, .int (nI (gm_sum M k + M 5 k))), (13, .int (nI k)), (14, .int (nI (gm_cnt M k nk)))]) [0,1,2,3,4,5,6,7,8,9,10,11,12,13,14] rfl ?_
                refine la_2i G wf hrest hm hk hh hE hc0 hs0 rI rL rA rO _ _ _ fo _ _ k hkn h8k hfl2 hr312 (fun u9 hr9 => ?_)
                show gk_C p l e room_1 s m ([.ref b] : List Value).toArray below meth c 23 D A Q c0 s0 ((gw_R cI rO nm fo ++ (gw_R cI rA nk (upd ft k v136) ++ (gw_R cI rL nk (upd fl k v125) ++ (gw_R cZ rI nk (upd fi (gm_cnt M k nk) v335))))) ++ (gw_X cI cZ g h1 h2 q1 q2 u9 ++ (gp_U cI cJ a v))) [(0, .ref b), (1, .ref g), (2, .ref a), (3, .int (nI t)), (4, .int x), (5, .int (nI nk)), (6, .int (nI nm)), (7, .ref rI), (10, .ref rL), (11, .ref rA), (12, .ref rO), (8, .int (nI (gm_gct M k + 0))), (9, .int (nI (gm_sum M k + M 5 k))), (13, .int (nI k))] 461 []
                refine gk_iinc (j := 13) (v := nI (k + 1)) (lv' := [(13, .int (nI (k + 1))), (0, .ref b), (1, .ref g), (2, .ref a), (3, .int (nI t)), (4, .int x), (5, .int (nI nk)), (6, .int (nI nm)), (7, .ref rI), (10, .ref rL), (11, .ref rA), (12, .ref rO), (8, .int (nI (gm_gct M k + 0))), (9, .int (nI (gm_sum M k + M 5 k)))]) G dL_law_461 rfl (nI_add k 1) (by decide) rfl ?_
                refine gk_goto (tgt := 108) G dL_law_464 (by decide) ?_
                have e9 : gm_gct M (k + 1) = gm_gct M k + 0 := by
                  show gm_gct M k + (if M 8 k = 0 then 0 else 1) = _
                  rw [if_pos h8k]
                have hfi2 : gp_is M nk (k + 1) (upd fi (gm_cnt M k nk) v335) := fun p9 hp9 => by
                  rw [pk_un (fun q9 => hp9 k (Nat.lt_succ_self k) h8k q9.symm)]
                  exact w4 p9 (fun i hi => hp9 i (by omega))
                have t9 := ih (k + 1) u9 (upd fi (gm_cnt M k nk) v335) (upd fl k v125) (upd ft k v136) (by omega) (by omega) hr9 hfl2 hft2 hfi2
                rw [e9] at t9
                exact gk_lsub (lv' := [(0, .ref b), (1, .ref g), (2, .ref a), (3, .int (nI t)), (4, .int x), (5, .int (nI nk)), (6, .int (nI nm)), (7, .ref rI), (10, .ref rL), (11, .ref rA), (12, .ref rO), (8, .int (nI (gm_gct M k + 0))), (9, .int (nI (gm_sum M k + M 5 k))), (13, .int (nI (k + 1)))]) [1,2,3,4,5,6,7,8,9,10,11,12,13,0] rfl t9
              · exact absurd c_325 (by decide)
            · replace c_314 := (not_congr (nI_leI (a := 0) (b := gm_cnt M k nk) (by omega) (by omega))).mp c_314
              omega
          refine gk_iconst (v := nI 0) G dL_law_175 (by decide) ?_
          refine gk_istore (lv' := [(16, .int (nI 0)), (15, .int (gm_e (M 7 k))), (14, .int (nI (gm_cnt M k nk))), (9, .int (nI ((gm_sum M k) + (M 5 k)))), (0, .ref b), (1, .ref g), (2, .ref a), (3, .int (nI t)), (4, .int x), (5, .int (nI nk)), (6, .int (nI nm)), (7, .ref rI), (10, .ref rL), (11, .ref rA), (12, .ref rO), (8, .int (nI (gm_gct M k))), (13, .int (nI k))]) G dL_law_176 (by decide) rfl ?_
          refine gk_iload G dL_law_178 15 rfl ?_
          refine gk_iload G dL_law_180 0 rfl ?_
          refine gk_if_eq (tgt := 189) G dL_law_182 (by decide) (fun c_182 => ?_) (fun c_182 => ?_)
          · refine gk_iconst (v := nI 0) G dL_law_189 (by decide) ?_
            refine gk_iadd (v := nI ((gm_gct M k) + 0)) G dL_law_190 (nI_add (gm_gct M k) 0) ?_
            refine gk_istore (lv' := [(8, .int (nI ((gm_gct M k) + 0))), (16, .int (nI 0)), (15, .int (gm_e (M 7 k))), (14, .int (nI (gm_cnt M k nk))), (9, .int (nI ((gm_sum M k) + (M 5 k)))), (0, .ref b), (1, .ref g), (2, .ref a), (3, .int (nI t)), (4, .int x), (5, .int (nI nk)), (6, .int (nI nm)), (7, .ref rI), (10, .ref rL), (11, .ref rA), (12, .ref rO), (13, .int (nI k))]) G dL_law_191 (by decide) rfl ?_
            refine gk_aload G dL_law_193 13 rfl ?_
            refine gk_iload G dL_law_195 16 rfl ?_
            refine gk_iald (v := nI (M 5 k)) G (q0 := 2) (t0 := 0) rfl rfl k rfl (by omega) (by omega) (pk_us.trans ev125) dL_law_197 ?_
            refine gk_if_lt (tgt := 310) G dL_law_198 (by decide) (fun c_198 => ?_) (fun c_198 => ?_)
            · replace c_198 := (nI_ltI (a := M 5 k) (b := 0) (by omega) (by omega)).mp c_198
              omega
            · replace c_198 := (not_congr (nI_ltI (a := M 5 k) (b := 0) (by omega) (by omega))).mp c_198
              refine gk_aload G dL_law_201 13 rfl ?_
              refine gk_iload G dL_law_203 16 rfl ?_
              refine gk_iald (v := nI (M 5 k)) G (q0 := 2) (t0 := 0) rfl rfl k rfl (by omega) (by omega) (pk_us.trans ev125) dL_law_205 ?_
              refine gk_bipush (v := nI 60) G dL_law_206 (by decide) ?_
              refine gk_icmp_gt (tgt := 310) G dL_law_208 (by decide) (fun c_208 => ?_) (fun c_208 => ?_)
              · replace c_208 := (nI_ltI (a := 60) (b := M 5 k) (by omega) (by omega)).mp c_208
                omega
              · replace c_208 := (not_congr (nI_ltI (a := 60) (b := M 5 k) (by omega) (by omega))).mp c_208
                refine gk_iload G dL_law_211 1 rfl ?_
                refine gk_aload G dL_law_213 13 rfl ?_
                refine gk_iload G dL_law_215 16 rfl ?_
                refine gk_iald (v := nI (M 5 k)) G (q0 := 2) (t0 := 0) rfl rfl k rfl (by omega) (by omega) (pk_us.trans ev125) dL_law_217 ?_
                refine gk_if_ne (tgt := 225) G dL_law_218 (by decide) (fun c_218 => ?_) (fun c_218 => ?_)
                · replace c_218 := (not_congr (nI_eq (a := M 5 k) (b := 0) (by omega) (by omega))).mp c_218
                  refine gk_iconst (v := nI 0) G dL_law_225 (by decide) ?_
                  refine gk_icmp_ne (tgt := 310) G dL_law_226 (by decide) (fun c_226 => ?_) (fun c_226 => ?_)
                  · exact absurd c_226 (by decide)
                  · refine gk_iload G dL_law_229 1 rfl ?_
                    refine gk_if_eq (tgt := 251) G dL_law_231 (by decide) (fun c_231 => ?_) (fun c_231 => ?_)
                    · refine gk_iload G dL_law_251 1 rfl ?_
                      refine gk_iload G dL_law_253 3 rfl ?_
                      refine gk_if_ge (tgt := 262) G dL_law_255 (by decide) (fun c_255 => ?_) (fun c_255 => ?_)
                      · replace c_255 := (nI_leI (a := 0) (b := gm_cnt M k nk) (by omega) (by omega)).mp c_255
                        refine gk_iconst (v := nI 0) G dL_law_262 (by decide) ?_
                        refine gk_icmp_ne (tgt := 310) G dL_law_263 (by decide) (fun c_263 => ?_) (fun c_263 => ?_)
                        · exact absurd c_263 (by decide)
                        · refine gk_iload G dL_law_266 3 rfl ?_
                          refine gk_iload G dL_law_268 10 rfl ?_
                          refine gk_icmp_ge (tgt := 310) G dL_law_270 (by decide) (fun c_270 => ?_) (fun c_270 => ?_)
                          · replace c_270 := (nI_leI (a := nk) (b := gm_cnt M k nk) (by omega) (by omega)).mp c_270
                            omega
                          · replace c_270 := (not_congr (nI_leI (a := nk) (b := gm_cnt M k nk) (by omega) (by omega))).mp c_270
                            refine gk_iload G dL_law_273 2 rfl ?_
                            refine gk_iload G dL_law_275 11 rfl ?_
                            refine gk_icmp_ge (tgt := 310) G dL_law_277 (by decide) (fun c_277 => ?_) (fun c_277 => ?_)
                            · (have := (gp_e_lei (by omega) (by omega)).mp c_277; omega)
                            · refine gk_iload G dL_law_280 2 rfl ?_
                              refine gk_if_lt (tgt := 296) G dL_law_282 (by decide) (fun c_282 => ?_) (fun c_282 => ?_)
                              · replace c_282 := (gp_e_lt (n := M 7 k) (by omega)).mp c_282
                                refine gk_iload G dL_law_296 3 rfl ?_
                                refine gk_if_ne (tgt := 312) G dL_law_298 (by decide) (fun c_298 => ?_) (fun c_298 => ?_)
                                · replace c_298 := (not_congr (nI_eq (a := gm_cnt M k nk) (b := 0) (by omega) (by omega))).mp c_298
                                  exact gk_lsub (lv' := [(0, .ref b), (1, .ref g), (2, .ref a), (3, .int (nI t)), (4, .int x), (5, .int (nI nk)), (6, .int (nI nm)), (7, .ref rI), (10, .ref rL), (11, .ref rA), (12, .ref rO), (8, .int (nI (gm_gct M k + 0))), (9, .int (nI (gm_sum M k + M 5 k))), (13, .int (nI k)), (14, .int (nI (gm_cnt M k nk)))]) [5,6,7,8,9,10,11,12,13,14,15,0,4,16,3] rfl (J312 u158 hr158)
                                · replace c_298 := (nI_eq (a := gm_cnt M k nk) (b := 0) (by omega) (by omega)).mp c_298
                                  refine gk_aload_n G dL_law_301 6 rfl ?_
                                  refine gq_first (Y := (gw_R cI rO nm fo ++ (gw_R cI rA nk (upd ft k v136) ++ (gw_R cI rL nk (upd fl k v125) ++ (gw_R cZ rI nk fi))))) G gL_law_X1_first hE.1.1 ⟨(Nat.le_of_ble_eq_true rfl), (Nat.le_of_ble_eq_true rfl)⟩ ⟨by show c0 ≤ 600130; omega, by show s0 ≤ 7301080; omega⟩ wf hr158 hrest (Nat.le_of_ble_eq_true rfl) dL_law_302 (fun u302 hr302 => ?_)
                                  show gk_C p l e room_1 s m ([.ref b] : List Value).toArray below meth c 23 D A Q c0 s0 ((gw_R cI rO nm fo ++ (gw_R cI rA nk (upd ft k v136) ++ (gw_R cI rL nk (upd fl k v125) ++ (gw_R cZ rI nk fi)))) ++ (gw_X cI cZ g h1 h2 q1 q2 u302 ++ (gp_U cI cJ a v))) [(8, .int (nI ((gm_gct M k) + 0))), (16, .int (nI 0)), (15, .int (gm_e (M 7 k))), (14, .int (nI (gm_cnt M k nk))), (9, .int (nI ((gm_sum M k) + (M 5 k)))), (0, .ref b), (1, .ref g), (2, .ref a), (3, .int (nI t)), (4, .int x), (5, .int (nI nk)), (6, .int (nI nm)), (7, .ref rI), (10, .ref rL), (11, .ref rA), (12, .ref rO), (13, .int (nI k))] 305 [.int (gm_e (gm_nxt M 0 (M 11 0)))]
                                  refine gk_iload G dL_law_305 16 rfl ?_
                                  refine gk_icmp_eq (tgt := 312) G dL_law_307 (by decide) (fun c_307 => ?_) (fun c_307 => ?_)
                                  · exact gk_lsub (lv' := [(0, .ref b), (1, .ref g), (2, .ref a), (3, .int (nI t)), (4, .int x), (5, .int (nI nk)), (6, .int (nI nm)), (7, .ref rI), (10, .ref rL), (11, .ref rA), (12, .ref rO), (8, .int (nI (gm_gct M k + 0))), (9, .int (nI (gm_sum M k + M 5 k))), (13, .int (nI k)), (14, .int (nI (gm_cnt M k nk)))]) [5,6,7,8,9,10,11,12,13,14,15,0,4,16,3] rfl (J312 u302 hr302)
                                  · exact absurd (by rw [hk, gp_first_is (by omega) hkn h8k (by omega), gm_eS]) c_307
                              · replace c_282 := (not_congr (gp_e_lt (n := M 7 k) (by omega))).mp c_282
                                refine gk_aload_n G dL_law_285 6 rfl ?_
                                refine gk_iload G dL_law_286 2 rfl ?_
                                refine gk_steq (st' := [.int (nI (M 7 k - 1)), .ref g]) (by rw [gm_e_pred c_282]) ?_
                                refine gq_sackOn_ok (Y := (gw_R cI rO nm fo ++ (gw_R cI rA nk (upd ft k v136) ++ (gw_R cI rL nk (upd fl k v125) ++ (gw_R cZ rI nk fi))))) G gL_law_X1_sackOn hE.1.1 ⟨(Nat.le_of_ble_eq_true rfl), (Nat.le_of_ble_eq_true rfl)⟩ ⟨by show c0 ≤ 600130; omega, by show s0 ≤ 7301080; omega⟩ (M 7 k - 1) wf hr158 (by omega) (Nat.le_of_ble_eq_true rfl) dL_law_288 (fun u288 hr288 => ?_)
                                show gk_C p l e room_1 s m ([.ref b] : List Value).toArray below meth c 23 D A Q c0 s0 ((gw_R cI rO nm fo ++ (gw_R cI rA nk (upd ft k v136) ++ (gw_R cI rL nk (upd fl k v125) ++ (gw_R cZ rI nk fi)))) ++ (gw_X cI cZ g h1 h2 q1 q2 u288 ++ (gp_U cI cJ a v))) [(8, .int (nI ((gm_gct M k) + 0))), (16, .int (nI 0)), (15, .int (gm_e (M 7 k))), (14, .int (nI (gm_cnt M k nk))), (9, .int (nI ((gm_sum M k) + (M 5 k)))), (0, .ref b), (1, .ref g), (2, .ref a), (3, .int (nI t)), (4, .int x), (5, .int (nI nk)), (6, .int (nI nm)), (7, .ref rI), (10, .ref rL), (11, .ref rA), (12, .ref rO), (13, .int (nI k))] 291 [.int (gm_e (gm_who M (M 7 k - 1) (M 11 0)))]
                                refine gk_iload G dL_law_291 16 rfl ?_
                                refine gk_icmp_ne (tgt := 310) G dL_law_293 (by decide) (fun c_293 => ?_) (fun c_293 => ?_)
                                · exact absurd (by rw [gm_who_is (s := k) (by omega) (by omega) (fun i hi h9 => hz8 i k hi (by omega) (by omega) (by omega)), gm_eS]) c_293
                                · refine gk_iload G dL_law_296 3 rfl ?_
                                  refine gk_if_ne (tgt := 312) G dL_law_298 (by decide) (fun c_298 => ?_) (fun c_298 => ?_)
                                  · replace c_298 := (not_congr (nI_eq (a := gm_cnt M k nk) (b := 0) (by omega) (by omega))).mp c_298
                                    exact gk_lsub (lv' := [(0, .ref b), (1, .ref g), (2, .ref a), (3, .int (nI t)), (4, .int x), (5, .int (nI nk)), (6, .int (nI nm)), (7, .ref rI), (10, .ref rL), (11, .ref rA), (12, .ref rO), (8, .int (nI (gm_gct M k + 0))), (9, .int (nI (gm_sum M k + M 5 k))), (13, .int (nI k)), (14, .int (nI (gm_cnt M k nk)))]) [5,6,7,8,9,10,11,12,13,14,15,0,4,16,3] rfl (J312 u288 hr288)
                                  · replace c_298 := (nI_eq (a := gm_cnt M k nk) (b := 0) (by omega) (by omega)).mp c_298
                                    refine gk_aload_n G dL_law_301 6 rfl ?_
                                    refine gq_first (Y := (gw_R cI rO nm fo ++ (gw_R cI rA nk (upd ft k v136) ++ (gw_R cI rL nk (upd fl k v125) ++ (gw_R cZ rI nk fi))))) G gL_law_X1_first hE.1.1 ⟨(Nat.le_of_ble_eq_true rfl), (Nat.le_of_ble_eq_true rfl)⟩ ⟨by show c0 ≤ 600130; omega, by show s0 ≤ 7301080; omega⟩ wf hr288 hrest (Nat.le_of_ble_eq_true rfl) dL_law_302 (fun u302 hr302 => ?_)
                                    show gk_C p l e room_1 s m ([.ref b] : List Value).toArray below meth c 23 D A Q c0 s0 ((gw_R cI rO nm fo ++ (gw_R cI rA nk (upd ft k v136) ++ (gw_R cI rL nk (upd fl k v125) ++ (gw_R cZ rI nk fi)))) ++ (gw_X cI cZ g h1 h2 q1 q2 u302 ++ (gp_U cI cJ a v))) [(8, .int (nI ((gm_gct M k) + 0))), (16, .int (nI 0)), (15, .int (gm_e (M 7 k))), (14, .int (nI (gm_cnt M k nk))), (9, .int (nI ((gm_sum M k) + (M 5 k)))), (0, .ref b), (1, .ref g), (2, .ref a), (3, .int (nI t)), (4, .int x), (5, .int (nI nk)), (6, .int (nI nm)), (7, .ref rI), (10, .ref rL), (11, .ref rA), (12, .ref rO), (13, .int (nI k))] 305 [.int (gm_e (gm_nxt M 0 (M 11 0)))]
                                    refine gk_iload G dL_law_305 16 rfl ?_
                                    refine gk_icmp_eq (tgt := 312) G dL_law_307 (by decide) (fun c_307 => ?_) (fun c_307 => ?_)
                                    · exact gk_lsub (lv' := [(0, .ref b), (1, .ref g), (2, .ref a), (3, .int (nI t)), (4, .int x), (5, .int (nI nk)), (6, .int (nI nm)), (7, .ref rI), (10, .ref rL), (11, .ref rA), (12, .ref rO), (8, .int (nI (gm_gct M k + 0))), (9, .int (nI (gm_sum M k + M 5 k))), (13, .int (nI k)), (14, .int (nI (gm_cnt M k nk)))]) [5,6,7,8,9,10,11,12,13,14,15,0,4,16,3] rfl (J312 u302 hr302)
                                    · exact absurd (by rw [hk, gp_first_is (by omega) hkn h8k (by omega), gm_eS]) c_307
                      · replace c_255 := (not_congr (nI_leI (a := 0) (b := gm_cnt M k nk) (by omega) (by omega))).mp c_255
                        omega
                    · exact absurd c_231 (by decide)
                · replace c_218 := (nI_eq (a := M 5 k) (b := 0) (by omega) (by omega)).mp c_218
                  omega
          · exact absurd c_182 (by decide)
        · replace c_168 := (not_congr (gp_e_lt (n := M 8 k) (by omega))).mp c_168
          have hg7 := (h7k.2.2.2.2.2.1 c_168).1
          have hg5 := (h7k.2.2.2.2.2.1 c_168).2
          rw [show gm_plc M k = -1 from (by unfold gm_plc; rw [if_neg c_168])]
          refine gk_iconst (v := nI 1) G dL_law_171 (by decide) ?_
          refine gk_goto (tgt := 176) G dL_law_172 (by decide) ?_
          refine gk_istore (lv' := [(16, .int (nI 1)), (15, .int (gm_e (M 7 k))), (14, .int (-1)), (9, .int (nI ((gm_sum M k) + (M 5 k)))), (0, .ref b), (1, .ref g), (2, .ref a), (3, .int (nI t)), (4, .int x), (5, .int (nI nk)), (6, .int (nI nm)), (7, .ref rI), (10, .ref rL), (11, .ref rA), (12, .ref rO), (8, .int (nI (gm_gct M k))), (13, .int (nI k))]) G dL_law_176 (by decide) rfl ?_
          refine gk_iload G dL_law_178 15 rfl ?_
          refine gk_iload G dL_law_180 0 rfl ?_
          refine gk_if_eq (tgt := 189) G dL_law_182 (by decide) (fun c_182 => ?_) (fun c_182 => ?_)
          · exact absurd c_182 (by decide)
          · refine gk_iconst (v := nI 1) G dL_law_185 (by decide) ?_
            refine gk_goto (tgt := 190) G dL_law_186 (by decide) ?_
            refine gk_iadd (v := nI ((gm_gct M k) + 1)) G dL_law_190 (nI_add (gm_gct M k) 1) ?_
            refine gk_istore (lv' := [(8, .int (nI ((gm_gct M k) + 1))), (16, .int (nI 1)), (15, .int (gm_e (M 7 k))), (14, .int (-1)), (9, .int (nI ((gm_sum M k) + (M 5 k)))), (0, .ref b), (1, .ref g), (2, .ref a), (3, .int (nI t)), (4, .int x), (5, .int (nI nk)), (6, .int (nI nm)), (7, .ref rI), (10, .ref rL), (11, .ref rA), (12, .ref rO), (13, .int (nI k))]) G dL_law_191 (by decide) rfl ?_
            refine gk_aload G dL_law_193 13 rfl ?_
            refine gk_iload G dL_law_195 16 rfl ?_
            refine gk_iald (v := nI (M 5 k)) G (q0 := 2) (t0 := 0) rfl rfl k rfl (by omega) (by omega) (pk_us.trans ev125) dL_law_197 ?_
            refine gk_if_lt (tgt := 310) G dL_law_198 (by decide) (fun c_198 => ?_) (fun c_198 => ?_)
            · replace c_198 := (nI_ltI (a := M 5 k) (b := 0) (by omega) (by omega)).mp c_198
              omega
            · replace c_198 := (not_congr (nI_ltI (a := M 5 k) (b := 0) (by omega) (by omega))).mp c_198
              refine gk_aload G dL_law_201 13 rfl ?_
              refine gk_iload G dL_law_203 16 rfl ?_
              refine gk_iald (v := nI (M 5 k)) G (q0 := 2) (t0 := 0) rfl rfl k rfl (by omega) (by omega) (pk_us.trans ev125) dL_law_205 ?_
              refine gk_bipush (v := nI 60) G dL_law_206 (by decide) ?_
              refine gk_icmp_gt (tgt := 310) G dL_law_208 (by decide) (fun c_208 => ?_) (fun c_208 => ?_)
              · replace c_208 := (nI_ltI (a := 60) (b := M 5 k) (by omega) (by omega)).mp c_208
                omega
              · replace c_208 := (not_congr (nI_ltI (a := 60) (b := M 5 k) (by omega) (by omega))).mp c_208
                refine gk_iload G dL_law_211 1 rfl ?_
                refine gk_aload G dL_law_213 13 rfl ?_
                refine gk_iload G dL_law_215 16 rfl ?_
                refine gk_iald (v := nI (M 5 k)) G (q0 := 2) (t0 := 0) rfl rfl k rfl (by omega) (by omega) (pk_us.trans ev125) dL_law_217 ?_
                refine gk_if_ne (tgt := 225) G dL_law_218 (by decide) (fun c_218 => ?_) (fun c_218 => ?_)
                · replace c_218 := (not_congr (nI_eq (a := M 5 k) (b := 0) (by omega) (by omega))).mp c_218
                  omega
                · replace c_218 := (nI_eq (a := M 5 k) (b := 0) (by omega) (by omega)).mp c_218
                  refine gk_iconst (v := nI 1) G dL_law_221 (by decide) ?_
                  refine gk_goto (tgt := 226) G dL_law_222 (by decide) ?_
                  refine gk_icmp_ne (tgt := 310) G dL_law_226 (by decide) (fun c_226 => ?_) (fun c_226 => ?_)
                  · exact absurd c_226 (by decide)
                  · refine gk_iload G dL_law_229 1 rfl ?_
                    refine gk_if_eq (tgt := 251) G dL_law_231 (by decide) (fun c_231 => ?_) (fun c_231 => ?_)
                    · exact absurd c_231 (by decide)
                    · refine gk_aload G dL_law_234 14 rfl ?_
                      refine gk_iload G dL_law_236 16 rfl ?_
                      refine gk_iald (v := gm_e (M 8 k)) G (q0 := 1) (t0 := 0) rfl rfl k rfl (by omega) (by omega) (pk_us.trans ev136) dL_law_238 ?_
                      refine gk_aload_n G dL_law_239 6 rfl ?_
                      refine gq_hour (Y := (gw_R cI rO nm fo ++ (gw_R cI rA nk (upd ft k v136) ++ (gw_R cI rL nk (upd fl k v125) ++ (gw_R cZ rI nk fi))))) G gL_law_X1_hour hE.1.1 ⟨(Nat.le_of_ble_eq_true rfl), (Nat.le_of_ble_eq_true rfl)⟩ ⟨by show c0 ≤ 600130; omega, by show s0 ≤ 7301080; omega⟩ wf hr158 (Nat.le_of_ble_eq_true rfl) dL_law_240 (fun u240 hr240 => ?_)
                      show gk_C p l e room_1 s m ([.ref b] : List Value).toArray below meth c 23 D A Q c0 s0 ((gw_R cI rO nm fo ++ (gw_R cI rA nk (upd ft k v136) ++ (gw_R cI rL nk (upd fl k v125) ++ (gw_R cZ rI nk fi)))) ++ (gw_X cI cZ g h1 h2 q1 q2 u240 ++ (gp_U cI cJ a v))) [(8, .int (nI ((gm_gct M k) + 1))), (16, .int (nI 1)), (15, .int (gm_e (M 7 k))), (14, .int (-1)), (9, .int (nI ((gm_sum M k) + (M 5 k)))), (0, .ref b), (1, .ref g), (2, .ref a), (3, .int (nI t)), (4, .int x), (5, .int (nI nk)), (6, .int (nI nm)), (7, .ref rI), (10, .ref rL), (11, .ref rA), (12, .ref rO), (13, .int (nI k))] 243 [.int (nI (M 9 0)), .int (gm_e (M 8 k))]
                      refine gk_icmp_gt (tgt := 310) G dL_law_243 (by decide) (fun c_243 => ?_) (fun c_243 => ?_)
                      · (rw [gm_e_pred c_168] at c_243; have := (nI_ltI (by omega) (by omega)).mp c_243; omega)
                      · refine gk_iload G dL_law_246 2 rfl ?_
                        refine gk_if_ge (tgt := 310) G dL_law_248 (by decide) (fun c_248 => ?_) (fun c_248 => ?_)
                        · replace c_248 := (gp_e_ge (n := M 7 k) (by omega)).mp c_248
                          omega
                        · replace c_248 := (not_congr (gp_e_ge (n := M 7 k) (by omega))).mp c_248
                          refine gk_iload G dL_law_251 1 rfl ?_
                          refine gk_iload G dL_law_253 3 rfl ?_
                          refine gk_if_ge (tgt := 262) G dL_law_255 (by decide) (fun c_255 => ?_) (fun c_255 => ?_)
                          · exact absurd c_255 (by decide)
                          · refine gk_iconst (v := nI 1) G dL_law_258 (by decide) ?_
                            refine gk_goto (tgt := 263) G dL_law_259 (by decide) ?_
                            refine gk_icmp_ne (tgt := 310) G dL_law_263 (by decide) (fun c_263 => ?_) (fun c_263 => ?_)
                            · exact absurd c_263 (by decide)
                            · refine gk_iload G dL_law_266 3 rfl ?_
                              refine gk_iload G dL_law_268 10 rfl ?_
                              refine gk_icmp_ge (tgt := 310) G dL_law_270 (by decide) (fun c_270 => ?_) (fun c_270 => ?_)
                              · exact absurd c_270 (nI_ge9 (by omega))
                              · refine gk_iload G dL_law_273 2 rfl ?_
                                refine gk_iload G dL_law_275 11 rfl ?_
                                refine gk_icmp_ge (tgt := 310) G dL_law_277 (by decide) (fun c_277 => ?_) (fun c_277 => ?_)
                                · (have := (gp_e_lei (by omega) (by omega)).mp c_277; omega)
                                · refine gk_iload G dL_law_280 2 rfl ?_
                                  refine gk_if_lt (tgt := 296) G dL_law_282 (by decide) (fun c_282 => ?_) (fun c_282 => ?_)
                                  · replace c_282 := (gp_e_lt (n := M 7 k) (by omega)).mp c_282
                                    refine gk_iload G dL_law_296 3 rfl ?_
                                    refine gk_if_ne (tgt := 312) G dL_law_298 (by decide) (fun c_298 => ?_) (fun c_298 => ?_)
                                    · refine gk_iload G dL_law_312 3 rfl ?_
                                      refine gk_if_ge (tgt := 320) G dL_law_314 (by decide) (fun c_314 => ?_) (fun c_314 => ?_)
                                      · exact absurd c_314 (by decide)
                                      · refine gk_goto (tgt := 461) G dL_law_317 (by decide) ?_
                                        refine gk_iinc (j := 16) (v := nI (k + 1)) (lv' := [(13, .int (nI (k + 1))), (8, .int (nI ((gm_gct M k) + 1))), (16, .int (nI 1)), (15, .int (gm_e (M 7 k))), (14, .int (-1)), (9, .int (nI ((gm_sum M k) + (M 5 k)))), (0, .ref b), (1, .ref g), (2, .ref a), (3, .int (nI t)), (4, .int x), (5, .int (nI nk)), (6, .int (nI nm)), (7, .ref rI), (10, .ref rL), (11, .ref rA), (12, .ref rO)]) G dL_law_461 rfl (nI_add k 1) (by decide) rfl ?_
                                        refine gk_goto (tgt := 108) G dL_law_464 (by decide) ?_
                                        have e9 : gm_gct M (k + 1) = gm_gct M k + 1 := by
                                          show gm_gct M k + (if M 8 k = 0 then 0 else 1) = _
                                          rw [if_neg c_168]
                                        have hfl2 : ∀ j, j < k + 1 → (upd fl k v125) j = nI (M 5 j) := fun j hj => by
                                          by_cases hjk : j = k
                                          · rw [hjk, pk_us]; exact ev125
                                          · rw [pk_un hjk]; exact w2 j (by omega)
                                        have hft2 : ∀ j, j < k + 1 → (upd ft k v136) j = gm_e (M 8 j) := fun j hj => by
                                          by_cases hjk : j = k
                                          · rw [hjk, pk_us]; exact ev136
                                          · rw [pk_un hjk]; exact w3 j (by omega)
                                        have hfi2 : gp_is M nk (k + 1) fi := fun p9 hp9 => w4 p9 (fun i hi => hp9 i (by omega))
                                        have t9 := ih (k + 1) u240 fi (upd fl k v125) (upd ft k v136) (by omega) (by omega) hr240 hfl2 hft2 hfi2
                                        rw [e9] at t9
                                        exact gk_lsub (lv' := [(0, .ref b), (1, .ref g), (2, .ref a), (3, .int (nI t)), (4, .int x), (5, .int (nI nk)), (6, .int (nI nm)), (7, .ref rI), (10, .ref rL), (11, .ref rA), (12, .ref rO), (8, .int (nI (gm_gct M k + 1))), (9, .int (nI (gm_sum M k + M 5 k))), (13, .int (nI (k + 1)))]) [6,7,8,9,10,11,12,13,14,15,16,1,5,0] rfl t9
                                    · exact absurd c_298 (by decide)
                                  · replace c_282 := (not_congr (gp_e_lt (n := M 7 k) (by omega))).mp c_282
                                    omega
  refine gk_iconst (v := nI 0) G dL_law_105 (by decide) ?_
  refine gk_istore (lv' := [(13, .int (nI 0)), (0, .ref b), (1, .ref g), (2, .ref a), (3, .int (nI t)), (4, .int x), (5, .int (nI nk)), (6, .int (nI nm)), (7, .ref rI), (10, .ref rL), (11, .ref rA), (12, .ref rO), (8, .int (nI 0)), (9, .int (nI 0))]) G dL_law_106 (by decide) rfl ?_
  exact gk_lsub (lv' := [(0, .ref b), (1, .ref g), (2, .ref a), (3, .int (nI t)), (4, .int x), (5, .int (nI nk)), (6, .int (nI nm)), (7, .ref rI), (10, .ref rL), (11, .ref rA), (12, .ref rO), (8, .int (nI 0)), (9, .int (nI 0)), (13, .int (nI 0))]) [1,2,3,4,5,6,7,8,9,10,11,12,13,0] rfl (L108 (nk + 1) 0 u fi fl ft (by omega) (Nat.zero_le _) hr (fun j h9 => absurd h9 (Nat.not_lt_zero _)) (fun j h9 => absurd h9 (Nat.not_lt_zero _)) (fun p9 _ => hfi p9))
