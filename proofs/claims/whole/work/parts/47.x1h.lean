set_option maxRecDepth 100000 in
set_option maxHeartbeats 1000000 in
theorem c1_digest (l : Launch) (D : va_G) (cI cZ cJ : ClassId) (g h1 h2 : Nat) (q : Nat → Nat) (F : Nat → Int32) (B : Nat → Nat → Int32) (q2 : Nat → Nat) (F2 : Nat → Int32) (B2 : Nat → Nat → Int32) (M : gm_M) (wf : gm_wf M) (hr : gc_rep F B M) (hrest : gm_rest M) (hh : M 9 0 < 1999000) : gk_L l yX1_digest wsX1_digest ({ frames := 6, cells := 0, slots := 0, locals := 139 } : Room) D (g_T cI cZ cJ) gn_E [.ref g] (gw_G g h1 h2 ++ (gs_W cI cZ h1 q F B ++ (gs_W cI cZ h2 q2 F2 B2))) 0 0 (fun (r : Int64) (u : gw_U) => r = gm_dig M ∧ gc_rep u.1.1 u.1.2 M) (fun u => (gw_X cI cZ g h1 h2 q q2 u)) := by
  refine gk_L_of (cc := cX1_digest) (nL := 4) (by decide +kernel) rfl (Nat.le_of_ble_eq_true rfl) ?_
  intro p e s m below meth c A Q hnm hE G RET
  obtain ⟨hz1, hz2, hz3, hz4, hz5, hz6, hz7, hz8⟩ := id wf
  have hinX0 : ∀ w ∈ wsX00, w ∈ wsX1_digest := fun w h9 => (List.mem_cons_of_mem _ (List.mem_append_left _ (List.mem_append_left _ (List.mem_append_right _ h9))))
  have hinX1 : ∀ w ∈ wsX10, w ∈ wsX1_digest := fun w h9 => (List.mem_cons_of_mem _ (List.mem_append_left _ (List.mem_append_left _ (List.mem_append_left _ (List.mem_append_right _ h9)))))
  have k10 := G.2.2.2.2.1 (.fieldLink RX1 10 "GustMill" "now" "LGustMill$State;") (List.mem_cons_of_mem _ (List.mem_append_left _ (List.mem_append_left _ (List.mem_append_left _ (List.mem_append_left _ (List.mem_append_left _ (List.mem_of_getElem? (i := 1) rfl)))))))
  have kN26 := gn_26 (args := ([.ref g] : List Value).toArray) hE
  have L142 : ∀ (n : Nat) (k : Nat) (F1 : Nat → Int32) (B1 : Nat → Nat → Int32) (G1 : Nat → Int32) (C1 : Nat → Nat → Int32), 8 - k < n → (k ≤ 8) → (gc_rep F1 B1 M) → gk_C p l e ({ frames := 6, cells := 0, slots := 0, locals := 139 } : Room) s m ([.ref g] : List Value).toArray below meth c 4 D A Q 0 0 (gw_G g h1 h2 ++ (gs_W cI cZ h1 q F1 B1 ++ (gs_W cI cZ h2 q2 G1 C1))) [(0, .ref g), (1, .long (gm_dbk M (gm_dsk M (gm_dst M (gm_dh M 11) (M 10 0)) (M 11 0)) k)), (3, .int (nI k))] 142 [] := by
    intro n
    induction n with
    | zero => intro k F1 B1 G1 C1 h0; exact absurd h0 (Nat.not_lt_zero _)
    | succ n ih =>
      intro k F1 B1 G1 C1 h0 w0 w1
      refine gk_iload_n G dX1_digest_142 2 rfl ?_
      refine gk_bipush (v := nI 8) G dX1_digest_143 (by decide) ?_
      refine gk_icmp_ge (tgt := 164) G dX1_digest_145 (by decide) (fun c_145 => ?_) (fun c_145 => ?_)
      · replace c_145 := (nI_leI (a := 8) (b := k) (by omega) (by omega)).mp c_145
        refine gk_lload_n G dX1_digest_164 1 rfl ?_
        exact RET _ _ _ _ _ _ ((F1, B1), (G1, C1)) dX1_digest_165 ⟨(by rw [show k = 8 by omega]; rfl), w1⟩ rfl (Nat.le_of_ble_eq_true rfl) (Nat.le_of_ble_eq_true rfl)
      · replace c_145 := (not_congr (nI_leI (a := 8) (b := k) (by omega) (by omega))).mp c_145
        refine gk_lload_n G dX1_digest_148 1 rfl ?_
        refine gk_aload_n G dX1_digest_149 0 rfl ?_
        refine gk_iload_n G dX1_digest_150 2 rfl ?_
        refine gk_callIV (wr := []) G (c1_leftFor_ok l D cI cZ cJ g h1 h2 q F1 B1 q2 G1 C1 M k wf w1 (by omega)) gX1_digest_X1_leftFor rfl 1 (by decide +kernel) rfl rfl ⟨(Nat.le_of_ble_eq_true rfl), (Nat.le_of_ble_eq_true rfl)⟩ rfl (q0 := 0) rfl (T := TX1) (N := 2) rfl gn_ok hE [0, 1, 2, 3, 4, 5, 6, 7, 8, 9, 10, 11, 12, 13, 14, 15, 16, 17, 18, 19, 20] rfl (by decide) [] rfl (by decide) (by decide) rfl (Nat.le_of_ble_eq_true rfl) dX1_digest_151 ⟨(Nat.le_of_ble_eq_true rfl), (Nat.le_of_ble_eq_true rfl)⟩ (fun r151 u151 hp151 => ?_)
        obtain ⟨⟨F151, B151⟩, ⟨G151, C151⟩⟩ := u151
        have hr151 : gc_rep F151 B151 M := hp151.2
        rw [show r151 = nI (gm_rst M k (M 11 0)) from hp151.1]
        show gk_C p l e ({ frames := 6, cells := 0, slots := 0, locals := 139 } : Room) s m ([.ref g] : List Value).toArray below meth c 4 D A Q 0 0 (gw_G g h1 h2 ++ (gs_W cI cZ h1 q F151 B151 ++ (gs_W cI cZ h2 q2 G151 C151))) [(0, .ref g), (1, .long (gm_dbk M (gm_dsk M (gm_dst M (gm_dh M 11) (M 10 0)) (M 11 0)) k)), (3, .int (nI k))] 154 [.int (nI (gm_rst M k (M 11 0))), .long (gm_dbk M (gm_dsk M (gm_dst M (gm_dh M 11) (M 10 0)) (M 11 0)) k)]
        refine gk_callLS (wc := []) (wr := (gw_G g h1 h2 ++ (gs_W cI cZ h1 q F151 B151 ++ (gs_W cI cZ h2 q2 G151 C151)))) (isC := []) (isR := [0, 1, 2, 3, 4, 5, 6, 7, 8, 9, 10, 11, 12, 13, 14, 15, 16, 17, 18, 19, 20]) G (c1_mix l D cI cZ cJ (gm_dbk M (gm_dsk M (gm_dst M (gm_dh M 11) (M 10 0)) (M 11 0)) k) (nI (gm_rst M k (M 11 0)))) gX1_digest_X1_mix rfl 2 (by decide +kernel) rfl rfl ⟨(Nat.le_of_ble_eq_true rfl), (Nat.le_of_ble_eq_true rfl)⟩ rfl gk_ok0 trivial rfl (by decide) rfl (by decide) (by decide) rfl (Nat.le_of_ble_eq_true rfl) dX1_digest_154 ⟨(Nat.le_of_ble_eq_true rfl), (Nat.le_of_ble_eq_true rfl)⟩ (fun r154 u154 hp154 => ?_)
        rw [show r154 = gm_dbk M (gm_dsk M (gm_dst M (gm_dh M 11) (M 10 0)) (M 11 0)) (k + 1) from hp154]
        show gk_C p l e ({ frames := 6, cells := 0, slots := 0, locals := 139 } : Room) s m ([.ref g] : List Value).toArray below meth c 4 D A Q 0 0 (gw_G g h1 h2 ++ (gs_W cI cZ h1 q F151 B151 ++ (gs_W cI cZ h2 q2 G151 C151))) [(0, .ref g), (1, .long (gm_dbk M (gm_dsk M (gm_dst M (gm_dh M 11) (M 10 0)) (M 11 0)) k)), (3, .int (nI k))] 157 [.long (gm_dbk M (gm_dsk M (gm_dst M (gm_dh M 11) (M 10 0)) (M 11 0)) (k + 1))]
        refine gk_lstore_n (lv' := [(1, .long (gm_dbk M (gm_dsk M (gm_dst M (gm_dh M 11) (M 10 0)) (M 11 0)) (k + 1))), (0, .ref g), (3, .int (nI k))]) G dX1_digest_157 rfl (by decide) rfl ?_
        refine gk_iinc (j := 2) (v := nI (k + 1)) (lv' := [(3, .int (nI (k + 1))), (1, .long (gm_dbk M (gm_dsk M (gm_dst M (gm_dh M 11) (M 10 0)) (M 11 0)) (k + 1))), (0, .ref g)]) G dX1_digest_158 rfl (nI_add k 1) (by decide) rfl ?_
        refine gk_goto (tgt := 142) G dX1_digest_161 (by decide) ?_
        exact gk_lsub [2,1,0] rfl (ih (k + 1) F151 B151 G151 C151 (by omega) (by omega) hr151)
  have L107 : ∀ (n : Nat) (k : Nat) (F1 : Nat → Int32) (B1 : Nat → Nat → Int32) (G1 : Nat → Int32) (C1 : Nat → Nat → Int32), M 10 0 - k < n → (k ≤ M 10 0) → (gc_rep F1 B1 M) → gk_C p l e ({ frames := 6, cells := 0, slots := 0, locals := 139 } : Room) s m ([.ref g] : List Value).toArray below meth c 4 D A Q 0 0 (gw_G g h1 h2 ++ (gs_W cI cZ h1 q F1 B1 ++ (gs_W cI cZ h2 q2 G1 C1))) [(0, .ref g), (1, .long (gm_dst M (gm_dh M 11) k)), (3, .int (nI k))] 107 [] := by
    intro n
    induction n with
    | zero => intro k F1 B1 G1 C1 h0; exact absurd h0 (Nat.not_lt_zero _)
    | succ n ih =>
      intro k F1 B1 G1 C1 h0 w0 w1
      refine gk_iload_n G dX1_digest_107 2 rfl ?_
      refine gk_aload_n G dX1_digest_108 0 rfl ?_
      refine gk_get (v' := .ref h1) G hinX1 (q0 := 0) rfl rfl 0 (by decide) k10 rfl rfl dX1_digest_109 ?_
      refine gk_getN (v' := .int (nI (M 10 0))) G hinX0 (q0 := 1) rfl rfl 10 (by decide) kN26 rfl (congrArg Value.int (w1.1.2.1)) dX1_digest_112 ?_
      refine gk_icmp_ge (tgt := 134) G dX1_digest_115 (by decide) (fun c_115 => ?_) (fun c_115 => ?_)
      · replace c_115 := (nI_leI (a := M 10 0) (b := k) (by omega) (by omega)).mp c_115
        obtain rfl : k = M 10 0 := by omega
        show gk_C p l e ({ frames := 6, cells := 0, slots := 0, locals := 139 } : Room) s m ([.ref g] : List Value).toArray below meth c 4 D A Q 0 0 (gw_G g h1 h2 ++ (gs_W cI cZ h1 q F1 B1 ++ (gs_W cI cZ h2 q2 G1 C1))) [(0, .ref g), (1, .long (gm_dst M (gm_dh M 11) (M 10 0))), (3, .int (nI (M 10 0)))] 134 []
        refine gk_aload_n G dX1_digest_134 0 rfl ?_
        refine gk_lload_n G dX1_digest_135 1 rfl ?_
        refine gk_callLV (wr := []) G (c1_mixSacks l D cI cZ cJ g h1 h2 q F1 B1 q2 G1 C1 M (gm_dst M (gm_dh M 11) (M 10 0)) wf w1 hrest hh) gX1_digest_X1_mixSacks rfl 1 (by decide +kernel) rfl rfl ⟨(Nat.le_of_ble_eq_true rfl), (Nat.le_of_ble_eq_true rfl)⟩ rfl (q0 := 0) rfl (T := TX1) (N := 2) rfl gn_ok hE [0, 1, 2, 3, 4, 5, 6, 7, 8, 9, 10, 11, 12, 13, 14, 15, 16, 17, 18, 19, 20] rfl (by decide) [] rfl (by decide) (by decide) rfl (Nat.le_of_ble_eq_true rfl) dX1_digest_136 ⟨(Nat.le_of_ble_eq_true rfl), (Nat.le_of_ble_eq_true rfl)⟩ (fun r136 u136 hp136 => ?_)
        obtain ⟨⟨F136, B136⟩, ⟨G136, C136⟩⟩ := u136
        have hr136 : gc_rep F136 B136 M := hp136.2
        rw [show r136 = gm_dsk M (gm_dst M (gm_dh M 11) (M 10 0)) (M 11 0) from hp136.1]
        show gk_C p l e ({ frames := 6, cells := 0, slots := 0, locals := 139 } : Room) s m ([.ref g] : List Value).toArray below meth c 4 D A Q 0 0 (gw_G g h1 h2 ++ (gs_W cI cZ h1 q F136 B136 ++ (gs_W cI cZ h2 q2 G136 C136))) [(0, .ref g), (1, .long (gm_dst M (gm_dh M 11) (M 10 0))), (3, .int (nI (M 10 0)))] 139 [.long (gm_dsk M (gm_dst M (gm_dh M 11) (M 10 0)) (M 11 0))]
        refine gk_lstore_n (lv' := [(1, .long (gm_dsk M (gm_dst M (gm_dh M 11) (M 10 0)) (M 11 0))), (0, .ref g), (3, .int (nI (M 10 0)))]) G dX1_digest_139 rfl (by decide) rfl ?_
        refine gk_iconst (v := nI 0) G dX1_digest_140 (by decide) ?_
        refine gk_istore_n (lv' := [(3, .int (nI 0)), (1, .long (gm_dsk M (gm_dst M (gm_dh M 11) (M 10 0)) (M 11 0))), (0, .ref g)]) G dX1_digest_141 rfl (by decide) rfl ?_
        exact gk_lsub [2,1,0] rfl (L142 9 0 F136 B136 G136 C136 (by omega) (by omega) hr136)
      · replace c_115 := (not_congr (nI_leI (a := M 10 0) (b := k) (by omega) (by omega))).mp c_115
        refine gk_lload_n G dX1_digest_118 1 rfl ?_
        refine gk_aload_n G dX1_digest_119 0 rfl ?_
        refine gk_iload_n G dX1_digest_120 2 rfl ?_
        refine gk_callIV (wr := []) G (c1_sackOn_ok l D cI cZ cJ g h1 h2 q F1 B1 q2 G1 C1 M k wf w1 (by omega)) gX1_digest_X1_sackOn rfl 1 (by decide +kernel) rfl rfl ⟨(Nat.le_of_ble_eq_true rfl), (Nat.le_of_ble_eq_true rfl)⟩ rfl (q0 := 0) rfl (T := TX1) (N := 2) rfl gn_ok hE [0, 1, 2, 3, 4, 5, 6, 7, 8, 9, 10, 11, 12, 13, 14, 15, 16, 17, 18, 19, 20] rfl (by decide) [] rfl (by decide) (by decide) rfl (Nat.le_of_ble_eq_true rfl) dX1_digest_121 ⟨(Nat.le_of_ble_eq_true rfl), (Nat.le_of_ble_eq_true rfl)⟩ (fun r121 u121 hp121 => ?_)
        obtain ⟨⟨F121, B121⟩, ⟨G121, C121⟩⟩ := u121
        have hr121 : gc_rep F121 B121 M := hp121.2
        rw [show r121 = gm_e (gm_who M k (M 11 0)) from hp121.1]
        show gk_C p l e ({ frames := 6, cells := 0, slots := 0, locals := 139 } : Room) s m ([.ref g] : List Value).toArray below meth c 4 D A Q 0 0 (gw_G g h1 h2 ++ (gs_W cI cZ h1 q F121 B121 ++ (gs_W cI cZ h2 q2 G121 C121))) [(0, .ref g), (1, .long (gm_dst M (gm_dh M 11) k)), (3, .int (nI k))] 124 [.int (gm_e (gm_who M k (M 11 0))), .long (gm_dst M (gm_dh M 11) k)]
        refine gk_callLS (wc := []) (wr := (gw_G g h1 h2 ++ (gs_W cI cZ h1 q F121 B121 ++ (gs_W cI cZ h2 q2 G121 C121)))) (isC := []) (isR := [0, 1, 2, 3, 4, 5, 6, 7, 8, 9, 10, 11, 12, 13, 14, 15, 16, 17, 18, 19, 20]) G (c1_mix l D cI cZ cJ (gm_dst M (gm_dh M 11) k) (gm_e (gm_who M k (M 11 0)))) gX1_digest_X1_mix rfl 2 (by decide +kernel) rfl rfl ⟨(Nat.le_of_ble_eq_true rfl), (Nat.le_of_ble_eq_true rfl)⟩ rfl gk_ok0 trivial rfl (by decide) rfl (by decide) (by decide) rfl (Nat.le_of_ble_eq_true rfl) dX1_digest_124 ⟨(Nat.le_of_ble_eq_true rfl), (Nat.le_of_ble_eq_true rfl)⟩ (fun r124 u124 hp124 => ?_)
        rw [show r124 = gm_dst M (gm_dh M 11) (k + 1) from hp124]
        show gk_C p l e ({ frames := 6, cells := 0, slots := 0, locals := 139 } : Room) s m ([.ref g] : List Value).toArray below meth c 4 D A Q 0 0 (gw_G g h1 h2 ++ (gs_W cI cZ h1 q F121 B121 ++ (gs_W cI cZ h2 q2 G121 C121))) [(0, .ref g), (1, .long (gm_dst M (gm_dh M 11) k)), (3, .int (nI k))] 127 [.long (gm_dst M (gm_dh M 11) (k + 1))]
        refine gk_lstore_n (lv' := [(1, .long (gm_dst M (gm_dh M 11) (k + 1))), (0, .ref g), (3, .int (nI k))]) G dX1_digest_127 rfl (by decide) rfl ?_
        refine gk_iinc (j := 2) (v := nI (k + 1)) (lv' := [(3, .int (nI (k + 1))), (1, .long (gm_dst M (gm_dh M 11) (k + 1))), (0, .ref g)]) G dX1_digest_128 rfl (nI_add k 1) (by decide) rfl ?_
        refine gk_goto (tgt := 107) G dX1_digest_131 (by decide) ?_
        exact gk_lsub [2,1,0] rfl (ih (k + 1) F121 B121 G121 C121 (by omega) (by omega) hr121)
  refine gk_ldc2 (v := (2281)) G (G.2.2.2.2.1 (.constantLong RX1 151 (2281)) (List.mem_cons_of_mem _ (List.mem_append_left _ (List.mem_append_left _ (List.mem_append_left _ (List.mem_append_left _ (List.mem_append_left _ (List.mem_of_getElem? (i := 0) rfl)))))))) dX1_digest_0 ?_
  refine gk_lstore_n (lv' := [(1, .long 2281), (0, .ref g)]) G dX1_digest_3 rfl (by decide) rfl ?_
  refine gk_lload_n G dX1_digest_4 0 rfl ?_
  refine gk_aload_n G dX1_digest_5 1 rfl ?_
  refine gk_callIV (wr := []) G (c1_hour l D cI cZ cJ g h1 h2 q F B q2 F2 B2 M wf hr) gX1_digest_X1_hour rfl 0 (by decide +kernel) rfl rfl ⟨(Nat.le_of_ble_eq_true rfl), (Nat.le_of_ble_eq_true rfl)⟩ rfl (q0 := 0) rfl (T := TX1) (N := 2) rfl gn_ok hE [0, 1, 2, 3, 4, 5, 6, 7, 8, 9, 10, 11, 12, 13, 14, 15, 16, 17, 18, 19, 20] rfl (by decide) [] rfl (by decide) (by decide) rfl (Nat.le_of_ble_eq_true rfl) dX1_digest_6 ⟨(Nat.le_of_ble_eq_true rfl), (Nat.le_of_ble_eq_true rfl)⟩ (fun r6 u6 hp6 => ?_)
  obtain ⟨⟨F6, B6⟩, ⟨G6, C6⟩⟩ := u6
  have hr6 : gc_rep F6 B6 M := hp6.2
  rw [show r6 = nI (M 9 0) from hp6.1]
  show gk_C p l e ({ frames := 6, cells := 0, slots := 0, locals := 139 } : Room) s m ([.ref g] : List Value).toArray below meth c 4 D A Q 0 0 (gw_G g h1 h2 ++ (gs_W cI cZ h1 q F6 B6 ++ (gs_W cI cZ h2 q2 G6 C6))) [(1, .long 2281), (0, .ref g)] 9 [.int (nI (M 9 0)), .long 2281]
  refine gk_callLS (wc := []) (wr := (gw_G g h1 h2 ++ (gs_W cI cZ h1 q F6 B6 ++ (gs_W cI cZ h2 q2 G6 C6)))) (isC := []) (isR := [0, 1, 2, 3, 4, 5, 6, 7, 8, 9, 10, 11, 12, 13, 14, 15, 16, 17, 18, 19, 20]) G (c1_mix l D cI cZ cJ 2281 (nI (M 9 0))) gX1_digest_X1_mix rfl 2 (by decide +kernel) rfl rfl ⟨(Nat.le_of_ble_eq_true rfl), (Nat.le_of_ble_eq_true rfl)⟩ rfl gk_ok0 trivial rfl (by decide) rfl (by decide) (by decide) rfl (Nat.le_of_ble_eq_true rfl) dX1_digest_9 ⟨(Nat.le_of_ble_eq_true rfl), (Nat.le_of_ble_eq_true rfl)⟩ (fun r9 u9 hp9 => ?_)
  rw [show r9 = gm_dh M 1 from hp9]
  show gk_C p l e ({ frames := 6, cells := 0, slots := 0, locals := 139 } : Room) s m ([.ref g] : List Value).toArray below meth c 4 D A Q 0 0 (gw_G g h1 h2 ++ (gs_W cI cZ h1 q F6 B6 ++ (gs_W cI cZ h2 q2 G6 C6))) [(1, .long 2281), (0, .ref g)] 12 [.long (gm_dh M 1)]
  refine gk_lstore_n (lv' := [(1, .long (gm_dh M 1)), (0, .ref g)]) G dX1_digest_12 rfl (by decide) rfl ?_
  refine gk_lload_n G dX1_digest_13 0 rfl ?_
  refine gk_aload_n G dX1_digest_14 1 rfl ?_
  refine gk_callIV (wr := []) G (c1_stones l D cI cZ cJ g h1 h2 q F6 B6 q2 G6 C6 M wf hr6) gX1_digest_X1_stones rfl 0 (by decide +kernel) rfl rfl ⟨(Nat.le_of_ble_eq_true rfl), (Nat.le_of_ble_eq_true rfl)⟩ rfl (q0 := 0) rfl (T := TX1) (N := 2) rfl gn_ok hE [0, 1, 2, 3, 4, 5, 6, 7, 8, 9, 10, 11, 12, 13, 14, 15, 16, 17, 18, 19, 20] rfl (by decide) [] rfl (by decide) (by decide) rfl (Nat.le_of_ble_eq_true rfl) dX1_digest_15 ⟨(Nat.le_of_ble_eq_true rfl), (Nat.le_of_ble_eq_true rfl)⟩ (fun r15 u15 hp15 => ?_)
  obtain ⟨⟨F15, B15⟩, ⟨G15, C15⟩⟩ := u15
  have hr15 : gc_rep F15 B15 M := hp15.2
  rw [show r15 = nI (M 10 0) from hp15.1]
  show gk_C p l e ({ frames := 6, cells := 0, slots := 0, locals := 139 } : Room) s m ([.ref g] : List Value).toArray below meth c 4 D A Q 0 0 (gw_G g h1 h2 ++ (gs_W cI cZ h1 q F15 B15 ++ (gs_W cI cZ h2 q2 G15 C15))) [(1, .long (gm_dh M 1)), (0, .ref g)] 18 [.int (nI (M 10 0)), .long (gm_dh M 1)]
  refine gk_callLS (wc := []) (wr := (gw_G g h1 h2 ++ (gs_W cI cZ h1 q F15 B15 ++ (gs_W cI cZ h2 q2 G15 C15)))) (isC := []) (isR := [0, 1, 2, 3, 4, 5, 6, 7, 8, 9, 10, 11, 12, 13, 14, 15, 16, 17, 18, 19, 20]) G (c1_mix l D cI cZ cJ (gm_dh M 1) (nI (M 10 0))) gX1_digest_X1_mix rfl 2 (by decide +kernel) rfl rfl ⟨(Nat.le_of_ble_eq_true rfl), (Nat.le_of_ble_eq_true rfl)⟩ rfl gk_ok0 trivial rfl (by decide) rfl (by decide) (by decide) rfl (Nat.le_of_ble_eq_true rfl) dX1_digest_18 ⟨(Nat.le_of_ble_eq_true rfl), (Nat.le_of_ble_eq_true rfl)⟩ (fun r18 u18 hp18 => ?_)
  rw [show r18 = gm_dh M 2 from hp18]
  show gk_C p l e ({ frames := 6, cells := 0, slots := 0, locals := 139 } : Room) s m ([.ref g] : List Value).toArray below meth c 4 D A Q 0 0 (gw_G g h1 h2 ++ (gs_W cI cZ h1 q F15 B15 ++ (gs_W cI cZ h2 q2 G15 C15))) [(1, .long (gm_dh M 1)), (0, .ref g)] 21 [.long (gm_dh M 2)]
  refine gk_lstore_n (lv' := [(1, .long (gm_dh M 2)), (0, .ref g)]) G dX1_digest_21 rfl (by decide) rfl ?_
  refine gk_lload_n G dX1_digest_22 0 rfl ?_
  refine gk_aload_n G dX1_digest_23 1 rfl ?_
  refine gk_callIV (wr := []) G (c1_sacks l D cI cZ cJ g h1 h2 q F15 B15 q2 G15 C15 M wf hr15) gX1_digest_X1_sacks rfl 0 (by decide +kernel) rfl rfl ⟨(Nat.le_of_ble_eq_true rfl), (Nat.le_of_ble_eq_true rfl)⟩ rfl (q0 := 0) rfl (T := TX1) (N := 2) rfl gn_ok hE [0, 1, 2, 3, 4, 5, 6, 7, 8, 9, 10, 11, 12, 13, 14, 15, 16, 17, 18, 19, 20] rfl (by decide) [] rfl (by decide) (by decide) rfl (Nat.le_of_ble_eq_true rfl) dX1_digest_24 ⟨(Nat.le_of_ble_eq_true rfl), (Nat.le_of_ble_eq_true rfl)⟩ (fun r24 u24 hp24 => ?_)
  obtain ⟨⟨F24, B24⟩, ⟨G24, C24⟩⟩ := u24
  have hr24 : gc_rep F24 B24 M := hp24.2
  rw [show r24 = nI (M 11 0) from hp24.1]
  show gk_C p l e ({ frames := 6, cells := 0, slots := 0, locals := 139 } : Room) s m ([.ref g] : List Value).toArray below meth c 4 D A Q 0 0 (gw_G g h1 h2 ++ (gs_W cI cZ h1 q F24 B24 ++ (gs_W cI cZ h2 q2 G24 C24))) [(1, .long (gm_dh M 2)), (0, .ref g)] 27 [.int (nI (M 11 0)), .long (gm_dh M 2)]
  refine gk_callLS (wc := []) (wr := (gw_G g h1 h2 ++ (gs_W cI cZ h1 q F24 B24 ++ (gs_W cI cZ h2 q2 G24 C24)))) (isC := []) (isR := [0, 1, 2, 3, 4, 5, 6, 7, 8, 9, 10, 11, 12, 13, 14, 15, 16, 17, 18, 19, 20]) G (c1_mix l D cI cZ cJ (gm_dh M 2) (nI (M 11 0))) gX1_digest_X1_mix rfl 2 (by decide +kernel) rfl rfl ⟨(Nat.le_of_ble_eq_true rfl), (Nat.le_of_ble_eq_true rfl)⟩ rfl gk_ok0 trivial rfl (by decide) rfl (by decide) (by decide) rfl (Nat.le_of_ble_eq_true rfl) dX1_digest_27 ⟨(Nat.le_of_ble_eq_true rfl), (Nat.le_of_ble_eq_true rfl)⟩ (fun r27 u27 hp27 => ?_)
  rw [show r27 = gm_dh M 3 from hp27]
  show gk_C p l e ({ frames := 6, cells := 0, slots := 0, locals := 139 } : Room) s m ([.ref g] : List Value).toArray below meth c 4 D A Q 0 0 (gw_G g h1 h2 ++ (gs_W cI cZ h1 q F24 B24 ++ (gs_W cI cZ h2 q2 G24 C24))) [(1, .long (gm_dh M 2)), (0, .ref g)] 30 [.long (gm_dh M 3)]
  refine gk_lstore_n (lv' := [(1, .long (gm_dh M 3)), (0, .ref g)]) G dX1_digest_30 rfl (by decide) rfl ?_
  refine gk_lload_n G dX1_digest_31 0 rfl ?_
  refine gk_aload_n G dX1_digest_32 1 rfl ?_
  refine gk_callIV (wr := []) G (c1_rule l D cI cZ cJ g h1 h2 q F24 B24 q2 G24 C24 M wf hr24) gX1_digest_X1_rule rfl 0 (by decide +kernel) rfl rfl ⟨(Nat.le_of_ble_eq_true rfl), (Nat.le_of_ble_eq_true rfl)⟩ rfl (q0 := 0) rfl (T := TX1) (N := 2) rfl gn_ok hE [0, 1, 2, 3, 4, 5, 6, 7, 8, 9, 10, 11, 12, 13, 14, 15, 16, 17, 18, 19, 20] rfl (by decide) [] rfl (by decide) (by decide) rfl (Nat.le_of_ble_eq_true rfl) dX1_digest_33 ⟨(Nat.le_of_ble_eq_true rfl), (Nat.le_of_ble_eq_true rfl)⟩ (fun r33 u33 hp33 => ?_)
  obtain ⟨⟨F33, B33⟩, ⟨G33, C33⟩⟩ := u33
  have hr33 : gc_rep F33 B33 M := hp33.2
  rw [show r33 = nI (M 14 0) from hp33.1]
  show gk_C p l e ({ frames := 6, cells := 0, slots := 0, locals := 139 } : Room) s m ([.ref g] : List Value).toArray below meth c 4 D A Q 0 0 (gw_G g h1 h2 ++ (gs_W cI cZ h1 q F33 B33 ++ (gs_W cI cZ h2 q2 G33 C33))) [(1, .long (gm_dh M 3)), (0, .ref g)] 36 [.int (nI (M 14 0)), .long (gm_dh M 3)]
  refine gk_callLS (wc := []) (wr := (gw_G g h1 h2 ++ (gs_W cI cZ h1 q F33 B33 ++ (gs_W cI cZ h2 q2 G33 C33)))) (isC := []) (isR := [0, 1, 2, 3, 4, 5, 6, 7, 8, 9, 10, 11, 12, 13, 14, 15, 16, 17, 18, 19, 20]) G (c1_mix l D cI cZ cJ (gm_dh M 3) (nI (M 14 0))) gX1_digest_X1_mix rfl 2 (by decide +kernel) rfl rfl ⟨(Nat.le_of_ble_eq_true rfl), (Nat.le_of_ble_eq_true rfl)⟩ rfl gk_ok0 trivial rfl (by decide) rfl (by decide) (by decide) rfl (Nat.le_of_ble_eq_true rfl) dX1_digest_36 ⟨(Nat.le_of_ble_eq_true rfl), (Nat.le_of_ble_eq_true rfl)⟩ (fun r36 u36 hp36 => ?_)
  rw [show r36 = gm_dh M 4 from hp36]
  show gk_C p l e ({ frames := 6, cells := 0, slots := 0, locals := 139 } : Room) s m ([.ref g] : List Value).toArray below meth c 4 D A Q 0 0 (gw_G g h1 h2 ++ (gs_W cI cZ h1 q F33 B33 ++ (gs_W cI cZ h2 q2 G33 C33))) [(1, .long (gm_dh M 3)), (0, .ref g)] 39 [.long (gm_dh M 4)]
  refine gk_lstore_n (lv' := [(1, .long (gm_dh M 4)), (0, .ref g)]) G dX1_digest_39 rfl (by decide) rfl ?_
  refine gk_lload_n G dX1_digest_40 0 rfl ?_
  refine gk_aload_n G dX1_digest_41 1 rfl ?_
  refine gk_callIV (wr := []) G (c1_wind l D cI cZ cJ g h1 h2 q F33 B33 q2 G33 C33 M wf hr33 (by omega)) gX1_digest_X1_wind rfl 0 (by decide +kernel) rfl rfl ⟨(Nat.le_of_ble_eq_true rfl), (Nat.le_of_ble_eq_true rfl)⟩ rfl (q0 := 0) rfl (T := TX1) (N := 2) rfl gn_ok hE [0, 1, 2, 3, 4, 5, 6, 7, 8, 9, 10, 11, 12, 13, 14, 15, 16, 17, 18, 19, 20] rfl (by decide) [] rfl (by decide) (by decide) rfl (Nat.le_of_ble_eq_true rfl) dX1_digest_42 ⟨(Nat.le_of_ble_eq_true rfl), (Nat.le_of_ble_eq_true rfl)⟩ (fun r42 u42 hp42 => ?_)
  obtain ⟨⟨F42, B42⟩, ⟨G42, C42⟩⟩ := u42
  have hr42 : gc_rep F42 B42 M := hp42.2
  rw [show r42 = nI (gm_wnd M) from hp42.1]
  show gk_C p l e ({ frames := 6, cells := 0, slots := 0, locals := 139 } : Room) s m ([.ref g] : List Value).toArray below meth c 4 D A Q 0 0 (gw_G g h1 h2 ++ (gs_W cI cZ h1 q F42 B42 ++ (gs_W cI cZ h2 q2 G42 C42))) [(1, .long (gm_dh M 4)), (0, .ref g)] 45 [.int (nI (gm_wnd M)), .long (gm_dh M 4)]
  refine gk_callLS (wc := []) (wr := (gw_G g h1 h2 ++ (gs_W cI cZ h1 q F42 B42 ++ (gs_W cI cZ h2 q2 G42 C42)))) (isC := []) (isR := [0, 1, 2, 3, 4, 5, 6, 7, 8, 9, 10, 11, 12, 13, 14, 15, 16, 17, 18, 19, 20]) G (c1_mix l D cI cZ cJ (gm_dh M 4) (nI (gm_wnd M))) gX1_digest_X1_mix rfl 2 (by decide +kernel) rfl rfl ⟨(Nat.le_of_ble_eq_true rfl), (Nat.le_of_ble_eq_true rfl)⟩ rfl gk_ok0 trivial rfl (by decide) rfl (by decide) (by decide) rfl (Nat.le_of_ble_eq_true rfl) dX1_digest_45 ⟨(Nat.le_of_ble_eq_true rfl), (Nat.le_of_ble_eq_true rfl)⟩ (fun r45 u45 hp45 => ?_)
  rw [show r45 = gm_dh M 5 from hp45]
  show gk_C p l e ({ frames := 6, cells := 0, slots := 0, locals := 139 } : Room) s m ([.ref g] : List Value).toArray below meth c 4 D A Q 0 0 (gw_G g h1 h2 ++ (gs_W cI cZ h1 q F42 B42 ++ (gs_W cI cZ h2 q2 G42 C42))) [(1, .long (gm_dh M 4)), (0, .ref g)] 48 [.long (gm_dh M 5)]
  refine gk_lstore_n (lv' := [(1, .long (gm_dh M 5)), (0, .ref g)]) G dX1_digest_48 rfl (by decide) rfl ?_
  refine gk_lload_n G dX1_digest_49 0 rfl ?_
  refine gk_aload_n G dX1_digest_50 1 rfl ?_
  refine gk_callIV (wr := []) G (c1_ground l D cI cZ cJ g h1 h2 q F42 B42 q2 G42 C42 M wf hr42) gX1_digest_X1_ground rfl 0 (by decide +kernel) rfl rfl ⟨(Nat.le_of_ble_eq_true rfl), (Nat.le_of_ble_eq_true rfl)⟩ rfl (q0 := 0) rfl (T := TX1) (N := 2) rfl gn_ok hE [0, 1, 2, 3, 4, 5, 6, 7, 8, 9, 10, 11, 12, 13, 14, 15, 16, 17, 18, 19, 20] rfl (by decide) [] rfl (by decide) (by decide) rfl (Nat.le_of_ble_eq_true rfl) dX1_digest_51 ⟨(Nat.le_of_ble_eq_true rfl), (Nat.le_of_ble_eq_true rfl)⟩ (fun r51 u51 hp51 => ?_)
  obtain ⟨⟨F51, B51⟩, ⟨G51, C51⟩⟩ := u51
  have hr51 : gc_rep F51 B51 M := hp51.2
  rw [show r51 = nI (gm_gct M (M 11 0)) from hp51.1]
  show gk_C p l e ({ frames := 6, cells := 0, slots := 0, locals := 139 } : Room) s m ([.ref g] : List Value).toArray below meth c 4 D A Q 0 0 (gw_G g h1 h2 ++ (gs_W cI cZ h1 q F51 B51 ++ (gs_W cI cZ h2 q2 G51 C51))) [(1, .long (gm_dh M 5)), (0, .ref g)] 54 [.int (nI (gm_gct M (M 11 0))), .long (gm_dh M 5)]
  refine gk_callLS (wc := []) (wr := (gw_G g h1 h2 ++ (gs_W cI cZ h1 q F51 B51 ++ (gs_W cI cZ h2 q2 G51 C51)))) (isC := []) (isR := [0, 1, 2, 3, 4, 5, 6, 7, 8, 9, 10, 11, 12, 13, 14, 15, 16, 17, 18, 19, 20]) G (c1_mix l D cI cZ cJ (gm_dh M 5) (nI (gm_gct M (M 11 0)))) gX1_digest_X1_mix rfl 2 (by decide +kernel) rfl rfl ⟨(Nat.le_of_ble_eq_true rfl), (Nat.le_of_ble_eq_true rfl)⟩ rfl gk_ok0 trivial rfl (by decide) rfl (by decide) (by decide) rfl (Nat.le_of_ble_eq_true rfl) dX1_digest_54 ⟨(Nat.le_of_ble_eq_true rfl), (Nat.le_of_ble_eq_true rfl)⟩ (fun r54 u54 hp54 => ?_)
  rw [show r54 = gm_dh M 6 from hp54]
  show gk_C p l e ({ frames := 6, cells := 0, slots := 0, locals := 139 } : Room) s m ([.ref g] : List Value).toArray below meth c 4 D A Q 0 0 (gw_G g h1 h2 ++ (gs_W cI cZ h1 q F51 B51 ++ (gs_W cI cZ h2 q2 G51 C51))) [(1, .long (gm_dh M 5)), (0, .ref g)] 57 [.long (gm_dh M 6)]
  refine gk_lstore_n (lv' := [(1, .long (gm_dh M 6)), (0, .ref g)]) G dX1_digest_57 rfl (by decide) rfl ?_
  refine gk_lload_n G dX1_digest_58 0 rfl ?_
  refine gk_aload_n G dX1_digest_59 1 rfl ?_
  refine gk_callIV (wr := []) G (c1_changes l D cI cZ cJ g h1 h2 q F51 B51 q2 G51 C51 M wf hr51) gX1_digest_X1_changes rfl 0 (by decide +kernel) rfl rfl ⟨(Nat.le_of_ble_eq_true rfl), (Nat.le_of_ble_eq_true rfl)⟩ rfl (q0 := 0) rfl (T := TX1) (N := 2) rfl gn_ok hE [0, 1, 2, 3, 4, 5, 6, 7, 8, 9, 10, 11, 12, 13, 14, 15, 16, 17, 18, 19, 20] rfl (by decide) [] rfl (by decide) (by decide) rfl (Nat.le_of_ble_eq_true rfl) dX1_digest_60 ⟨(Nat.le_of_ble_eq_true rfl), (Nat.le_of_ble_eq_true rfl)⟩ (fun r60 u60 hp60 => ?_)
  obtain ⟨⟨F60, B60⟩, ⟨G60, C60⟩⟩ := u60
  have hr60 : gc_rep F60 B60 M := hp60.2
  rw [show r60 = nI (M 13 0) from hp60.1]
  show gk_C p l e ({ frames := 6, cells := 0, slots := 0, locals := 139 } : Room) s m ([.ref g] : List Value).toArray below meth c 4 D A Q 0 0 (gw_G g h1 h2 ++ (gs_W cI cZ h1 q F60 B60 ++ (gs_W cI cZ h2 q2 G60 C60))) [(1, .long (gm_dh M 6)), (0, .ref g)] 63 [.int (nI (M 13 0)), .long (gm_dh M 6)]
  refine gk_callLS (wc := []) (wr := (gw_G g h1 h2 ++ (gs_W cI cZ h1 q F60 B60 ++ (gs_W cI cZ h2 q2 G60 C60)))) (isC := []) (isR := [0, 1, 2, 3, 4, 5, 6, 7, 8, 9, 10, 11, 12, 13, 14, 15, 16, 17, 18, 19, 20]) G (c1_mix l D cI cZ cJ (gm_dh M 6) (nI (M 13 0))) gX1_digest_X1_mix rfl 2 (by decide +kernel) rfl rfl ⟨(Nat.le_of_ble_eq_true rfl), (Nat.le_of_ble_eq_true rfl)⟩ rfl gk_ok0 trivial rfl (by decide) rfl (by decide) (by decide) rfl (Nat.le_of_ble_eq_true rfl) dX1_digest_63 ⟨(Nat.le_of_ble_eq_true rfl), (Nat.le_of_ble_eq_true rfl)⟩ (fun r63 u63 hp63 => ?_)
  rw [show r63 = gm_dh M 7 from hp63]
  show gk_C p l e ({ frames := 6, cells := 0, slots := 0, locals := 139 } : Room) s m ([.ref g] : List Value).toArray below meth c 4 D A Q 0 0 (gw_G g h1 h2 ++ (gs_W cI cZ h1 q F60 B60 ++ (gs_W cI cZ h2 q2 G60 C60))) [(1, .long (gm_dh M 6)), (0, .ref g)] 66 [.long (gm_dh M 7)]
  refine gk_lstore_n (lv' := [(1, .long (gm_dh M 7)), (0, .ref g)]) G dX1_digest_66 rfl (by decide) rfl ?_
  refine gk_lload_n G dX1_digest_67 0 rfl ?_
  refine gk_aload_n G dX1_digest_68 1 rfl ?_
  refine gk_callIV (wr := []) G (c1_first l D cI cZ cJ g h1 h2 q F60 B60 q2 G60 C60 M wf hr60 hrest) gX1_digest_X1_first rfl 0 (by decide +kernel) rfl rfl ⟨(Nat.le_of_ble_eq_true rfl), (Nat.le_of_ble_eq_true rfl)⟩ rfl (q0 := 0) rfl (T := TX1) (N := 2) rfl gn_ok hE [0, 1, 2, 3, 4, 5, 6, 7, 8, 9, 10, 11, 12, 13, 14, 15, 16, 17, 18, 19, 20] rfl (by decide) [] rfl (by decide) (by decide) rfl (Nat.le_of_ble_eq_true rfl) dX1_digest_69 ⟨(Nat.le_of_ble_eq_true rfl), (Nat.le_of_ble_eq_true rfl)⟩ (fun r69 u69 hp69 => ?_)
  obtain ⟨⟨F69, B69⟩, ⟨G69, C69⟩⟩ := u69
  have hr69 : gc_rep F69 B69 M := hp69.2
  rw [show r69 = gm_e (gm_nxt M 0 (M 11 0)) from hp69.1]
  show gk_C p l e ({ frames := 6, cells := 0, slots := 0, locals := 139 } : Room) s m ([.ref g] : List Value).toArray below meth c 4 D A Q 0 0 (gw_G g h1 h2 ++ (gs_W cI cZ h1 q F69 B69 ++ (gs_W cI cZ h2 q2 G69 C69))) [(1, .long (gm_dh M 7)), (0, .ref g)] 72 [.int (gm_e (gm_nxt M 0 (M 11 0))), .long (gm_dh M 7)]
  refine gk_callLS (wc := []) (wr := (gw_G g h1 h2 ++ (gs_W cI cZ h1 q F69 B69 ++ (gs_W cI cZ h2 q2 G69 C69)))) (isC := []) (isR := [0, 1, 2, 3, 4, 5, 6, 7, 8, 9, 10, 11, 12, 13, 14, 15, 16, 17, 18, 19, 20]) G (c1_mix l D cI cZ cJ (gm_dh M 7) (gm_e (gm_nxt M 0 (M 11 0)))) gX1_digest_X1_mix rfl 2 (by decide +kernel) rfl rfl ⟨(Nat.le_of_ble_eq_true rfl), (Nat.le_of_ble_eq_true rfl)⟩ rfl gk_ok0 trivial rfl (by decide) rfl (by decide) (by decide) rfl (Nat.le_of_ble_eq_true rfl) dX1_digest_72 ⟨(Nat.le_of_ble_eq_true rfl), (Nat.le_of_ble_eq_true rfl)⟩ (fun r72 u72 hp72 => ?_)
  rw [show r72 = gm_dh M 8 from hp72]
  show gk_C p l e ({ frames := 6, cells := 0, slots := 0, locals := 139 } : Room) s m ([.ref g] : List Value).toArray below meth c 4 D A Q 0 0 (gw_G g h1 h2 ++ (gs_W cI cZ h1 q F69 B69 ++ (gs_W cI cZ h2 q2 G69 C69))) [(1, .long (gm_dh M 7)), (0, .ref g)] 75 [.long (gm_dh M 8)]
  refine gk_lstore_n (lv' := [(1, .long (gm_dh M 8)), (0, .ref g)]) G dX1_digest_75 rfl (by decide) rfl ?_
  refine gk_lload_n G dX1_digest_76 0 rfl ?_
  refine gk_aload_n G dX1_digest_77 1 rfl ?_
  refine gk_callIV (wr := []) G (c1_late l D cI cZ cJ g h1 h2 q F69 B69 q2 G69 C69 M wf hr69 hrest (by omega)) gX1_digest_X1_late rfl 0 (by decide +kernel) rfl rfl ⟨(Nat.le_of_ble_eq_true rfl), (Nat.le_of_ble_eq_true rfl)⟩ rfl (q0 := 0) rfl (T := TX1) (N := 2) rfl gn_ok hE [0, 1, 2, 3, 4, 5, 6, 7, 8, 9, 10, 11, 12, 13, 14, 15, 16, 17, 18, 19, 20] rfl (by decide) [] rfl (by decide) (by decide) rfl (Nat.le_of_ble_eq_true rfl) dX1_digest_78 ⟨(Nat.le_of_ble_eq_true rfl), (Nat.le_of_ble_eq_true rfl)⟩ (fun r78 u78 hp78 => ?_)
  obtain ⟨⟨F78, B78⟩, ⟨G78, C78⟩⟩ := u78
  have hr78 : gc_rep F78 B78 M := hp78.2
  rw [show r78 = nI (gm_late M 0 (M 11 0)) from hp78.1]
  show gk_C p l e ({ frames := 6, cells := 0, slots := 0, locals := 139 } : Room) s m ([.ref g] : List Value).toArray below meth c 4 D A Q 0 0 (gw_G g h1 h2 ++ (gs_W cI cZ h1 q F78 B78 ++ (gs_W cI cZ h2 q2 G78 C78))) [(1, .long (gm_dh M 8)), (0, .ref g)] 81 [.int (nI (gm_late M 0 (M 11 0))), .long (gm_dh M 8)]
  refine gk_callLS (wc := []) (wr := (gw_G g h1 h2 ++ (gs_W cI cZ h1 q F78 B78 ++ (gs_W cI cZ h2 q2 G78 C78)))) (isC := []) (isR := [0, 1, 2, 3, 4, 5, 6, 7, 8, 9, 10, 11, 12, 13, 14, 15, 16, 17, 18, 19, 20]) G (c1_mix l D cI cZ cJ (gm_dh M 8) (nI (gm_late M 0 (M 11 0)))) gX1_digest_X1_mix rfl 2 (by decide +kernel) rfl rfl ⟨(Nat.le_of_ble_eq_true rfl), (Nat.le_of_ble_eq_true rfl)⟩ rfl gk_ok0 trivial rfl (by decide) rfl (by decide) (by decide) rfl (Nat.le_of_ble_eq_true rfl) dX1_digest_81 ⟨(Nat.le_of_ble_eq_true rfl), (Nat.le_of_ble_eq_true rfl)⟩ (fun r81 u81 hp81 => ?_)
  rw [show r81 = gm_dh M 9 from hp81]
  show gk_C p l e ({ frames := 6, cells := 0, slots := 0, locals := 139 } : Room) s m ([.ref g] : List Value).toArray below meth c 4 D A Q 0 0 (gw_G g h1 h2 ++ (gs_W cI cZ h1 q F78 B78 ++ (gs_W cI cZ h2 q2 G78 C78))) [(1, .long (gm_dh M 8)), (0, .ref g)] 84 [.long (gm_dh M 9)]
  refine gk_lstore_n (lv' := [(1, .long (gm_dh M 9)), (0, .ref g)]) G dX1_digest_84 rfl (by decide) rfl ?_
  refine gk_lload_n G dX1_digest_85 0 rfl ?_
  refine gk_aload_n G dX1_digest_86 1 rfl ?_
  refine gk_callIV (wr := []) G (c1_bestRule l D cI cZ cJ g h1 h2 q F78 B78 q2 G78 C78 M wf hr78 hrest hh) gX1_digest_X1_bestRule rfl 0 (by decide +kernel) rfl rfl ⟨(Nat.le_of_ble_eq_true rfl), (Nat.le_of_ble_eq_true rfl)⟩ rfl (q0 := 0) rfl (T := TX1) (N := 2) rfl gn_ok hE [0, 1, 2, 3, 4, 5, 6, 7, 8, 9, 10, 11, 12, 13, 14, 15, 16, 17, 18, 19, 20] rfl (by decide) [] rfl (by decide) (by decide) rfl (Nat.le_of_ble_eq_true rfl) dX1_digest_87 ⟨(Nat.le_of_ble_eq_true rfl), (Nat.le_of_ble_eq_true rfl)⟩ (fun r87 u87 hp87 => ?_)
  obtain ⟨⟨F87, B87⟩, ⟨G87, C87⟩⟩ := u87
  have hr87 : gc_rep F87 B87 M := hp87.2
  rw [show r87 = nI ((gm_bst M 2).1) from hp87.1]
  show gk_C p l e ({ frames := 6, cells := 0, slots := 0, locals := 139 } : Room) s m ([.ref g] : List Value).toArray below meth c 4 D A Q 0 0 (gw_G g h1 h2 ++ (gs_W cI cZ h1 q F87 B87 ++ (gs_W cI cZ h2 q2 G87 C87))) [(1, .long (gm_dh M 9)), (0, .ref g)] 90 [.int (nI ((gm_bst M 2).1)), .long (gm_dh M 9)]
  refine gk_callLS (wc := []) (wr := (gw_G g h1 h2 ++ (gs_W cI cZ h1 q F87 B87 ++ (gs_W cI cZ h2 q2 G87 C87)))) (isC := []) (isR := [0, 1, 2, 3, 4, 5, 6, 7, 8, 9, 10, 11, 12, 13, 14, 15, 16, 17, 18, 19, 20]) G (c1_mix l D cI cZ cJ (gm_dh M 9) (nI ((gm_bst M 2).1))) gX1_digest_X1_mix rfl 2 (by decide +kernel) rfl rfl ⟨(Nat.le_of_ble_eq_true rfl), (Nat.le_of_ble_eq_true rfl)⟩ rfl gk_ok0 trivial rfl (by decide) rfl (by decide) (by decide) rfl (Nat.le_of_ble_eq_true rfl) dX1_digest_90 ⟨(Nat.le_of_ble_eq_true rfl), (Nat.le_of_ble_eq_true rfl)⟩ (fun r90 u90 hp90 => ?_)
  rw [show r90 = gm_dh M 10 from hp90]
  show gk_C p l e ({ frames := 6, cells := 0, slots := 0, locals := 139 } : Room) s m ([.ref g] : List Value).toArray below meth c 4 D A Q 0 0 (gw_G g h1 h2 ++ (gs_W cI cZ h1 q F87 B87 ++ (gs_W cI cZ h2 q2 G87 C87))) [(1, .long (gm_dh M 9)), (0, .ref g)] 93 [.long (gm_dh M 10)]
  refine gk_lstore_n (lv' := [(1, .long (gm_dh M 10)), (0, .ref g)]) G dX1_digest_93 rfl (by decide) rfl ?_
  refine gk_lload_n G dX1_digest_94 0 rfl ?_
  refine gk_aload_n G dX1_digest_95 1 rfl ?_
  refine gk_bipush (v := nI 12) G dX1_digest_96 (by decide) ?_
  refine gk_callIV (wr := []) G (c1_groundIn_ok l D cI cZ cJ g h1 h2 q F87 B87 q2 G87 C87 M 12 wf hr87 hrest hh (by decide) (by decide)) gX1_digest_X1_groundIn rfl 1 (by decide +kernel) rfl rfl ⟨(Nat.le_of_ble_eq_true rfl), (Nat.le_of_ble_eq_true rfl)⟩ rfl (q0 := 0) rfl (T := TX1) (N := 2) rfl gn_ok hE [0, 1, 2, 3, 4, 5, 6, 7, 8, 9, 10, 11, 12, 13, 14, 15, 16, 17, 18, 19, 20] rfl (by decide) [] rfl (by decide) (by decide) rfl (Nat.le_of_ble_eq_true rfl) dX1_digest_98 ⟨(Nat.le_of_ble_eq_true rfl), (Nat.le_of_ble_eq_true rfl)⟩ (fun r98 u98 hp98 => ?_)
  obtain ⟨⟨F98, B98⟩, ⟨G98, C98⟩⟩ := u98
  have hr98 : gc_rep F98 B98 M := hp98.2
  rw [show r98 = nI (gm_hrs M 12 16 0 - M 16 0) from hp98.1]
  show gk_C p l e ({ frames := 6, cells := 0, slots := 0, locals := 139 } : Room) s m ([.ref g] : List Value).toArray below meth c 4 D A Q 0 0 (gw_G g h1 h2 ++ (gs_W cI cZ h1 q F98 B98 ++ (gs_W cI cZ h2 q2 G98 C98))) [(1, .long (gm_dh M 10)), (0, .ref g)] 101 [.int (nI (gm_hrs M 12 16 0 - M 16 0)), .long (gm_dh M 10)]
  refine gk_callLS (wc := []) (wr := (gw_G g h1 h2 ++ (gs_W cI cZ h1 q F98 B98 ++ (gs_W cI cZ h2 q2 G98 C98)))) (isC := []) (isR := [0, 1, 2, 3, 4, 5, 6, 7, 8, 9, 10, 11, 12, 13, 14, 15, 16, 17, 18, 19, 20]) G (c1_mix l D cI cZ cJ (gm_dh M 10) (nI (gm_hrs M 12 16 0 - M 16 0))) gX1_digest_X1_mix rfl 2 (by decide +kernel) rfl rfl ⟨(Nat.le_of_ble_eq_true rfl), (Nat.le_of_ble_eq_true rfl)⟩ rfl gk_ok0 trivial rfl (by decide) rfl (by decide) (by decide) rfl (Nat.le_of_ble_eq_true rfl) dX1_digest_101 ⟨(Nat.le_of_ble_eq_true rfl), (Nat.le_of_ble_eq_true rfl)⟩ (fun r101 u101 hp101 => ?_)
  rw [show r101 = gm_dh M 11 from hp101]
  show gk_C p l e ({ frames := 6, cells := 0, slots := 0, locals := 139 } : Room) s m ([.ref g] : List Value).toArray below meth c 4 D A Q 0 0 (gw_G g h1 h2 ++ (gs_W cI cZ h1 q F98 B98 ++ (gs_W cI cZ h2 q2 G98 C98))) [(1, .long (gm_dh M 10)), (0, .ref g)] 104 [.long (gm_dh M 11)]
  refine gk_lstore_n (lv' := [(1, .long (gm_dh M 11)), (0, .ref g)]) G dX1_digest_104 rfl (by decide) rfl ?_
  refine gk_iconst (v := nI 0) G dX1_digest_105 (by decide) ?_
  refine gk_istore_n (lv' := [(3, .int (nI 0)), (1, .long (gm_dh M 11)), (0, .ref g)]) G dX1_digest_106 rfl (by decide) rfl ?_
  exact gk_lsub [2,1,0] rfl (L107 (M 10 0 + 1) 0 F98 B98 G98 C98 (by omega) (by omega) hr98)
