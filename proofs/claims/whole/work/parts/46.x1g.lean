/-! the digest -/
def gm_mx (d : Int64) (x : Int32) : Int64 := d * 31 + x.toInt64
def gm_dv (M : gm_M) : Nat → Int32
  | 0 => nI (M 9 0)
  | 1 => nI (M 10 0)
  | 2 => nI (M 11 0)
  | 3 => nI (M 14 0)
  | 4 => nI (gm_wnd M)
  | 5 => nI (gm_gct M (M 11 0))
  | 6 => nI (M 13 0)
  | 7 => gm_e (gm_nxt M 0 (M 11 0))
  | 8 => nI (gm_late M 0 (M 11 0))
  | 9 => nI ((gm_bst M 2).1)
  | _ => nI (gm_hrs M 12 16 0 - M 16 0)
def gm_dh (M : gm_M) : Nat → Int64
  | 0 => 2281
  | k + 1 => gm_mx (gm_dh M k) (gm_dv M k)
def gm_dst (M : gm_M) (d : Int64) : Nat → Int64
  | 0 => d
  | k + 1 => gm_mx (gm_dst M d k) (gm_e (gm_who M k (M 11 0)))
def gm_ds6 (M : gm_M) (d : Int64) (k : Nat) : Int64 := gm_mx (gm_mx (gm_mx (gm_mx (gm_mx (gm_mx d (gm_e (M 7 k))) (nI (M 5 k))) (nI (M 6 k))) (gm_e (M 8 k))) (gm_plc M k)) (gm_e (gm_hrs M 200 8 k))
def gm_dsk (M : gm_M) (d : Int64) : Nat → Int64
  | 0 => d
  | k + 1 => gm_ds6 M (gm_dsk M d k) k
def gm_dbk (M : gm_M) (d : Int64) : Nat → Int64
  | 0 => d
  | k + 1 => gm_mx (gm_dbk M d k) (nI (gm_rst M k (M 11 0)))
def gm_dig (M : gm_M) : Int64 := gm_dbk M (gm_dsk M (gm_dst M (gm_dh M 11) (M 10 0)) (M 11 0)) 8
set_option maxRecDepth 100000 in
set_option maxHeartbeats 1000000 in
theorem c1_mix (l : Launch) (D : va_G) (cI cZ cJ : ClassId) (d0 : Int64) (x0 : Int32) : gk_L l yX1_mix wsX1_mix ({ frames := 0, cells := 0, slots := 0, locals := 0 } : Room) D (g_T cI cZ cJ) gk_E0 [.long d0, .int x0] ([] : va_W) 0 0 (fun (r : Int64) (u : Unit) => r = gm_mx d0 x0) (fun u => ([] : va_W)) := by
  refine gk_L_of (cc := cX1_mix) (nL := 3) (by decide +kernel) rfl (Nat.le_of_ble_eq_true rfl) ?_
  intro p e s m below meth c A Q hnm hE G RET
  refine gk_lload_n G dX1_mix_0 0 rfl ?_
  refine gk_ldc2 (v := (31)) G (G.2.2.2.2.1 (.constantLong RX1 213 (31)) (List.mem_cons_of_mem _ (List.mem_of_getElem? (i := 0) rfl))) dX1_mix_1 ?_
  refine gk_lmul (v := d0 * 31) G dX1_mix_4 rfl ?_
  refine gk_iload_n G dX1_mix_5 1 rfl ?_
  refine gk_i2l (v := (x0).toInt64) G dX1_mix_6 rfl ?_
  refine gk_ladd (v := gm_mx d0 x0) G dX1_mix_7 rfl ?_
  exact RET _ _ _ _ _ _ () dX1_mix_8 rfl rfl (Nat.le_of_ble_eq_true rfl) (Nat.le_of_ble_eq_true rfl)
set_option maxRecDepth 100000 in
set_option maxHeartbeats 1000000 in
theorem c1_stoneOf_okT (l : Launch) (D : va_G) (cI cZ cJ : ClassId) (g h1 h2 : Nat) (q : Nat → Nat) (F : Nat → Int32) (B : Nat → Nat → Int32) (q2 : Nat → Nat) (F2 : Nat → Int32) (B2 : Nat → Nat → Int32) (M : gm_M) (v : Nat) (wf : gm_wf M) (hr : gc_rep F B M) (hv : v < M 11 0) : gk_I l yX1_stoneOf wsX1_stoneOf ({ frames := 1, cells := 0, slots := 0, locals := 21 } : Room) D (g_T cI cZ cJ) gn_E [.ref g, .int (nI v)] (gw_G g h1 h2 ++ (gs_W cI cZ h1 q F B ++ (gs_W cI cZ h2 q2 F2 B2))) 0 0 (fun (r : Int32) (u : gw_U) => r = gm_e (M 7 v) ∧ gc_rep u.1.1 u.1.2 M ∧ u.2 = (F2, B2)) (fun u => (gw_X cI cZ g h1 h2 q q2 u)) := by
  refine gk_I_of (ty := .int) (cc := cX1_stoneOf) (nL := 2) (by decide +kernel) rfl (Nat.le_of_ble_eq_true rfl) ?_
  intro p e s m below meth c A Q hnm hE G RET
  obtain ⟨hz1, hz2, hz3, hz4, hz5, hz6, hz7, hz8⟩ := id wf
  have hinX0 : ∀ w ∈ wsX00, w ∈ wsX1_stoneOf := fun w h9 => (List.mem_cons_of_mem _ (List.mem_append_left _ (List.mem_append_right _ h9)))
  have hinX1 : ∀ w ∈ wsX10, w ∈ wsX1_stoneOf := fun w h9 => (List.mem_cons_of_mem _ (List.mem_append_left _ (List.mem_append_left _ (List.mem_append_right _ h9))))
  have k10 := G.2.2.2.2.1 (.fieldLink RX1 10 "GustMill" "now" "LGustMill$State;") (List.mem_cons_of_mem _ (List.mem_append_left _ (List.mem_append_left _ (List.mem_append_left _ (List.mem_of_getElem? (i := 0) rfl)))))
  have kN82 := gn_82 (args := ([.ref g, .int (nI v)] : List Value).toArray) hE
  refine gk_aload_n G dX1_stoneOf_0 0 rfl ?_
  refine gk_iload_n G dX1_stoneOf_1 1 rfl ?_
  refine gk_callVV (wr := []) G (c1_requireSack_ok l D cI cZ cJ g h1 h2 q F B q2 F2 B2 M v wf hr (by omega)) gX1_stoneOf_X1_requireSack rfl 1 (by decide +kernel) rfl rfl ⟨(Nat.le_of_ble_eq_true rfl), (Nat.le_of_ble_eq_true rfl)⟩ rfl (q0 := 0) rfl (T := TX1) (N := 2) rfl gn_ok hE [0, 1, 2, 3, 4, 5, 6, 7, 8, 9, 10, 11, 12, 13, 14, 15, 16, 17, 18, 19, 20] rfl (by decide) [] rfl (by decide) (by decide) rfl (Nat.le_of_ble_eq_true rfl) dX1_stoneOf_2 ⟨(Nat.le_of_ble_eq_true rfl), (Nat.le_of_ble_eq_true rfl)⟩ (fun u2 hp2 => ?_)
  show gk_C p l e ({ frames := 1, cells := 0, slots := 0, locals := 21 } : Room) s m ([.ref g, .int (nI v)] : List Value).toArray below meth c 2 D A Q 0 0 (gw_G g h1 h2 ++ (gs_W cI cZ h1 q F B ++ (gs_W cI cZ h2 q2 F2 B2))) [(0, .ref g), (1, .int (nI v))] 5 []
  refine gk_aload_n G dX1_stoneOf_5 0 rfl ?_
  refine gk_get (v' := .ref h1) G hinX1 (q0 := 0) rfl rfl 0 (by decide) k10 rfl rfl dX1_stoneOf_6 ?_
  refine gk_getN (v' := .ref (q 7)) G hinX0 (q0 := 1) rfl rfl 7 (by decide) kN82 rfl rfl dX1_stoneOf_9 ?_
  refine gk_iload_n G dX1_stoneOf_12 1 rfl ?_
  refine gk_iald (v := gm_e (M 7 v)) G (q0 := 9) (t0 := 0) rfl rfl v rfl (by omega) (by decide) (hr.2.2.2.2.2.2.2.1 v (by omega)) dX1_stoneOf_13 ?_
  exact RET _ _ _ _ _ _ ((F, B), (F2, B2)) dX1_stoneOf_14 rfl ⟨rfl, hr, rfl⟩ rfl (Nat.le_of_ble_eq_true rfl) (Nat.le_of_ble_eq_true rfl)
set_option maxRecDepth 100000 in
set_option maxHeartbeats 1000000 in
theorem c1_leftOf_okT (l : Launch) (D : va_G) (cI cZ cJ : ClassId) (g h1 h2 : Nat) (q : Nat → Nat) (F : Nat → Int32) (B : Nat → Nat → Int32) (q2 : Nat → Nat) (F2 : Nat → Int32) (B2 : Nat → Nat → Int32) (M : gm_M) (v : Nat) (wf : gm_wf M) (hr : gc_rep F B M) (hv : v < M 11 0) : gk_I l yX1_leftOf wsX1_leftOf ({ frames := 1, cells := 0, slots := 0, locals := 21 } : Room) D (g_T cI cZ cJ) gn_E [.ref g, .int (nI v)] (gw_G g h1 h2 ++ (gs_W cI cZ h1 q F B ++ (gs_W cI cZ h2 q2 F2 B2))) 0 0 (fun (r : Int32) (u : gw_U) => r = nI (M 5 v) ∧ gc_rep u.1.1 u.1.2 M ∧ u.2 = (F2, B2)) (fun u => (gw_X cI cZ g h1 h2 q q2 u)) := by
  refine gk_I_of (ty := .int) (cc := cX1_leftOf) (nL := 2) (by decide +kernel) rfl (Nat.le_of_ble_eq_true rfl) ?_
  intro p e s m below meth c A Q hnm hE G RET
  obtain ⟨hz1, hz2, hz3, hz4, hz5, hz6, hz7, hz8⟩ := id wf
  have hinX0 : ∀ w ∈ wsX00, w ∈ wsX1_leftOf := fun w h9 => (List.mem_cons_of_mem _ (List.mem_append_left _ (List.mem_append_right _ h9)))
  have hinX1 : ∀ w ∈ wsX10, w ∈ wsX1_leftOf := fun w h9 => (List.mem_cons_of_mem _ (List.mem_append_left _ (List.mem_append_left _ (List.mem_append_right _ h9))))
  have k10 := G.2.2.2.2.1 (.fieldLink RX1 10 "GustMill" "now" "LGustMill$State;") (List.mem_cons_of_mem _ (List.mem_append_left _ (List.mem_append_left _ (List.mem_append_left _ (List.mem_of_getElem? (i := 0) rfl)))))
  have kN111 := gn_111 (args := ([.ref g, .int (nI v)] : List Value).toArray) hE
  refine gk_aload_n G dX1_leftOf_0 0 rfl ?_
  refine gk_iload_n G dX1_leftOf_1 1 rfl ?_
  refine gk_callVV (wr := []) G (c1_requireSack_ok l D cI cZ cJ g h1 h2 q F B q2 F2 B2 M v wf hr (by omega)) gX1_leftOf_X1_requireSack rfl 1 (by decide +kernel) rfl rfl ⟨(Nat.le_of_ble_eq_true rfl), (Nat.le_of_ble_eq_true rfl)⟩ rfl (q0 := 0) rfl (T := TX1) (N := 2) rfl gn_ok hE [0, 1, 2, 3, 4, 5, 6, 7, 8, 9, 10, 11, 12, 13, 14, 15, 16, 17, 18, 19, 20] rfl (by decide) [] rfl (by decide) (by decide) rfl (Nat.le_of_ble_eq_true rfl) dX1_leftOf_2 ⟨(Nat.le_of_ble_eq_true rfl), (Nat.le_of_ble_eq_true rfl)⟩ (fun u2 hp2 => ?_)
  show gk_C p l e ({ frames := 1, cells := 0, slots := 0, locals := 21 } : Room) s m ([.ref g, .int (nI v)] : List Value).toArray below meth c 2 D A Q 0 0 (gw_G g h1 h2 ++ (gs_W cI cZ h1 q F B ++ (gs_W cI cZ h2 q2 F2 B2))) [(0, .ref g), (1, .int (nI v))] 5 []
  refine gk_aload_n G dX1_leftOf_5 0 rfl ?_
  refine gk_get (v' := .ref h1) G hinX1 (q0 := 0) rfl rfl 0 (by decide) k10 rfl rfl dX1_leftOf_6 ?_
  refine gk_getN (v' := .ref (q 5)) G hinX0 (q0 := 1) rfl rfl 5 (by decide) kN111 rfl rfl dX1_leftOf_9 ?_
  refine gk_iload_n G dX1_leftOf_12 1 rfl ?_
  refine gk_iald (v := nI (M 5 v)) G (q0 := 7) (t0 := 0) rfl rfl v rfl (by omega) (by decide) (hr.2.2.2.2.2.1 v (by omega)) dX1_leftOf_13 ?_
  exact RET _ _ _ _ _ _ ((F, B), (F2, B2)) dX1_leftOf_14 rfl ⟨rfl, hr, rfl⟩ rfl (Nat.le_of_ble_eq_true rfl) (Nat.le_of_ble_eq_true rfl)
set_option maxRecDepth 100000 in
set_option maxHeartbeats 1000000 in
theorem c1_untilOf_okT (l : Launch) (D : va_G) (cI cZ cJ : ClassId) (g h1 h2 : Nat) (q : Nat → Nat) (F : Nat → Int32) (B : Nat → Nat → Int32) (q2 : Nat → Nat) (F2 : Nat → Int32) (B2 : Nat → Nat → Int32) (M : gm_M) (v : Nat) (wf : gm_wf M) (hr : gc_rep F B M) (hv : v < M 11 0) : gk_I l yX1_untilOf wsX1_untilOf ({ frames := 1, cells := 0, slots := 0, locals := 21 } : Room) D (g_T cI cZ cJ) gn_E [.ref g, .int (nI v)] (gw_G g h1 h2 ++ (gs_W cI cZ h1 q F B ++ (gs_W cI cZ h2 q2 F2 B2))) 0 0 (fun (r : Int32) (u : gw_U) => r = nI (M 6 v) ∧ gc_rep u.1.1 u.1.2 M ∧ u.2 = (F2, B2)) (fun u => (gw_X cI cZ g h1 h2 q q2 u)) := by
  refine gk_I_of (ty := .int) (cc := cX1_untilOf) (nL := 2) (by decide +kernel) rfl (Nat.le_of_ble_eq_true rfl) ?_
  intro p e s m below meth c A Q hnm hE G RET
  obtain ⟨hz1, hz2, hz3, hz4, hz5, hz6, hz7, hz8⟩ := id wf
  have hinX0 : ∀ w ∈ wsX00, w ∈ wsX1_untilOf := fun w h9 => (List.mem_cons_of_mem _ (List.mem_append_left _ (List.mem_append_right _ h9)))
  have hinX1 : ∀ w ∈ wsX10, w ∈ wsX1_untilOf := fun w h9 => (List.mem_cons_of_mem _ (List.mem_append_left _ (List.mem_append_left _ (List.mem_append_right _ h9))))
  have k10 := G.2.2.2.2.1 (.fieldLink RX1 10 "GustMill" "now" "LGustMill$State;") (List.mem_cons_of_mem _ (List.mem_append_left _ (List.mem_append_left _ (List.mem_append_left _ (List.mem_of_getElem? (i := 0) rfl)))))
  have kN90 := gn_90 (args := ([.ref g, .int (nI v)] : List Value).toArray) hE
  refine gk_aload_n G dX1_untilOf_0 0 rfl ?_
  refine gk_iload_n G dX1_untilOf_1 1 rfl ?_
  refine gk_callVV (wr := []) G (c1_requireSack_ok l D cI cZ cJ g h1 h2 q F B q2 F2 B2 M v wf hr (by omega)) gX1_untilOf_X1_requireSack rfl 1 (by decide +kernel) rfl rfl ⟨(Nat.le_of_ble_eq_true rfl), (Nat.le_of_ble_eq_true rfl)⟩ rfl (q0 := 0) rfl (T := TX1) (N := 2) rfl gn_ok hE [0, 1, 2, 3, 4, 5, 6, 7, 8, 9, 10, 11, 12, 13, 14, 15, 16, 17, 18, 19, 20] rfl (by decide) [] rfl (by decide) (by decide) rfl (Nat.le_of_ble_eq_true rfl) dX1_untilOf_2 ⟨(Nat.le_of_ble_eq_true rfl), (Nat.le_of_ble_eq_true rfl)⟩ (fun u2 hp2 => ?_)
  show gk_C p l e ({ frames := 1, cells := 0, slots := 0, locals := 21 } : Room) s m ([.ref g, .int (nI v)] : List Value).toArray below meth c 2 D A Q 0 0 (gw_G g h1 h2 ++ (gs_W cI cZ h1 q F B ++ (gs_W cI cZ h2 q2 F2 B2))) [(0, .ref g), (1, .int (nI v))] 5 []
  refine gk_aload_n G dX1_untilOf_5 0 rfl ?_
  refine gk_get (v' := .ref h1) G hinX1 (q0 := 0) rfl rfl 0 (by decide) k10 rfl rfl dX1_untilOf_6 ?_
  refine gk_getN (v' := .ref (q 6)) G hinX0 (q0 := 1) rfl rfl 6 (by decide) kN90 rfl rfl dX1_untilOf_9 ?_
  refine gk_iload_n G dX1_untilOf_12 1 rfl ?_
  refine gk_iald (v := nI (M 6 v)) G (q0 := 8) (t0 := 0) rfl rfl v rfl (by omega) (by decide) (hr.2.2.2.2.2.2.1 v (by omega)) dX1_untilOf_13 ?_
  exact RET _ _ _ _ _ _ ((F, B), (F2, B2)) dX1_untilOf_14 rfl ⟨rfl, hr, rfl⟩ rfl (Nat.le_of_ble_eq_true rfl) (Nat.le_of_ble_eq_true rfl)
set_option maxRecDepth 100000 in
set_option maxHeartbeats 1000000 in
theorem c1_groundAt_okT (l : Launch) (D : va_G) (cI cZ cJ : ClassId) (g h1 h2 : Nat) (q : Nat → Nat) (F : Nat → Int32) (B : Nat → Nat → Int32) (q2 : Nat → Nat) (F2 : Nat → Int32) (B2 : Nat → Nat → Int32) (M : gm_M) (v : Nat) (wf : gm_wf M) (hr : gc_rep F B M) (hv : v < M 11 0) : gk_I l yX1_groundAt wsX1_groundAt ({ frames := 1, cells := 0, slots := 0, locals := 21 } : Room) D (g_T cI cZ cJ) gn_E [.ref g, .int (nI v)] (gw_G g h1 h2 ++ (gs_W cI cZ h1 q F B ++ (gs_W cI cZ h2 q2 F2 B2))) 0 0 (fun (r : Int32) (u : gw_U) => r = gm_e (M 8 v) ∧ gc_rep u.1.1 u.1.2 M ∧ u.2 = (F2, B2)) (fun u => (gw_X cI cZ g h1 h2 q q2 u)) := by
  refine gk_I_of (ty := .int) (cc := cX1_groundAt) (nL := 2) (by decide +kernel) rfl (Nat.le_of_ble_eq_true rfl) ?_
  intro p e s m below meth c A Q hnm hE G RET
  obtain ⟨hz1, hz2, hz3, hz4, hz5, hz6, hz7, hz8⟩ := id wf
  have hinX0 : ∀ w ∈ wsX00, w ∈ wsX1_groundAt := fun w h9 => (List.mem_cons_of_mem _ (List.mem_append_left _ (List.mem_append_right _ h9)))
  have hinX1 : ∀ w ∈ wsX10, w ∈ wsX1_groundAt := fun w h9 => (List.mem_cons_of_mem _ (List.mem_append_left _ (List.mem_append_left _ (List.mem_append_right _ h9))))
  have k10 := G.2.2.2.2.1 (.fieldLink RX1 10 "GustMill" "now" "LGustMill$State;") (List.mem_cons_of_mem _ (List.mem_append_left _ (List.mem_append_left _ (List.mem_append_left _ (List.mem_of_getElem? (i := 0) rfl)))))
  have kN114 := gn_114 (args := ([.ref g, .int (nI v)] : List Value).toArray) hE
  refine gk_aload_n G dX1_groundAt_0 0 rfl ?_
  refine gk_iload_n G dX1_groundAt_1 1 rfl ?_
  refine gk_callVV (wr := []) G (c1_requireSack_ok l D cI cZ cJ g h1 h2 q F B q2 F2 B2 M v wf hr (by omega)) gX1_groundAt_X1_requireSack rfl 1 (by decide +kernel) rfl rfl ⟨(Nat.le_of_ble_eq_true rfl), (Nat.le_of_ble_eq_true rfl)⟩ rfl (q0 := 0) rfl (T := TX1) (N := 2) rfl gn_ok hE [0, 1, 2, 3, 4, 5, 6, 7, 8, 9, 10, 11, 12, 13, 14, 15, 16, 17, 18, 19, 20] rfl (by decide) [] rfl (by decide) (by decide) rfl (Nat.le_of_ble_eq_true rfl) dX1_groundAt_2 ⟨(Nat.le_of_ble_eq_true rfl), (Nat.le_of_ble_eq_true rfl)⟩ (fun u2 hp2 => ?_)
  show gk_C p l e ({ frames := 1, cells := 0, slots := 0, locals := 21 } : Room) s m ([.ref g, .int (nI v)] : List Value).toArray below meth c 2 D A Q 0 0 (gw_G g h1 h2 ++ (gs_W cI cZ h1 q F B ++ (gs_W cI cZ h2 q2 F2 B2))) [(0, .ref g), (1, .int (nI v))] 5 []
  refine gk_aload_n G dX1_groundAt_5 0 rfl ?_
  refine gk_get (v' := .ref h1) G hinX1 (q0 := 0) rfl rfl 0 (by decide) k10 rfl rfl dX1_groundAt_6 ?_
  refine gk_getN (v' := .ref (q 8)) G hinX0 (q0 := 1) rfl rfl 8 (by decide) kN114 rfl rfl dX1_groundAt_9 ?_
  refine gk_iload_n G dX1_groundAt_12 1 rfl ?_
  refine gk_iald (v := gm_e (M 8 v)) G (q0 := 10) (t0 := 0) rfl rfl v rfl (by omega) (by decide) (hr.2.2.2.2.2.2.2.2 v (by omega)) dX1_groundAt_13 ?_
  exact RET _ _ _ _ _ _ ((F, B), (F2, B2)) dX1_groundAt_14 rfl ⟨rfl, hr, rfl⟩ rfl (Nat.le_of_ble_eq_true rfl) (Nat.le_of_ble_eq_true rfl)
set_option maxRecDepth 100000 in
set_option maxHeartbeats 1000000 in
theorem c1_placeOf_okT (l : Launch) (D : va_G) (cI cZ cJ : ClassId) (g h1 h2 : Nat) (q : Nat → Nat) (F : Nat → Int32) (B : Nat → Nat → Int32) (q2 : Nat → Nat) (F2 : Nat → Int32) (B2 : Nat → Nat → Int32) (M : gm_M) (v : Nat) (wf : gm_wf M) (hr : gc_rep F B M) (hrest : gm_rest M) (hv : v < M 11 0) : gk_I l yX1_placeOf wsX1_placeOf ({ frames := 2, cells := 0, slots := 0, locals := 46 } : Room) D (g_T cI cZ cJ) gn_E [.ref g, .int (nI v)] (gw_G g h1 h2 ++ (gs_W cI cZ h1 q F B ++ (gs_W cI cZ h2 q2 F2 B2))) 0 0 (fun (r : Int32) (u : gw_U) => r = gm_plc M v ∧ gc_rep u.1.1 u.1.2 M ∧ u.2 = (F2, B2)) (fun u => (gw_X cI cZ g h1 h2 q q2 u)) := by
  refine gk_I_of (ty := .int) (cc := cX1_placeOf) (nL := 2) (by decide +kernel) rfl (Nat.le_of_ble_eq_true rfl) ?_
  intro p e s m below meth c A Q hnm hE G RET
  obtain ⟨hz1, hz2, hz3, hz4, hz5, hz6, hz7, hz8⟩ := id wf
  have hv7 := hz7 v hv
  have hinX1 : ∀ w ∈ wsX10, w ∈ wsX1_placeOf := fun w h9 => (List.mem_cons_of_mem _ (List.mem_append_left _ (List.mem_append_left _ (List.mem_append_right _ h9))))
  have k10 := G.2.2.2.2.1 (.fieldLink RX1 10 "GustMill" "now" "LGustMill$State;") (List.mem_cons_of_mem _ (List.mem_append_left _ (List.mem_append_left _ (List.mem_append_left _ (List.mem_append_left _ (List.mem_of_getElem? (i := 0) rfl))))))
  refine gk_aload_n G dX1_placeOf_0 0 rfl ?_
  refine gk_iload_n G dX1_placeOf_1 1 rfl ?_
  refine gk_callVV (wr := []) G (c1_requireSack_ok l D cI cZ cJ g h1 h2 q F B q2 F2 B2 M v wf hr (by omega)) gX1_placeOf_X1_requireSack rfl 1 (by decide +kernel) rfl rfl ⟨(Nat.le_of_ble_eq_true rfl), (Nat.le_of_ble_eq_true rfl)⟩ rfl (q0 := 0) rfl (T := TX1) (N := 2) rfl gn_ok hE [0, 1, 2, 3, 4, 5, 6, 7, 8, 9, 10, 11, 12, 13, 14, 15, 16, 17, 18, 19, 20] rfl (by decide) [] rfl (by decide) (by decide) rfl (Nat.le_of_ble_eq_true rfl) dX1_placeOf_2 ⟨(Nat.le_of_ble_eq_true rfl), (Nat.le_of_ble_eq_true rfl)⟩ (fun u2 hp2 => ?_)
  show gk_C p l e ({ frames := 2, cells := 0, slots := 0, locals := 46 } : Room) s m ([.ref g, .int (nI v)] : List Value).toArray below meth c 2 D A Q 0 0 (gw_G g h1 h2 ++ (gs_W cI cZ h1 q F B ++ (gs_W cI cZ h2 q2 F2 B2))) [(0, .ref g), (1, .int (nI v))] 5 []
  refine gk_aload_n G dX1_placeOf_5 0 rfl ?_
  refine gk_get (v' := .ref h1) G hinX1 (q0 := 0) rfl rfl 0 (by decide) k10 rfl rfl dX1_placeOf_6 ?_
  refine gk_iload_n G dX1_placeOf_9 1 rfl ?_
  refine gk_callIV (wr := (gw_G g h1 h2 ++ (gs_W cI cZ h2 q2 F2 B2))) G (c0_isGround l D cI cZ cJ h1 q F B M v wf hr hv) gX1_placeOf_X0_isGround rfl 1 (by decide +kernel) rfl rfl ⟨(Nat.le_of_ble_eq_true rfl), (Nat.le_of_ble_eq_true rfl)⟩ rfl (q0 := 0) rfl (T := TX0) (N := 16) rfl gk_ok0 trivial [1, 2, 3, 4, 5, 6, 7, 8, 9, 10] rfl (by decide) [0, 11, 12, 13, 14, 15, 16, 17, 18, 19, 20] rfl (by decide) (by decide) rfl (Nat.le_of_ble_eq_true rfl) dX1_placeOf_10 ⟨(Nat.le_of_ble_eq_true rfl), (Nat.le_of_ble_eq_true rfl)⟩ (fun r10 u10 hp10 => ?_)
  obtain rfl : r10 = gm_b (M 5 v = 0) := hp10
  refine gk_wsub (w' := (gw_G g h1 h2 ++ (gs_W cI cZ h1 q F B ++ (gs_W cI cZ h2 q2 F2 B2)))) [0, 11, 12, 13, 14, 15, 16, 17, 18, 19, 20, 1, 2, 3, 4, 5, 6, 7, 8, 9, 10] rfl (by decide) ?_
  show gk_C p l e ({ frames := 2, cells := 0, slots := 0, locals := 46 } : Room) s m ([.ref g, .int (nI v)] : List Value).toArray below meth c 2 D A Q 0 0 (gw_G g h1 h2 ++ (gs_W cI cZ h1 q F B ++ (gs_W cI cZ h2 q2 F2 B2))) [(0, .ref g), (1, .int (nI v))] 13 [.int (gm_b (M 5 v = 0))]
  refine gk_if_eq (tgt := 20) G dX1_placeOf_13 (by decide) (fun c_13 => ?_) (fun c_13 => ?_)
  · replace c_13 := gm_b_eq.mp c_13
    have e8 : M 8 v = 0 := Decidable.byContradiction (fun q9 => c_13 (hv7.2.2.2.2.2.1 q9).2)
    refine gk_aload_n G dX1_placeOf_20 0 rfl ?_
    refine gk_get (v' := .ref h1) G hinX1 (q0 := 0) rfl rfl 0 (by decide) k10 rfl rfl dX1_placeOf_21 ?_
    refine gk_iload_n G dX1_placeOf_24 1 rfl ?_
    refine gk_callIV (wr := (gw_G g h1 h2 ++ (gs_W cI cZ h2 q2 F2 B2))) G (c0_countAhead l D cI cZ cJ h1 q F B M v wf hr hrest hv) gX1_placeOf_X0_countAhead rfl 1 (by decide +kernel) rfl rfl ⟨(Nat.le_of_ble_eq_true rfl), (Nat.le_of_ble_eq_true rfl)⟩ rfl (q0 := 0) rfl (T := TX0) (N := 16) rfl gk_ok0 trivial [1, 2, 3, 4, 5, 6, 7, 8, 9, 10] rfl (by decide) [0, 11, 12, 13, 14, 15, 16, 17, 18, 19, 20] rfl (by decide) (by decide) rfl (Nat.le_of_ble_eq_true rfl) dX1_placeOf_25 ⟨(Nat.le_of_ble_eq_true rfl), (Nat.le_of_ble_eq_true rfl)⟩ (fun r25 u25 hp25 => ?_)
    obtain rfl : r25 = nI (gm_cnt M v (M 11 0)) := hp25
    refine gk_wsub (w' := (gw_G g h1 h2 ++ (gs_W cI cZ h1 q F B ++ (gs_W cI cZ h2 q2 F2 B2)))) [0, 11, 12, 13, 14, 15, 16, 17, 18, 19, 20, 1, 2, 3, 4, 5, 6, 7, 8, 9, 10] rfl (by decide) ?_
    show gk_C p l e ({ frames := 2, cells := 0, slots := 0, locals := 46 } : Room) s m ([.ref g, .int (nI v)] : List Value).toArray below meth c 2 D A Q 0 0 (gw_G g h1 h2 ++ (gs_W cI cZ h1 q F B ++ (gs_W cI cZ h2 q2 F2 B2))) [(0, .ref g), (1, .int (nI v))] 28 [.int (nI (gm_cnt M v (M 11 0)))]
    exact RET _ _ _ _ _ _ ((F, B), (F2, B2)) dX1_placeOf_28 rfl ⟨(by unfold gm_plc; first | rw [if_pos e8] | rw [if_neg e8]), hr, rfl⟩ rfl (Nat.le_of_ble_eq_true rfl) (Nat.le_of_ble_eq_true rfl)
  · replace c_13 := gm_b_ne.mp c_13
    have e8 : M 8 v ≠ 0 := hrest v hv c_13
    refine gk_iconst (v := -1) G dX1_placeOf_16 (by decide) ?_
    refine gk_goto (tgt := 28) G dX1_placeOf_17 (by decide) ?_
    exact RET _ _ _ _ _ _ ((F, B), (F2, B2)) dX1_placeOf_28 rfl ⟨(by unfold gm_plc; first | rw [if_pos e8] | rw [if_neg e8]), hr, rfl⟩ rfl (Nat.le_of_ble_eq_true rfl) (Nat.le_of_ble_eq_true rfl)
set_option maxRecDepth 100000 in
set_option maxHeartbeats 1000000 in
theorem c1_mixSacks (l : Launch) (D : va_G) (cI cZ cJ : ClassId) (g h1 h2 : Nat) (q : Nat → Nat) (F : Nat → Int32) (B : Nat → Nat → Int32) (q2 : Nat → Nat) (F2 : Nat → Int32) (B2 : Nat → Nat → Int32) (M : gm_M) (d0 : Int64) (wf : gm_wf M) (hr : gc_rep F B M) (hrest : gm_rest M) (hh : M 9 0 < 1999000) : gk_L l yX1_mixSacks wsX1_mixSacks ({ frames := 5, cells := 0, slots := 0, locals := 113 } : Room) D (g_T cI cZ cJ) gn_E [.ref g, .long d0] (gw_G g h1 h2 ++ (gs_W cI cZ h1 q F B ++ (gs_W cI cZ h2 q2 F2 B2))) 0 0 (fun (r : Int64) (u : gw_U) => r = gm_dsk M d0 (M 11 0) ∧ gc_rep u.1.1 u.1.2 M) (fun u => (gw_X cI cZ g h1 h2 q q2 u)) := by
  refine gk_L_of (cc := cX1_mixSacks) (nL := 6) (by decide +kernel) rfl (Nat.le_of_ble_eq_true rfl) ?_
  intro p e s m below meth c A Q hnm hE G RET
  obtain ⟨hz1, hz2, hz3, hz4, hz5, hz6, hz7, hz8⟩ := id wf
  have hinX0 : ∀ w ∈ wsX00, w ∈ wsX1_mixSacks := fun w h9 => (List.mem_cons_of_mem _ (List.mem_append_left _ (List.mem_append_right _ h9)))
  have hinX1 : ∀ w ∈ wsX10, w ∈ wsX1_mixSacks := fun w h9 => (List.mem_cons_of_mem _ (List.mem_append_left _ (List.mem_append_left _ (List.mem_append_right _ h9))))
  have k10 := G.2.2.2.2.1 (.fieldLink RX1 10 "GustMill" "now" "LGustMill$State;") (List.mem_cons_of_mem _ (List.mem_append_left _ (List.mem_append_left _ (List.mem_append_left _ (List.mem_append_left _ (List.mem_of_getElem? (i := 0) rfl))))))
  have k16 := G.2.2.2.2.1 (.fieldLink RX1 16 "GustMill" "trial" "LGustMill$State;") (List.mem_cons_of_mem _ (List.mem_append_left _ (List.mem_append_left _ (List.mem_append_left _ (List.mem_append_left _ (List.mem_of_getElem? (i := 1) rfl))))))
  have kN70 := gn_70 (args := ([.ref g, .long d0] : List Value).toArray) hE
  have kN114 := gn_114 (args := ([.ref g, .long d0] : List Value).toArray) hE
  have e11T : (gm_hrs M 200) 11 0 = M 11 0 := gm_hrs_ne _ 0 (by decide) (by decide) (by decide) (by decide) (by decide) (by decide) (by decide) 200
  have L9 : ∀ (n : Nat) (k : Nat) (F1 : Nat → Int32) (B1 : Nat → Nat → Int32) (G1 : Nat → Int32) (C1 : Nat → Nat → Int32), M 11 0 - k < n → (k ≤ M 11 0) → (gc_rep F1 B1 M) → (gc_rep G1 C1 (gm_hrs M 200)) → gk_C p l e ({ frames := 5, cells := 0, slots := 0, locals := 113 } : Room) s m ([.ref g, .long d0] : List Value).toArray below meth c 6 D A Q 0 0 (gw_G g h1 h2 ++ (gs_W cI cZ h1 q F1 B1 ++ (gs_W cI cZ h2 q2 G1 C1))) [(0, .ref g), (1, .long d0), (3, .long (gm_dsk M d0 k)), (5, .int (nI k))] 9 [] := by
    intro n
    induction n with
    | zero => intro k F1 B1 G1 C1 h0; exact absurd h0 (Nat.not_lt_zero _)
    | succ n ih =>
      intro k F1 B1 G1 C1 h0 w0 w1 w2
      refine gk_iload G dX1_mixSacks_9 3 rfl ?_
      refine gk_aload_n G dX1_mixSacks_11 0 rfl ?_
      refine gk_get (v' := .ref h1) G hinX1 (q0 := 0) rfl rfl 0 (by decide) k10 rfl rfl dX1_mixSacks_12 ?_
      refine gk_getN (v' := .int (nI (M 11 0))) G hinX0 (q0 := 1) rfl rfl 11 (by decide) kN70 rfl (congrArg Value.int (w1.1.2.2.1)) dX1_mixSacks_15 ?_
      refine gk_icmp_ge (tgt := 97) G dX1_mixSacks_18 (by decide) (fun c_18 => ?_) (fun c_18 => ?_)
      · replace c_18 := (nI_leI (a := M 11 0) (b := k) (by omega) (by omega)).mp c_18
        refine gk_lload_n G dX1_mixSacks_97 2 rfl ?_
        exact RET _ _ _ _ _ _ ((F1, B1), (G1, C1)) dX1_mixSacks_98 ⟨(by rw [show k = M 11 0 by omega]), w1⟩ rfl (Nat.le_of_ble_eq_true rfl) (Nat.le_of_ble_eq_true rfl)
      · replace c_18 := (not_congr (nI_leI (a := M 11 0) (b := k) (by omega) (by omega))).mp c_18
        replace c_18 : k < M 11 0 := by omega
        have hk16 : k < 16 := by omega
        have hvT : k < (gm_hrs M 200) 11 0 := by rw [e11T]; exact c_18
        refine gk_lload_n G dX1_mixSacks_21 2 rfl ?_
        refine gk_aload_n G dX1_mixSacks_22 0 rfl ?_
        refine gk_iload G dX1_mixSacks_23 3 rfl ?_
        refine gk_callIV (wr := []) G (c1_stoneOf_okT l D cI cZ cJ g h1 h2 q F1 B1 q2 G1 C1 M k wf w1 c_18) gX1_mixSacks_X1_stoneOf rfl 1 (by decide +kernel) rfl rfl ⟨(Nat.le_of_ble_eq_true rfl), (Nat.le_of_ble_eq_true rfl)⟩ rfl (q0 := 0) rfl (T := TX1) (N := 2) rfl gn_ok hE [0, 1, 2, 3, 4, 5, 6, 7, 8, 9, 10, 11, 12, 13, 14, 15, 16, 17, 18, 19, 20] rfl (by decide) [] rfl (by decide) (by decide) rfl (Nat.le_of_ble_eq_true rfl) dX1_mixSacks_25 ⟨(Nat.le_of_ble_eq_true rfl), (Nat.le_of_ble_eq_true rfl)⟩ (fun r25 u25 hp25 => ?_)
        obtain ⟨⟨F25, B25⟩, ⟨G25, C25⟩⟩ := u25
        have hr25 : gc_rep F25 B25 M := hp25.2.1
        obtain ⟨rfl, rfl⟩ := Prod.mk.inj hp25.2.2
        rw [show r25 = gm_e (M 7 k) from hp25.1]
        show gk_C p l e ({ frames := 5, cells := 0, slots := 0, locals := 113 } : Room) s m ([.ref g, .long d0] : List Value).toArray below meth c 6 D A Q 0 0 (gw_G g h1 h2 ++ (gs_W cI cZ h1 q F25 B25 ++ (gs_W cI cZ h2 q2 G25 C25))) [(0, .ref g), (1, .long d0), (3, .long (gm_dsk M d0 k)), (5, .int (nI k))] 28 [.int (gm_e (M 7 k)), .long (gm_dsk M d0 k)]
        refine gk_callLS (wc := []) (wr := (gw_G g h1 h2 ++ (gs_W cI cZ h1 q F25 B25 ++ (gs_W cI cZ h2 q2 G25 C25)))) (isC := []) (isR := [0, 1, 2, 3, 4, 5, 6, 7, 8, 9, 10, 11, 12, 13, 14, 15, 16, 17, 18, 19, 20]) G (c1_mix l D cI cZ cJ (gm_dsk M d0 k) (gm_e (M 7 k))) gX1_mixSacks_X1_mix rfl 2 (by decide +kernel) rfl rfl ⟨(Nat.le_of_ble_eq_true rfl), (Nat.le_of_ble_eq_true rfl)⟩ rfl gk_ok0 trivial rfl (by decide) rfl (by decide) (by decide) rfl (Nat.le_of_ble_eq_true rfl) dX1_mixSacks_28 ⟨(Nat.le_of_ble_eq_true rfl), (Nat.le_of_ble_eq_true rfl)⟩ (fun r28 u28 hp28 => ?_)
        rw [show r28 = gm_mx (gm_dsk M d0 k) (gm_e (M 7 k)) from hp28]
        show gk_C p l e ({ frames := 5, cells := 0, slots := 0, locals := 113 } : Room) s m ([.ref g, .long d0] : List Value).toArray below meth c 6 D A Q 0 0 (gw_G g h1 h2 ++ (gs_W cI cZ h1 q F25 B25 ++ (gs_W cI cZ h2 q2 G25 C25))) [(0, .ref g), (1, .long d0), (3, .long (gm_dsk M d0 k)), (5, .int (nI k))] 31 [.long (gm_mx (gm_dsk M d0 k) (gm_e (M 7 k)))]
        refine gk_lstore_n (lv' := [(3, .long (gm_mx (gm_dsk M d0 k) (gm_e (M 7 k)))), (0, .ref g), (1, .long d0), (5, .int (nI k))]) G dX1_mixSacks_31 rfl (by decide) rfl ?_
        refine gk_lload_n G dX1_mixSacks_32 0 rfl ?_
        refine gk_aload_n G dX1_mixSacks_33 1 rfl ?_
        refine gk_iload G dX1_mixSacks_34 3 rfl ?_
        refine gk_callIV (wr := []) G (c1_leftOf_okT l D cI cZ cJ g h1 h2 q F25 B25 q2 G25 C25 M k wf hr25 c_18) gX1_mixSacks_X1_leftOf rfl 1 (by decide +kernel) rfl rfl ⟨(Nat.le_of_ble_eq_true rfl), (Nat.le_of_ble_eq_true rfl)⟩ rfl (q0 := 0) rfl (T := TX1) (N := 2) rfl gn_ok hE [0, 1, 2, 3, 4, 5, 6, 7, 8, 9, 10, 11, 12, 13, 14, 15, 16, 17, 18, 19, 20] rfl (by decide) [] rfl (by decide) (by decide) rfl (Nat.le_of_ble_eq_true rfl) dX1_mixSacks_36 ⟨(Nat.le_of_ble_eq_true rfl), (Nat.le_of_ble_eq_true rfl)⟩ (fun r36 u36 hp36 => ?_)
        obtain ⟨⟨F36, B36⟩, ⟨G36, C36⟩⟩ := u36
        have hr36 : gc_rep F36 B36 M := hp36.2.1
        obtain ⟨rfl, rfl⟩ := Prod.mk.inj hp36.2.2
        rw [show r36 = nI (M 5 k) from hp36.1]
        show gk_C p l e ({ frames := 5, cells := 0, slots := 0, locals := 113 } : Room) s m ([.ref g, .long d0] : List Value).toArray below meth c 6 D A Q 0 0 (gw_G g h1 h2 ++ (gs_W cI cZ h1 q F36 B36 ++ (gs_W cI cZ h2 q2 G36 C36))) [(3, .long (gm_mx (gm_dsk M d0 k) (gm_e (M 7 k)))), (0, .ref g), (1, .long d0), (5, .int (nI k))] 39 [.int (nI (M 5 k)), .long (gm_mx (gm_dsk M d0 k) (gm_e (M 7 k)))]
        refine gk_callLS (wc := []) (wr := (gw_G g h1 h2 ++ (gs_W cI cZ h1 q F36 B36 ++ (gs_W cI cZ h2 q2 G36 C36)))) (isC := []) (isR := [0, 1, 2, 3, 4, 5, 6, 7, 8, 9, 10, 11, 12, 13, 14, 15, 16, 17, 18, 19, 20]) G (c1_mix l D cI cZ cJ (gm_mx (gm_dsk M d0 k) (gm_e (M 7 k))) (nI (M 5 k))) gX1_mixSacks_X1_mix rfl 2 (by decide +kernel) rfl rfl ⟨(Nat.le_of_ble_eq_true rfl), (Nat.le_of_ble_eq_true rfl)⟩ rfl gk_ok0 trivial rfl (by decide) rfl (by decide) (by decide) rfl (Nat.le_of_ble_eq_true rfl) dX1_mixSacks_39 ⟨(Nat.le_of_ble_eq_true rfl), (Nat.le_of_ble_eq_true rfl)⟩ (fun r39 u39 hp39 => ?_)
        rw [show r39 = gm_mx (gm_mx (gm_dsk M d0 k) (gm_e (M 7 k))) (nI (M 5 k)) from hp39]
        show gk_C p l e ({ frames := 5, cells := 0, slots := 0, locals := 113 } : Room) s m ([.ref g, .long d0] : List Value).toArray below meth c 6 D A Q 0 0 (gw_G g h1 h2 ++ (gs_W cI cZ h1 q F36 B36 ++ (gs_W cI cZ h2 q2 G36 C36))) [(3, .long (gm_mx (gm_dsk M d0 k) (gm_e (M 7 k)))), (0, .ref g), (1, .long d0), (5, .int (nI k))] 42 [.long (gm_mx (gm_mx (gm_dsk M d0 k) (gm_e (M 7 k))) (nI (M 5 k)))]
        refine gk_lstore_n (lv' := [(3, .long (gm_mx (gm_mx (gm_dsk M d0 k) (gm_e (M 7 k))) (nI (M 5 k)))), (0, .ref g), (1, .long d0), (5, .int (nI k))]) G dX1_mixSacks_42 rfl (by decide) rfl ?_
        refine gk_lload_n G dX1_mixSacks_43 0 rfl ?_
        refine gk_aload_n G dX1_mixSacks_44 1 rfl ?_
        refine gk_iload G dX1_mixSacks_45 3 rfl ?_
        refine gk_callIV (wr := []) G (c1_untilOf_okT l D cI cZ cJ g h1 h2 q F36 B36 q2 G36 C36 M k wf hr36 c_18) gX1_mixSacks_X1_untilOf rfl 1 (by decide +kernel) rfl rfl ⟨(Nat.le_of_ble_eq_true rfl), (Nat.le_of_ble_eq_true rfl)⟩ rfl (q0 := 0) rfl (T := TX1) (N := 2) rfl gn_ok hE [0, 1, 2, 3, 4, 5, 6, 7, 8, 9, 10, 11, 12, 13, 14, 15, 16, 17, 18, 19, 20] rfl (by decide) [] rfl (by decide) (by decide) rfl (Nat.le_of_ble_eq_true rfl) dX1_mixSacks_47 ⟨(Nat.le_of_ble_eq_true rfl), (Nat.le_of_ble_eq_true rfl)⟩ (fun r47 u47 hp47 => ?_)
        obtain ⟨⟨F47, B47⟩, ⟨G47, C47⟩⟩ := u47
        have hr47 : gc_rep F47 B47 M := hp47.2.1
        obtain ⟨rfl, rfl⟩ := Prod.mk.inj hp47.2.2
        rw [show r47 = nI (M 6 k) from hp47.1]
        show gk_C p l e ({ frames := 5, cells := 0, slots := 0, locals := 113 } : Room) s m ([.ref g, .long d0] : List Value).toArray below meth c 6 D A Q 0 0 (gw_G g h1 h2 ++ (gs_W cI cZ h1 q F47 B47 ++ (gs_W cI cZ h2 q2 G47 C47))) [(3, .long (gm_mx (gm_mx (gm_dsk M d0 k) (gm_e (M 7 k))) (nI (M 5 k)))), (0, .ref g), (1, .long d0), (5, .int (nI k))] 50 [.int (nI (M 6 k)), .long (gm_mx (gm_mx (gm_dsk M d0 k) (gm_e (M 7 k))) (nI (M 5 k)))]
        refine gk_callLS (wc := []) (wr := (gw_G g h1 h2 ++ (gs_W cI cZ h1 q F47 B47 ++ (gs_W cI cZ h2 q2 G47 C47)))) (isC := []) (isR := [0, 1, 2, 3, 4, 5, 6, 7, 8, 9, 10, 11, 12, 13, 14, 15, 16, 17, 18, 19, 20]) G (c1_mix l D cI cZ cJ (gm_mx (gm_mx (gm_dsk M d0 k) (gm_e (M 7 k))) (nI (M 5 k))) (nI (M 6 k))) gX1_mixSacks_X1_mix rfl 2 (by decide +kernel) rfl rfl ⟨(Nat.le_of_ble_eq_true rfl), (Nat.le_of_ble_eq_true rfl)⟩ rfl gk_ok0 trivial rfl (by decide) rfl (by decide) (by decide) rfl (Nat.le_of_ble_eq_true rfl) dX1_mixSacks_50 ⟨(Nat.le_of_ble_eq_true rfl), (Nat.le_of_ble_eq_true rfl)⟩ (fun r50 u50 hp50 => ?_)
        rw [show r50 = gm_mx (gm_mx (gm_mx (gm_dsk M d0 k) (gm_e (M 7 k))) (nI (M 5 k))) (nI (M 6 k)) from hp50]
        show gk_C p l e ({ frames := 5, cells := 0, slots := 0, locals := 113 } : Room) s m ([.ref g, .long d0] : List Value).toArray below meth c 6 D A Q 0 0 (gw_G g h1 h2 ++ (gs_W cI cZ h1 q F47 B47 ++ (gs_W cI cZ h2 q2 G47 C47))) [(3, .long (gm_mx (gm_mx (gm_dsk M d0 k) (gm_e (M 7 k))) (nI (M 5 k)))), (0, .ref g), (1, .long d0), (5, .int (nI k))] 53 [.long (gm_mx (gm_mx (gm_mx (gm_dsk M d0 k) (gm_e (M 7 k))) (nI (M 5 k))) (nI (M 6 k)))]
        refine gk_lstore_n (lv' := [(3, .long (gm_mx (gm_mx (gm_mx (gm_dsk M d0 k) (gm_e (M 7 k))) (nI (M 5 k))) (nI (M 6 k)))), (0, .ref g), (1, .long d0), (5, .int (nI k))]) G dX1_mixSacks_53 rfl (by decide) rfl ?_
        refine gk_lload_n G dX1_mixSacks_54 0 rfl ?_
        refine gk_aload_n G dX1_mixSacks_55 1 rfl ?_
        refine gk_iload G dX1_mixSacks_56 3 rfl ?_
        refine gk_callIV (wr := []) G (c1_groundAt_okT l D cI cZ cJ g h1 h2 q F47 B47 q2 G47 C47 M k wf hr47 c_18) gX1_mixSacks_X1_groundAt rfl 1 (by decide +kernel) rfl rfl ⟨(Nat.le_of_ble_eq_true rfl), (Nat.le_of_ble_eq_true rfl)⟩ rfl (q0 := 0) rfl (T := TX1) (N := 2) rfl gn_ok hE [0, 1, 2, 3, 4, 5, 6, 7, 8, 9, 10, 11, 12, 13, 14, 15, 16, 17, 18, 19, 20] rfl (by decide) [] rfl (by decide) (by decide) rfl (Nat.le_of_ble_eq_true rfl) dX1_mixSacks_58 ⟨(Nat.le_of_ble_eq_true rfl), (Nat.le_of_ble_eq_true rfl)⟩ (fun r58 u58 hp58 => ?_)
        obtain ⟨⟨F58, B58⟩, ⟨G58, C58⟩⟩ := u58
        have hr58 : gc_rep F58 B58 M := hp58.2.1
        obtain ⟨rfl, rfl⟩ := Prod.mk.inj hp58.2.2
        rw [show r58 = gm_e (M 8 k) from hp58.1]
        show gk_C p l e ({ frames := 5, cells := 0, slots := 0, locals := 113 } : Room) s m ([.ref g, .long d0] : List Value).toArray below meth c 6 D A Q 0 0 (gw_G g h1 h2 ++ (gs_W cI cZ h1 q F58 B58 ++ (gs_W cI cZ h2 q2 G58 C58))) [(3, .long (gm_mx (gm_mx (gm_mx (gm_dsk M d0 k) (gm_e (M 7 k))) (nI (M 5 k))) (nI (M 6 k)))), (0, .ref g), (1, .long d0), (5, .int (nI k))] 61 [.int (gm_e (M 8 k)), .long (gm_mx (gm_mx (gm_mx (gm_dsk M d0 k) (gm_e (M 7 k))) (nI (M 5 k))) (nI (M 6 k)))]
        refine gk_callLS (wc := []) (wr := (gw_G g h1 h2 ++ (gs_W cI cZ h1 q F58 B58 ++ (gs_W cI cZ h2 q2 G58 C58)))) (isC := []) (isR := [0, 1, 2, 3, 4, 5, 6, 7, 8, 9, 10, 11, 12, 13, 14, 15, 16, 17, 18, 19, 20]) G (c1_mix l D cI cZ cJ (gm_mx (gm_mx (gm_mx (gm_dsk M d0 k) (gm_e (M 7 k))) (nI (M 5 k))) (nI (M 6 k))) (gm_e (M 8 k))) gX1_mixSacks_X1_mix rfl 2 (by decide +kernel) rfl rfl ⟨(Nat.le_of_ble_eq_true rfl), (Nat.le_of_ble_eq_true rfl)⟩ rfl gk_ok0 trivial rfl (by decide) rfl (by decide) (by decide) rfl (Nat.le_of_ble_eq_true rfl) dX1_mixSacks_61 ⟨(Nat.le_of_ble_eq_true rfl), (Nat.le_of_ble_eq_true rfl)⟩ (fun r61 u61 hp61 => ?_)
        rw [show r61 = gm_mx (gm_mx (gm_mx (gm_mx (gm_dsk M d0 k) (gm_e (M 7 k))) (nI (M 5 k))) (nI (M 6 k))) (gm_e (M 8 k)) from hp61]
        show gk_C p l e ({ frames := 5, cells := 0, slots := 0, locals := 113 } : Room) s m ([.ref g, .long d0] : List Value).toArray below meth c 6 D A Q 0 0 (gw_G g h1 h2 ++ (gs_W cI cZ h1 q F58 B58 ++ (gs_W cI cZ h2 q2 G58 C58))) [(3, .long (gm_mx (gm_mx (gm_mx (gm_dsk M d0 k) (gm_e (M 7 k))) (nI (M 5 k))) (nI (M 6 k)))), (0, .ref g), (1, .long d0), (5, .int (nI k))] 64 [.long (gm_mx (gm_mx (gm_mx (gm_mx (gm_dsk M d0 k) (gm_e (M 7 k))) (nI (M 5 k))) (nI (M 6 k))) (gm_e (M 8 k)))]
        refine gk_lstore_n (lv' := [(3, .long (gm_mx (gm_mx (gm_mx (gm_mx (gm_dsk M d0 k) (gm_e (M 7 k))) (nI (M 5 k))) (nI (M 6 k))) (gm_e (M 8 k)))), (0, .ref g), (1, .long d0), (5, .int (nI k))]) G dX1_mixSacks_64 rfl (by decide) rfl ?_
        refine gk_lload_n G dX1_mixSacks_65 0 rfl ?_
        refine gk_aload_n G dX1_mixSacks_66 1 rfl ?_
        refine gk_iload G dX1_mixSacks_67 3 rfl ?_
        refine gk_callIV (wr := []) G (c1_placeOf_okT l D cI cZ cJ g h1 h2 q F58 B58 q2 G58 C58 M k wf hr58 hrest c_18) gX1_mixSacks_X1_placeOf rfl 1 (by decide +kernel) rfl rfl ⟨(Nat.le_of_ble_eq_true rfl), (Nat.le_of_ble_eq_true rfl)⟩ rfl (q0 := 0) rfl (T := TX1) (N := 2) rfl gn_ok hE [0, 1, 2, 3, 4, 5, 6, 7, 8, 9, 10, 11, 12, 13, 14, 15, 16, 17, 18, 19, 20] rfl (by decide) [] rfl (by decide) (by decide) rfl (Nat.le_of_ble_eq_true rfl) dX1_mixSacks_69 ⟨(Nat.le_of_ble_eq_true rfl), (Nat.le_of_ble_eq_true rfl)⟩ (fun r69 u69 hp69 => ?_)
        obtain ⟨⟨F69, B69⟩, ⟨G69, C69⟩⟩ := u69
        have hr69 : gc_rep F69 B69 M := hp69.2.1
        obtain ⟨rfl, rfl⟩ := Prod.mk.inj hp69.2.2
        rw [show r69 = gm_plc M k from hp69.1]
        show gk_C p l e ({ frames := 5, cells := 0, slots := 0, locals := 113 } : Room) s m ([.ref g, .long d0] : List Value).toArray below meth c 6 D A Q 0 0 (gw_G g h1 h2 ++ (gs_W cI cZ h1 q F69 B69 ++ (gs_W cI cZ h2 q2 G69 C69))) [(3, .long (gm_mx (gm_mx (gm_mx (gm_mx (gm_dsk M d0 k) (gm_e (M 7 k))) (nI (M 5 k))) (nI (M 6 k))) (gm_e (M 8 k)))), (0, .ref g), (1, .long d0), (5, .int (nI k))] 72 [.int (gm_plc M k), .long (gm_mx (gm_mx (gm_mx (gm_mx (gm_dsk M d0 k) (gm_e (M 7 k))) (nI (M 5 k))) (nI (M 6 k))) (gm_e (M 8 k)))]
        refine gk_callLS (wc := []) (wr := (gw_G g h1 h2 ++ (gs_W cI cZ h1 q F69 B69 ++ (gs_W cI cZ h2 q2 G69 C69)))) (isC := []) (isR := [0, 1, 2, 3, 4, 5, 6, 7, 8, 9, 10, 11, 12, 13, 14, 15, 16, 17, 18, 19, 20]) G (c1_mix l D cI cZ cJ (gm_mx (gm_mx (gm_mx (gm_mx (gm_dsk M d0 k) (gm_e (M 7 k))) (nI (M 5 k))) (nI (M 6 k))) (gm_e (M 8 k))) (gm_plc M k)) gX1_mixSacks_X1_mix rfl 2 (by decide +kernel) rfl rfl ⟨(Nat.le_of_ble_eq_true rfl), (Nat.le_of_ble_eq_true rfl)⟩ rfl gk_ok0 trivial rfl (by decide) rfl (by decide) (by decide) rfl (Nat.le_of_ble_eq_true rfl) dX1_mixSacks_72 ⟨(Nat.le_of_ble_eq_true rfl), (Nat.le_of_ble_eq_true rfl)⟩ (fun r72 u72 hp72 => ?_)
        rw [show r72 = gm_mx (gm_mx (gm_mx (gm_mx (gm_mx (gm_dsk M d0 k) (gm_e (M 7 k))) (nI (M 5 k))) (nI (M 6 k))) (gm_e (M 8 k))) (gm_plc M k) from hp72]
        show gk_C p l e ({ frames := 5, cells := 0, slots := 0, locals := 113 } : Room) s m ([.ref g, .long d0] : List Value).toArray below meth c 6 D A Q 0 0 (gw_G g h1 h2 ++ (gs_W cI cZ h1 q F69 B69 ++ (gs_W cI cZ h2 q2 G69 C69))) [(3, .long (gm_mx (gm_mx (gm_mx (gm_mx (gm_dsk M d0 k) (gm_e (M 7 k))) (nI (M 5 k))) (nI (M 6 k))) (gm_e (M 8 k)))), (0, .ref g), (1, .long d0), (5, .int (nI k))] 75 [.long (gm_mx (gm_mx (gm_mx (gm_mx (gm_mx (gm_dsk M d0 k) (gm_e (M 7 k))) (nI (M 5 k))) (nI (M 6 k))) (gm_e (M 8 k))) (gm_plc M k))]
        refine gk_lstore_n (lv' := [(3, .long (gm_mx (gm_mx (gm_mx (gm_mx (gm_mx (gm_dsk M d0 k) (gm_e (M 7 k))) (nI (M 5 k))) (nI (M 6 k))) (gm_e (M 8 k))) (gm_plc M k))), (0, .ref g), (1, .long d0), (5, .int (nI k))]) G dX1_mixSacks_75 rfl (by decide) rfl ?_
        refine gk_lload_n G dX1_mixSacks_76 0 rfl ?_
        refine gk_aload_n G dX1_mixSacks_77 1 rfl ?_
        refine gk_get (v' := .ref h2) G hinX1 (q0 := 0) rfl rfl 1 (by decide) k16 rfl rfl dX1_mixSacks_78 ?_
        refine gk_getN (v' := .ref (q2 8)) G hinX0 (q0 := 11) rfl rfl 8 (by decide) kN114 rfl rfl dX1_mixSacks_81 ?_
        refine gk_iload G dX1_mixSacks_84 3 rfl ?_
        refine gk_iald (v := gm_e ((gm_hrs M 200) 8 k)) G (q0 := 20) (t0 := 0) rfl rfl k rfl hk16 (by decide) (w2.2.2.2.2.2.2.2.2 k hvT) dX1_mixSacks_86 ?_
        refine gk_callLS (wc := []) (wr := (gw_G g h1 h2 ++ (gs_W cI cZ h1 q F69 B69 ++ (gs_W cI cZ h2 q2 G69 C69)))) (isC := []) (isR := [0, 1, 2, 3, 4, 5, 6, 7, 8, 9, 10, 11, 12, 13, 14, 15, 16, 17, 18, 19, 20]) G (c1_mix l D cI cZ cJ (gm_mx (gm_mx (gm_mx (gm_mx (gm_mx (gm_dsk M d0 k) (gm_e (M 7 k))) (nI (M 5 k))) (nI (M 6 k))) (gm_e (M 8 k))) (gm_plc M k)) (gm_e ((gm_hrs M 200) 8 k))) gX1_mixSacks_X1_mix rfl 2 (by decide +kernel) rfl rfl ⟨(Nat.le_of_ble_eq_true rfl), (Nat.le_of_ble_eq_true rfl)⟩ rfl gk_ok0 trivial rfl (by decide) rfl (by decide) (by decide) rfl (Nat.le_of_ble_eq_true rfl) dX1_mixSacks_87 ⟨(Nat.le_of_ble_eq_true rfl), (Nat.le_of_ble_eq_true rfl)⟩ (fun r87 u87 hp87 => ?_)
        rw [show r87 = gm_dsk M d0 (k + 1) from hp87]
        show gk_C p l e ({ frames := 5, cells := 0, slots := 0, locals := 113 } : Room) s m ([.ref g, .long d0] : List Value).toArray below meth c 6 D A Q 0 0 (gw_G g h1 h2 ++ (gs_W cI cZ h1 q F69 B69 ++ (gs_W cI cZ h2 q2 G69 C69))) [(3, .long (gm_mx (gm_mx (gm_mx (gm_mx (gm_mx (gm_dsk M d0 k) (gm_e (M 7 k))) (nI (M 5 k))) (nI (M 6 k))) (gm_e (M 8 k))) (gm_plc M k))), (0, .ref g), (1, .long d0), (5, .int (nI k))] 90 [.long (gm_dsk M d0 (k + 1))]
        refine gk_lstore_n (lv' := [(3, .long (gm_dsk M d0 (k + 1))), (0, .ref g), (1, .long d0), (5, .int (nI k))]) G dX1_mixSacks_90 rfl (by decide) rfl ?_
        refine gk_iinc (j := 3) (v := nI (k + 1)) (lv' := [(5, .int (nI (k + 1))), (3, .long (gm_dsk M d0 (k + 1))), (0, .ref g), (1, .long d0)]) G dX1_mixSacks_91 rfl (nI_add k 1) (by decide) rfl ?_
        refine gk_goto (tgt := 9) G dX1_mixSacks_94 (by decide) ?_
        exact gk_lsub [2,3,1,0] rfl (ih (k + 1) F69 B69 G69 C69 (by omega) (by omega) hr69 w2)
  refine gk_lload_n G dX1_mixSacks_0 1 rfl ?_
  refine gk_lstore_n (lv' := [(3, .long d0), (0, .ref g), (1, .long d0)]) G dX1_mixSacks_1 rfl (by decide) rfl ?_
  refine gk_aload_n G dX1_mixSacks_2 1 rfl ?_
  refine gk_callVV (wr := []) G (c1_lookAhead l D cI cZ cJ g h1 h2 q F B q2 F2 B2 M wf hr hrest hh) gX1_mixSacks_X1_lookAhead rfl 0 (by decide +kernel) rfl rfl ⟨(Nat.le_of_ble_eq_true rfl), (Nat.le_of_ble_eq_true rfl)⟩ rfl (q0 := 0) rfl (T := TX1) (N := 2) rfl gn_ok hE [0, 1, 2, 3, 4, 5, 6, 7, 8, 9, 10, 11, 12, 13, 14, 15, 16, 17, 18, 19, 20] rfl (by decide) [] rfl (by decide) (by decide) rfl (Nat.le_of_ble_eq_true rfl) dX1_mixSacks_3 ⟨(Nat.le_of_ble_eq_true rfl), (Nat.le_of_ble_eq_true rfl)⟩ (fun u3 hp3 => ?_)
  obtain ⟨⟨F3, B3⟩, ⟨G3, C3⟩⟩ := u3
  have hr3 : gc_rep F3 B3 M := hp3.1
  have ht3 : gc_rep G3 C3 (gm_hrs M 200) := hp3.2
  show gk_C p l e ({ frames := 5, cells := 0, slots := 0, locals := 113 } : Room) s m ([.ref g, .long d0] : List Value).toArray below meth c 6 D A Q 0 0 (gw_G g h1 h2 ++ (gs_W cI cZ h1 q F3 B3 ++ (gs_W cI cZ h2 q2 G3 C3))) [(3, .long d0), (0, .ref g), (1, .long d0)] 6 []
  refine gk_iconst (v := nI 0) G dX1_mixSacks_6 (by decide) ?_
  refine gk_istore (lv' := [(5, .int (nI 0)), (3, .long d0), (0, .ref g), (1, .long d0)]) G dX1_mixSacks_7 (by decide) rfl ?_
  exact gk_lsub [2,3,1,0] rfl (L9 (M 11 0 + 1) 0 F3 B3 G3 C3 (by omega) (by omega) hr3 ht3)
