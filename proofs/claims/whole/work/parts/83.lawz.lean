theorem gl_31 (x : Int32) : ∃ k, k < 32 ∧ x &&& nI 31 = nI k := by
  refine ⟨(x &&& nI 31).toBitVec.toNat, ?_, ?_⟩
  · rw [Int32.toBitVec_and, BitVec.toNat_and]
    exact Nat.and_lt_two_pow _ (n := 5) (by decide)
  · apply Int32.toBitVec_inj.mp
    show _ = BitVec.ofNat 32 _
    rw [BitVec.ofNat_toNat]; simp
theorem gl_gt {L i : Nat} (hL : L ≤ 2048) (hi : i ≤ 2048) : (nI L - nI 4 < nI i) ↔ L < i + 4 := by
  rw [Int32.lt_iff_toInt_lt, pk_sub_toInt (by omega) (by omega), nI_toInt (by omega)]
  omega
theorem gl_arr {s : State} {args : Array Value} {ty : FieldType} (hp : ∀ C : String, ty ≠ .object C) (h : (Cond.arrayClass ty).before args s = true) : ∃ cA : ClassId, ArrOfT s cA ty ∧ va_RA s cA ty := by
  obtain ⟨cA, kA, comp, h1, h2, h3⟩ := Cond.arrayClass_spec h
  refine ⟨cA, fun n z => ⟨fun k h => (by cases h), kA, h2, comp, h3⟩, ?_⟩
  cases ty with
  | object C => exact absurd rfl (hp C)
  | _ => exact h1
section LZ
variable {p : Program} {l : Launch} {e : Env} {R : Room} {s : State} {m : MethodId} {args : Array Value} {below : List Frame} {meth : Method} {c : Code}
variable {own : String} {nL : Nat} {cc : ByteArray} {Ts : List Cond} {D : va_G} {tys : List (ClassId × FieldType)} {A : Nat → Prop} {cells slots pc : Nat} {Q : State → Prop} {w : va_W} {lv : List (Nat × Value)} {st : List Value} {a : Nat} {ret : Option FieldType} {S : Type}
theorem gk_tableIn (G : gk_G p s m args meth c own nL cc ret Ts D tys A) {dflt lo hi : Int} {offs : Array Int} {len : Nat} {x : Int32} {off : Int} {tgt : Nat} (d : decode cc pc = .ok (.tableswitch dflt lo hi offs, len)) (h1 : ¬ x.toInt < lo) (h2 : ¬ hi < x.toInt) (ho : offs[(x.toInt - lo).toNat]? = some off) (ht : (pc : Int) + off = (tgt : Int)) (K : gk_C p l e R s m args below meth c nL D A Q cells slots w lv tgt st) : gk_C p l e R s m args below meth c nL D A Q cells slots w lv pc (.int x :: st) :=
  fun H locs ls hP hD hS hl => lv_tableIn G.1 G.2.1 d h1 h2 ho ht (K H locs ls hP hD hS hl)
end LZ
set_option maxRecDepth 100000 in
set_option maxHeartbeats 2000000 in
theorem lz_body {p : Program} {l : Launch} {e : Env} {s : State} {m : MethodId} {args : Array Value} {below : List Frame} {meth : Method} {c : Code} {D : va_G} {A : Nat → Prop} {Q : State → Prop} {cI cZ cJ : ClassId} {b L : Nat} {xs : Nat → Int32} (G : gk_G p s m args meth c RL 9 cL_law (some .boolean) wsL_law D (g_T cI cZ cJ) A) (hE : gl_F A s s.heap) (hl9 : l.stackTraces = false) (hX : va_X b L xs s s.heap) (hbl : b < s.heap.size) (hbA : ¬ A b) (hL : L ≤ 2048) {g h1 h2 o h : Nat} {q q2 q3 : Nat → Nat} {f : Nat → Int64} {u0 : gw_U} {v0 : gd_U} {M : gm_M} (wf : gm_wf M) (hrest : gm_rest M) (hh : M 9 0 < 1999000) (hr : gc_rep u0.1.1 u0.1.2 M) (hs : gr_st v0.1 v0.2.1 M) (hn : gr_now v0.2.2.1 M) {i cells slots : Nat} (hi : i + 4 ≤ L) (hc : cells ≤ 500000) (hsl : slots ≤ 7000000)
    (K : ∀ (f9 : Nat → Int64) (u9 : gw_U) (v9 : gd_U) (M9 : gm_M) (c9 s9 : Nat), c9 ≤ cells + 20 → s9 ≤ slots + 240 → gm_wf M9 → gm_rest M9 → M9 9 0 ≤ M 9 0 + 60 → gc_rep u9.1.1 u9.1.2 M9 → gr_st v9.1 v9.2.1 M9 → gr_now v9.2.2.1 M9 → gk_C p l e room_1 s m args below meth c 9 D A Q c9 s9 (gd_X cI h q3 v9 ++ (gw_O cJ o f9 ++ (gw_X cI cZ g h1 h2 q q2 u9))) [(4, .int (nI i)), (3, .ref o), (2, .ref h), (1, .ref g), (0, .ref b)] 1565 []) :
    gk_C p l e room_1 s m args below meth c 9 D A Q cells slots (gd_X cI h q3 v0 ++ (gw_O cJ o f ++ (gw_X cI cZ g h1 h2 q q2 u0))) [(4, .int (nI i)), (3, .ref o), (2, .ref h), (1, .ref g), (0, .ref b)] 32 [] := by
  refine gk_aload_n G dL_law_32 4 rfl ?_
  refine gk_iload G dL_law_33 0 rfl ?_
  refine gk_sld (v := xs i) G hX hbl hbA i rfl (by omega) (by omega) rfl dL_law_35 ?_
  refine gk_bipush (v := nI 31) G dL_law_36 (by decide) ?_
  refine gk_iand (v := xs i &&& nI 31) G dL_law_38 rfl ?_
  obtain ⟨k, hk, ek⟩ := gl_31 (xs i)
  refine gk_steq (congrArg (fun z => [Value.int z]) ek) ?_
  have hk' : k = 0 ∨ k = 1 ∨ k = 2 ∨ k = 3 ∨ k = 4 ∨ k = 5 ∨ k = 6 ∨ k = 7 ∨ k = 8 ∨ k = 9 ∨ k = 10 ∨ k = 11 ∨ k = 12 ∨ k = 13 ∨ k = 14 ∨ k = 15 ∨ k = 16 ∨ k = 17 ∨ k = 18 ∨ k = 19 ∨ k = 20 ∨ k = 21 ∨ k = 22 ∨ k = 23 ∨ k = 24 ∨ k = 25 ∨ k = 26 ∨ k = 27 ∨ k = 28 ∨ k = 29 ∨ k = 30 ∨ k = 31 := by omega
  rcases hk' with rfl | rfl | rfl | rfl | rfl | rfl | rfl | rfl | rfl | rfl | rfl | rfl | rfl | rfl | rfl | rfl | rfl | rfl | rfl | rfl | rfl | rfl | rfl | rfl | rfl | rfl | rfl | rfl | rfl | rfl | rfl | rfl
  · exact gk_tableIn (off := 141) (tgt := 180) G dL_law_39 (by decide) (by decide) (by decide) (by decide) (lo_addStone G hE hl9 hX hbl hbA hL wf hrest hh hr hs hn hi hc hsl K)
  · exact gk_tableIn (off := 197) (tgt := 236) G dL_law_39 (by decide) (by decide) (by decide) (by decide) (lo_setWind G hE hl9 hX hbl hbA hL wf hrest hh hr hs hn hi hc hsl K)
  · exact gk_tableIn (off := 265) (tgt := 304) G dL_law_39 (by decide) (by decide) (by decide) (by decide) (lo_setRule G hE hl9 hX hbl hbA hL wf hrest hh hr hs hn hi hc hsl K)
  · exact gk_tableIn (off := 321) (tgt := 360) G dL_law_39 (by decide) (by decide) (by decide) (by decide) (lo_setTakingOff G hE hl9 hX hbl hbA hL wf hrest hh hr hs hn hi hc hsl K)
  · exact gk_tableIn (off := 362) (tgt := 401) G dL_law_39 (by decide) (by decide) (by decide) (by decide) (lo_bring G hE hl9 hX hbl hbA hL wf hrest hh hr hs hn hi hc hsl K)
  · exact gk_tableIn (off := 442) (tgt := 481) G dL_law_39 (by decide) (by decide) (by decide) (by decide) (lo_lift G hE hl9 hX hbl hbA hL wf hrest hh hr hs hn hi hc hsl K)
  · exact gk_tableIn (off := 498) (tgt := 537) G dL_law_39 (by decide) (by decide) (by decide) (by decide) (lo_setUntil G hE hl9 hX hbl hbA hL wf hrest hh hr hs hn hi hc hsl K)
  · exact gk_tableIn (off := 566) (tgt := 605) G dL_law_39 (by decide) (by decide) (by decide) (by decide) (lo_pass G hE hl9 hX hbl hbA hL wf hrest hh hr hs hn hi hc hsl K)
  · exact gk_tableIn (off := 622) (tgt := 661) G dL_law_39 (by decide) (by decide) (by decide) (by decide) (lo_hour G hE hl9 hX hbl hbA hL wf hrest hh hr hs hn hi hc hsl K)
  · exact gk_tableIn (off := 635) (tgt := 674) G dL_law_39 (by decide) (by decide) (by decide) (by decide) (lo_stones G hE hl9 hX hbl hbA hL wf hrest hh hr hs hn hi hc hsl K)
  · exact gk_tableIn (off := 648) (tgt := 687) G dL_law_39 (by decide) (by decide) (by decide) (by decide) (lo_sacks G hE hl9 hX hbl hbA hL wf hrest hh hr hs hn hi hc hsl K)
  · exact gk_tableIn (off := 661) (tgt := 700) G dL_law_39 (by decide) (by decide) (by decide) (by decide) (lo_rule G hE hl9 hX hbl hbA hL wf hrest hh hr hs hn hi hc hsl K)
  · exact gk_tableIn (off := 674) (tgt := 713) G dL_law_39 (by decide) (by decide) (by decide) (by decide) (lo_wind G hE hl9 hX hbl hbA hL wf hrest hh hr hs hn hi hc hsl K)
  · exact gk_tableIn (off := 687) (tgt := 726) G dL_law_39 (by decide) (by decide) (by decide) (by decide) (lo_sackOn G hE hl9 hX hbl hbA hL wf hrest hh hr hs hn hi hc hsl K)
  · exact gk_tableIn (off := 743) (tgt := 782) G dL_law_39 (by decide) (by decide) (by decide) (by decide) (lo_stoneOf G hE hl9 hX hbl hbA hL wf hrest hh hr hs hn hi hc hsl K)
  · exact gk_tableIn (off := 799) (tgt := 838) G dL_law_39 (by decide) (by decide) (by decide) (by decide) (lo_leftOf G hE hl9 hX hbl hbA hL wf hrest hh hr hs hn hi hc hsl K)
  · exact gk_tableIn (off := 855) (tgt := 894) G dL_law_39 (by decide) (by decide) (by decide) (by decide) (lo_untilOf G hE hl9 hX hbl hbA hL wf hrest hh hr hs hn hi hc hsl K)
  · exact gk_tableIn (off := 911) (tgt := 950) G dL_law_39 (by decide) (by decide) (by decide) (by decide) (lo_groundAt G hE hl9 hX hbl hbA hL wf hrest hh hr hs hn hi hc hsl K)
  · exact gk_tableIn (off := 967) (tgt := 1006) G dL_law_39 (by decide) (by decide) (by decide) (by decide) (lo_ground G hE hl9 hX hbl hbA hL wf hrest hh hr hs hn hi hc hsl K)
  · exact gk_tableIn (off := 980) (tgt := 1019) G dL_law_39 (by decide) (by decide) (by decide) (by decide) (lo_changes G hE hl9 hX hbl hbA hL wf hrest hh hr hs hn hi hc hsl K)
  · exact gk_tableIn (off := 993) (tgt := 1032) G dL_law_39 (by decide) (by decide) (by decide) (by decide) (lo_first G hE hl9 hX hbl hbA hL wf hrest hh hr hs hn hi hc hsl K)
  · exact gk_tableIn (off := 1006) (tgt := 1045) G dL_law_39 (by decide) (by decide) (by decide) (by decide) (lo_placeOf G hE hl9 hX hbl hbA hL wf hrest hh hr hs hn hi hc hsl K)
  · exact gk_tableIn (off := 1062) (tgt := 1101) G dL_law_39 (by decide) (by decide) (by decide) (by decide) (lo_leftFor G hE hl9 hX hbl hbA hL wf hrest hh hr hs hn hi hc hsl K)
  · exact gk_tableIn (off := 1118) (tgt := 1157) G dL_law_39 (by decide) (by decide) (by decide) (by decide) (lo_late G hE hl9 hX hbl hbA hL wf hrest hh hr hs hn hi hc hsl K)
  · exact gk_tableIn (off := 1131) (tgt := 1170) G dL_law_39 (by decide) (by decide) (by decide) (by decide) (lo_willBeGroundAt G hE hl9 hX hbl hbA hL wf hrest hh hr hs hn hi hc hsl K)
  · exact gk_tableIn (off := 1187) (tgt := 1226) G dL_law_39 (by decide) (by decide) (by decide) (by decide) (lo_spareOf G hE hl9 hX hbl hbA hL wf hrest hh hr hs hn hi hc hsl K)
  · exact gk_tableIn (off := 1243) (tgt := 1282) G dL_law_39 (by decide) (by decide) (by decide) (by decide) (lo_lateWith G hE hl9 hX hbl hbA hL wf hrest hh hr hs hn hi hc hsl K)
  · exact gk_tableIn (off := 1327) (tgt := 1366) G dL_law_39 (by decide) (by decide) (by decide) (by decide) (lo_bestRule G hE hl9 hX hbl hbA hL wf hrest hh hr hs hn hi hc hsl K)
  · exact gk_tableIn (off := 1340) (tgt := 1379) G dL_law_39 (by decide) (by decide) (by decide) (by decide) (lo_wouldBeInTime G hE hl9 hX hbl hbA hL wf hrest hh hr hs hn hi hc hsl K)
  · exact gk_tableIn (off := 1415) (tgt := 1454) G dL_law_39 (by decide) (by decide) (by decide) (by decide) (lo_groundIn G hE hl9 hX hbl hbA hL wf hrest hh hr hs hn hi hc hsl K)
  · exact gk_tableIn (off := 1471) (tgt := 1510) G dL_law_39 (by decide) (by decide) (by decide) (by decide) (lo_meanLeft G hE hl9 hX hbl hbA hL wf hrest hh hr hs hn hi hc hsl K)
  · exact gk_tableIn (off := 1512) (tgt := 1551) G dL_law_39 (by decide) (by decide) (by decide) (by decide) (lo_digest G hE hl9 hX hbl hbA hL wf hrest hh hr hs hn hi hc hsl K)
set_option maxRecDepth 100000 in
set_option maxHeartbeats 2000000 in
theorem lz_loop {p : Program} {l : Launch} {e : Env} {s : State} {m : MethodId} {args : Array Value} {below : List Frame} {meth : Method} {c : Code} {D : va_G} {A : Nat → Prop} {Q : State → Prop} {cI cZ cJ : ClassId} {b L : Nat} {xs : Nat → Int32} (G : gk_G p s m args meth c RL 9 cL_law (some .boolean) wsL_law D (g_T cI cZ cJ) A) (hE : gl_F A s s.heap) (hl9 : l.stackTraces = false) (hX : va_X b L xs s s.heap) (hbl : b < s.heap.size) (hbA : ¬ A b) (hL : L ≤ 2048) {g h1 h2 o h : Nat} {q q2 q3 : Nat → Nat}
    (END : ∀ (cells slots : Nat) (w : va_W) (lv : List (Nat × Value)), cells ≤ 500000 → slots ≤ 7000000 → gk_C p l e room_1 s m args below meth c 9 D A Q cells slots w lv 1571 []) :
    ∀ (n i : Nat) (f : Nat → Int64) (u0 : gw_U) (v0 : gd_U) (M : gm_M) (cells slots : Nat), L + 1 ≤ i + 4 * n → i ≤ L → gm_wf M → gm_rest M → M 9 0 ≤ 15 * i → cells ≤ 40 + 5 * i → slots ≤ 500 + 60 * i → gc_rep u0.1.1 u0.1.2 M → gr_st v0.1 v0.2.1 M → gr_now v0.2.2.1 M → gk_C p l e room_1 s m args below meth c 9 D A Q cells slots (gd_X cI h q3 v0 ++ (gw_O cJ o f ++ (gw_X cI cZ g h1 h2 q q2 u0))) [(4, .int (nI i)), (3, .ref o), (2, .ref h), (1, .ref g), (0, .ref b)] 23 [] := by
  intro n
  induction n with
  | zero =>
    intro i f u0 v0 M cells slots h0 hiL
    exact absurd h0 (by omega)
  | succ n ih =>
    intro i f u0 v0 M cells slots h0 hiL wf hrest hh hc hsl hr hs hn
    refine gk_iload G dL_law_23 0 rfl ?_
    refine gk_aload_n G dL_law_25 4 rfl ?_
    refine gk_slen G hX hbl hbA dL_law_26 ?_
    refine gk_iconst (v := nI 4) G dL_law_27 (by decide) ?_
    refine gk_isub (v := nI L - nI 4) G dL_law_28 rfl ?_
    refine gk_icmp_gt (tgt := 1571) G dL_law_29 (by decide) (fun c_29 => ?_) (fun c_29 => ?_)
    · exact END _ _ _ _ (by omega) (by omega)
    · have hi : i + 4 ≤ L := by
        have := (not_congr (gl_gt (L := L) (i := i) hL (by omega))).mp c_29
        omega
      refine lz_body G hE hl9 hX hbl hbA hL wf hrest (by omega) hr hs hn hi (by omega) (by omega) (fun f9 u9 v9 M9 c9 s9 k1 k2 w1 w2 w3 a1 a2 a3 => ?_)
      refine gk_iinc (j := 0) (v := nI (i + 4)) (lv' := [(4, .int (nI (i + 4))), (3, .ref o), (2, .ref h), (1, .ref g), (0, .ref b)]) G dL_law_1565 rfl (nI_add i 4) (by decide) rfl ?_
      refine gk_goto (tgt := 23) G dL_law_1568 (by decide) ?_
      exact ih (i + 4) f9 u9 v9 M9 c9 s9 (by omega) (by omega) w1 w2 (by omega) (by omega) (by omega) a1 a2 a3
set_option maxRecDepth 100000 in
set_option maxHeartbeats 2000000 in
theorem lz_start {p : Program} {l : Launch} {e : Env} {s : State} {m : MethodId} {args : Array Value} {below : List Frame} {meth : Method} {c : Code} {D : va_G} {A : Nat → Prop} {Q : State → Prop} {cI cZ cJ : ClassId} {b L : Nat} {xs : Nat → Int32} (G : gk_G p s m args meth c RL 9 cL_law (some .boolean) wsL_law D (g_T cI cZ cJ) A) (hts : ∀ w ∈ lw_tbl, w.before args s = true) (hE : gl_F A s s.heap) (hl9 : l.stackTraces = false) (hX : va_X b L xs s s.heap) (hbl : b < s.heap.size) (hbA : ¬ A b) (hL : L ≤ 2048)
    (END : ∀ (cells slots : Nat) (w : va_W) (lv : List (Nat × Value)), cells ≤ 500000 → slots ≤ 7000000 → gk_C p l e room_1 s m args below meth c 9 D A Q cells slots w lv 1571 []) : gk_C p l e room_1 s m args below meth c 9 D A Q 0 0 ([] : va_W) [(0, .ref b)] 0 [] := by
  refine gk_new (T := TX1) (N := 2) (ci := 1) (fs := [.null, .null]) G (fun w h => inlX1 w h) (ty := tyX1) tyX1_ok (hts _ (wl_r1 _ (List.mem_of_getElem? (i := 0) rfl))) (hts _ (wl_r1 _ (List.mem_of_getElem? (i := 1) rfl))) (hts _ (wl_r1 _ (List.mem_of_getElem? (i := 2) rfl))) rfl (by decide +kernel) (Nat.le_of_ble_eq_true rfl) (Nat.le_of_ble_eq_true rfl) dL_law_0 (fun g => ?_)
  refine gk_dup G dL_law_3 rfl ?_
  refine gk_callVI (rt := none) (wr := []) G (c1_init l D cI cZ cJ g) gL_law_X1_init rfl 0 (hts _ (wl_r1 _ (List.mem_of_getElem? (i := 2) rfl))) (hts _ (wl_r1 _ (List.mem_of_getElem? (i := 7) rfl))) (hts _ (wl_r1 _ (List.mem_of_getElem? (i := 8) rfl))) rfl (by decide +kernel) rfl rfl ⟨(Nat.le_of_ble_eq_true rfl), (Nat.le_of_ble_eq_true rfl)⟩ rfl gk_ok0 trivial [0] rfl (by decide) [] rfl (by decide) (by decide) rfl (Nat.le_of_ble_eq_true rfl) dL_law_4 ⟨(Nat.le_of_ble_eq_true rfl), (Nat.le_of_ble_eq_true rfl)⟩ (fun u4 hp4 => ?_)
  obtain ⟨h1, h2, q, q2, u0⟩ := u4
  have hr : gc_rep u0.1.1 u0.1.2 gm_new := hp4
  refine gk_wsub (w' := (gw_X cI cZ g h1 h2 q q2 u0)) [0, 1, 2, 3, 4, 5, 6, 7, 8, 9, 10, 11, 12, 13, 14, 15, 16, 17, 18, 19, 20] rfl (by decide) ?_
  refine gk_astore_n (lv' := [(1, .ref g), (0, .ref b)]) G dL_law_7 rfl (by decide) rfl ?_
  refine gk_new (T := TX2) (N := 12) (ci := 2) (fs := [.int 0, .int 0, .null, .null, .int 0, .int 0, .int 0, .null, .null, .null, .null, .null]) G (fun w h => inlX2 w h) (ty := tyX2) tyX2_ok (hts _ (wl_r1 _ (List.mem_of_getElem? (i := 3) rfl))) (hts _ (wl_r1 _ (List.mem_of_getElem? (i := 4) rfl))) (hts _ (wl_r1 _ (List.mem_of_getElem? (i := 5) rfl))) rfl (by decide +kernel) (Nat.le_of_ble_eq_true rfl) (Nat.le_of_ble_eq_true rfl) dL_law_8 (fun h => ?_)
  refine gk_dup G dL_law_11 rfl ?_
  refine gk_callVI (rt := none) (wr := (gw_X cI cZ g h1 h2 q q2 u0)) G (c2_init l D cI cZ cJ h) gL_law_X2_init rfl 0 (hts _ (wl_r1 _ (List.mem_of_getElem? (i := 5) rfl))) (hts _ (wl_r2 _ (List.mem_of_getElem? (i := 16) rfl))) (hts _ (wl_r2 _ (List.mem_of_getElem? (i := 17) rfl))) rfl (by decide +kernel) rfl rfl ⟨(Nat.le_of_ble_eq_true rfl), (Nat.le_of_ble_eq_true rfl)⟩ rfl gk_ok0 trivial [21] rfl (by decide) [0, 1, 2, 3, 4, 5, 6, 7, 8, 9, 10, 11, 12, 13, 14, 15, 16, 17, 18, 19, 20] rfl (by decide) (by decide) rfl (Nat.le_of_ble_eq_true rfl) dL_law_12 ⟨(Nat.le_of_ble_eq_true rfl), (Nat.le_of_ble_eq_true rfl)⟩ (fun u12 hp12 => ?_)
  obtain ⟨q3, v0⟩ := u12
  have hs : gr_st v0.1 v0.2.1 gm_new := hp12.1
  have hn : gr_now v0.2.2.1 gm_new := hp12.2
  refine gk_wsub (w' := (gw_X cI cZ g h1 h2 q q2 u0) ++ (gd_X cI h q3 v0)) [0, 1, 2, 3, 4, 5, 6, 7, 8, 9, 10, 11, 12, 13, 14, 15, 16, 17, 18, 19, 20, 21, 22, 23, 24, 25, 26, 27, 28] rfl (by decide) ?_
  refine gk_astore_n (lv' := [(2, .ref h), (1, .ref g), (0, .ref b)]) G dL_law_15 rfl (by decide) rfl ?_
  refine gk_iconst (v := nI 1) G dL_law_16 (by decide) ?_
  refine gk_newa (atype := .long) (N := 1) (a0 := (1, .inr (.inl (fun _ => 0)))) G (hts _ (wl_r1 _ (List.mem_of_getElem? (i := 6) rfl))) rfl (fun C h => by cases h) 2 rfl (fun _ => rfl) rfl (Nat.le_of_ble_eq_true rfl) (Nat.le_of_ble_eq_true rfl) (Nat.le_of_ble_eq_true rfl) (Nat.le_of_ble_eq_true rfl) dL_law_17 (fun o => ?_)
  refine gk_wsub (w' := (gd_X cI h q3 v0 ++ (gw_O cJ o (fun _ => 0) ++ (gw_X cI cZ g h1 h2 q q2 u0)))) [21, 22, 23, 24, 25, 26, 27, 28, 29, 0, 1, 2, 3, 4, 5, 6, 7, 8, 9, 10, 11, 12, 13, 14, 15, 16, 17, 18, 19, 20] rfl (by decide) ?_
  refine gk_astore_n (lv' := [(3, .ref o), (2, .ref h), (1, .ref g), (0, .ref b)]) G dL_law_19 rfl (by decide) rfl ?_
  refine gk_iconst (v := nI 0) G dL_law_20 (by decide) ?_
  refine gk_istore (lv' := [(4, .int (nI 0)), (3, .ref o), (2, .ref h), (1, .ref g), (0, .ref b)]) G dL_law_21 (by decide) rfl ?_
  exact lz_loop G hE hl9 hX hbl hbA hL END (L + 1) 0 (fun _ => 0) u0 v0 gm_new _ _ (by omega) (by omega) gm_new_wf gm_new_rest (by decide) (Nat.le_of_ble_eq_true rfl) (Nat.le_of_ble_eq_true rfl) hr hs hn
set_option maxRecDepth 100000 in
set_option maxHeartbeats 2000000 in
theorem whole_start {p : Program} {e : Env} {s : State} {m : MethodId} {below : List Frame} {meth : Method} {c : Code} (l : Launch) (hflags : l.flags = flags0) {b L : Nat} {xs : Nat → Int32} (hL : L ≤ 2048) (C0 : lw_At p s m meth c b L xs) : W p l e room_1 s m #[Value.ref b] below meth c s.heap [] 0 0 (lw_Z below #[Value.ref b] s) (entryFrame m ([Value.ref b] : List Value).toArray 9) := by
  refine W.base ?_
  have hd0 := Drawn.sameBut.refl s.drawn lw_cs
  obtain ⟨hx, hb, hr, hml, hown, hts, hX, hbl, hlocks, hgv⟩ := id C0
  have hl9 : l.stackTraces = false := by
    show (!l.flags.contains noTraceFlag) = false
    rw [hflags]; decide +kernel
  obtain ⟨cI, i1, i2⟩ := gl_arr (ty := .int) (fun C h => by cases h) (hts _ (wl_r1 _ (List.mem_of_getElem? (i := 22) rfl)))
  obtain ⟨cZ, z1, z2⟩ := gl_arr (ty := .boolean) (fun C h => by cases h) (hts _ (wl_r2 _ (List.mem_of_getElem? (i := 2) rfl)))
  obtain ⟨cJ, j1, j2⟩ := gl_arr (ty := .long) (fun C h => by cases h) (hts _ (wl_r1 _ (List.mem_of_getElem? (i := 6) rfl)))
  obtain ⟨c0, iS0, hKn0⟩ := u_known (C := RX0) (T := TX0) (N := 16) (n := 16) hts inX0 (hts _ (wl_r1 _ (List.mem_of_getElem? (i := 14) rfl)))
  obtain ⟨c1, iS1, hKn1⟩ := u_known (C := RX1) (T := TX1) (N := 2) (n := 2) hts inX1 (hts _ (wl_r1 _ (List.mem_of_getElem? (i := 1) rfl)))
  obtain ⟨c2, iS2, hKn2⟩ := u_known (C := RX2) (T := TX2) (N := 12) (n := 12) hts inX2 (hts _ (wl_r1 _ (List.mem_of_getElem? (i := 4) rfl)))
  obtain ⟨D, hKc⟩ : ∃ D : va_G, ∀ (k : Nat) (q : vw_C), vwCl[k]? = some q → u_Kn s q.1 q.2.1 q.2.2 (D.1 k) (D.2 k) := by
    refine ⟨(fun k => if k = 0 then c0 else if k = 1 then c1 else c2, fun k => if k = 0 then iS0 else if k = 1 then iS1 else iS2), ?_⟩
    intro k q hq
    match k, hq with
    | 0, hq => cases hq; exact hKn0
    | 1, hq => cases hq; exact hKn1
    | 2, hq => cases hq; exact hKn2
    | k + 3, hq => simp [vwCl] at hq
  have hK : va_K D vwCl (g_T cI cZ cJ) s := by
    refine ⟨hKc, ?_⟩
    intro k q hq
    match k, hq with
    | 0, hq => cases hq; exact ⟨i1, i2⟩
    | 1, hq => cases hq; exact ⟨z1, z2⟩
    | 2, hq => cases hq; exact ⟨j1, j2⟩
    | k + 3, hq => simp [g_T] at hq
  have hbA : ¬ (fun q : Nat => s.heap.size ≤ q) b := Nat.not_le.mpr hbl
  have hA : ∀ q : Nat, s.heap.size ≤ q → (fun q : Nat => s.heap.size ≤ q) q := fun _ h => h
  have G : gk_G p s m #[Value.ref b] meth c RL 9 cL_law (some .boolean) wsL_law D (g_T cI cZ cJ) (fun q : Nat => s.heap.size ≤ q) := ⟨hx, hb, hml, hown, fun w h => hts w (wsL_law_in w h), hK, hA, hr, hlocks⟩
  have END : ∀ (cells slots : Nat) (w : va_W) (lv : List (Nat × Value)), cells ≤ 500000 → slots ≤ 7000000 → gk_C p l e room_1 s m #[Value.ref b] below meth c 9 D (fun q : Nat => s.heap.size ≤ q) (lw_Z below #[Value.ref b] s) cells slots w lv 1571 [] := by
    intro cells slots w lv h1 h2
    refine gk_iconst (v := 1) G dL_law_1571 (by decide) ?_
    intro H locs ls hP hD hS hl
    refine va_forget (fun q hq => hS.2.2 q hq) ?_
    refine W.widen (k := 601024) (n := 7293034) (by omega) (by omega) ?_
    exact lw_ret hd0 hx hb hr hlocks dL_law_1572
  have hP : va_P D vwCl [] s.heap := fun k q h => by simp at h
  have hD : va_D (fun q : Nat => s.heap.size ≤ q) [] := ⟨fun i j p q h => by simp at h, fun k q h => by simp at h⟩
  have hl := lv_entry ([.ref b]) (n := 9) (Nat.le_of_ble_eq_true rfl)
  rw [lg_entry_eq]
  exact lz_start G hts (gl_FE C0) hl9 hX hbl hbA hL END s.heap [] _ hP hD va_S.rf hl
