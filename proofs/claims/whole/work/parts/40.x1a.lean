/-! THE CLASS: its cells, what it knows of the launch, methods that throw. Written by wip/whole/gen_x1.py -/
def gw_G (g h1 h2 : Nat) : va_W := [(g, .inr (1, [.ref h1, .ref h2]))]

def gn_ws : List Cond := [.fieldLinkNest RX1 26 "GustMill$State" "stoneCount" "I" "GustMill", .fieldLinkNest RX1 46 "GustMill$State" "winds" "[I" "GustMill", .fieldLinkNest RX1 54 "GustMill$State" "rule" "I" "GustMill", .fieldLinkNest RX1 57 "GustMill$State" "isTakingOff" "Z" "GustMill", .fieldLinkNest RX1 70 "GustMill$State" "sackCount" "I" "GustMill", .fieldLinkNest RX1 82 "GustMill$State" "stonesUnder" "[I" "GustMill", .fieldLinkNest RX1 90 "GustMill$State" "untils" "[I" "GustMill", .fieldLinkNest RX1 99 "GustMill$State" "hour" "I" "GustMill", .fieldLinkNest RX1 108 "GustMill$State" "sacksUpon" "[I" "GustMill", .fieldLinkNest RX1 111 "GustMill$State" "lefts" "[I" "GustMill", .fieldLinkNest RX1 114 "GustMill$State" "groundHours" "[I" "GustMill", .fieldLinkNest RX1 117 "GustMill$State" "groundCount" "I" "GustMill", .fieldLinkNest RX1 120 "GustMill$State" "changeCount" "I" "GustMill", .fieldLinkNest RX1 134 "GustMill$State" "bakers" "[I" "GustMill", .declares (Bundle.initS "java/lang/RuntimeException"), .declares (Bundle.initS "java/lang/Exception"), .declares (Bundle.initS "java/lang/Throwable"), .castable "java/lang/IllegalArgumentException" "java/lang/IllegalArgumentException", .castable "java/lang/IllegalStateException" "java/lang/IllegalStateException", .castable "java/lang/IndexOutOfBoundsException" "java/lang/IndexOutOfBoundsException"]
def gn_str : List (Nat × String) := [(21, "size is not 1 to 9"), (32, "there are 4 stones"), (41, "number is not 0 to 11"), (44, "wind is not 0 to 20"), (73, "there are 16 sacks"), (85, "the sack lies on no stone"), (106, "there is no such stone"), (215, "there is no such sack"), (217, "rule is not 0 to 2"), (219, "baker is not 0 to 7"), (221, "grain is not 1 to 60"), (223, "until is not 1 to 200"), (225, "hours is not 1 to 60")]
abbrev gn_U : (Nat → Prop) → State → Heap → Prop := vx_Zq Bundle.tN "UNASSIGNED_STACK" Bundle.steD
abbrev gn_N : (Nat → Prop) → State → Heap → Prop := vx_Zq Bundle.tN "SUPPRESSED_SENTINEL" Bundle.listD
def gn_E : (Nat → Prop) → State → Heap → Prop := fun A U H => (∀ w ∈ gn_ws, va_Nw w U) ∧ (∀ q ∈ gn_str, ∃ a : Nat, vk_R RX1 q.1 q.2 a U) ∧ gn_U A U H ∧ gn_N A U H
theorem gn_go {C n d : String} {A B : Nat → Prop} {u U : State} {H H1 : Heap} (hvm : u.vm.Alike U.vm) (hB : ∀ q, q < H.size → B q → A q) (hk : ∀ q : Nat, q < H.size → ¬ A q → H1[q]? = H[q]?) (h : vx_Zq C n d A u H) : vx_Zq C n d B U H1 := by
  have h1 := h.moved hvm
  obtain ⟨hz, hy⟩ := h1
  refine ⟨?_, ?_⟩
  · rcases hz with hz | ⟨t, hz⟩
    · obtain ⟨cf, kf, fi, f, a, cell, g1, g2, g3, g4, g5, g6, g7, g8⟩ := hz
      have ha := (Array.getElem?_eq_some_iff.mp g5).1
      exact Or.inl ⟨cf, kf, fi, f, a, cell, g1, g2, g3, g4, by rw [hk a ha g8]; exact g5, g6, g7, fun q => g8 (hB a ha q)⟩
    · obtain ⟨cf, kf, fi, f, a, cell, g1, g2, g3, g4, g5, g6, g7, g8⟩ := hz
      have ha := (Array.getElem?_eq_some_iff.mp g5).1
      exact Or.inr ⟨t, cf, kf, fi, f, a, cell, g1, g2, g3, g4, by rw [hk a ha g8]; exact g5, g6, g7, fun q => g8 (hB a ha q)⟩
  · obtain ⟨c, k, i, f, a, cell, g1, g2, g3, g4, g5, g6, g7, g8, g9, g10⟩ := hy
    have ha := (Array.getElem?_eq_some_iff.mp g5).1
    exact ⟨c, k, i, f, a, cell, g1, g2, g3, g4, by rw [hk a ha g10]; exact g5, g6, g7, g8, g9, fun q => g10 (hB a ha q)⟩
theorem gn_warm {u U : State} (hW : u.WarmedH U.vm) (h : ∀ w ∈ gn_ws, va_Nw w u) : ∀ w ∈ gn_ws, va_Nw w U :=
  (List.forall_mem_cons.mpr ⟨va_Nw.warmF hW (h _ (List.mem_of_getElem? (i := 0) rfl)), (List.forall_mem_cons.mpr ⟨va_Nw.warmF hW (h _ (List.mem_of_getElem? (i := 1) rfl)), (List.forall_mem_cons.mpr ⟨va_Nw.warmF hW (h _ (List.mem_of_getElem? (i := 2) rfl)), (List.forall_mem_cons.mpr ⟨va_Nw.warmF hW (h _ (List.mem_of_getElem? (i := 3) rfl)), (List.forall_mem_cons.mpr ⟨va_Nw.warmF hW (h _ (List.mem_of_getElem? (i := 4) rfl)), (List.forall_mem_cons.mpr ⟨va_Nw.warmF hW (h _ (List.mem_of_getElem? (i := 5) rfl)), (List.forall_mem_cons.mpr ⟨va_Nw.warmF hW (h _ (List.mem_of_getElem? (i := 6) rfl)), (List.forall_mem_cons.mpr ⟨va_Nw.warmF hW (h _ (List.mem_of_getElem? (i := 7) rfl)), (List.forall_mem_cons.mpr ⟨va_Nw.warmF hW (h _ (List.mem_of_getElem? (i := 8) rfl)), (List.forall_mem_cons.mpr ⟨va_Nw.warmF hW (h _ (List.mem_of_getElem? (i := 9) rfl)), (List.forall_mem_cons.mpr ⟨va_Nw.warmF hW (h _ (List.mem_of_getElem? (i := 10) rfl)), (List.forall_mem_cons.mpr ⟨va_Nw.warmF hW (h _ (List.mem_of_getElem? (i := 11) rfl)), (List.forall_mem_cons.mpr ⟨va_Nw.warmF hW (h _ (List.mem_of_getElem? (i := 12) rfl)), (List.forall_mem_cons.mpr ⟨va_Nw.warmF hW (h _ (List.mem_of_getElem? (i := 13) rfl)), (List.forall_mem_cons.mpr ⟨va_Nw.warmD hW (h _ (List.mem_of_getElem? (i := 14) rfl)), (List.forall_mem_cons.mpr ⟨va_Nw.warmD hW (h _ (List.mem_of_getElem? (i := 15) rfl)), (List.forall_mem_cons.mpr ⟨va_Nw.warmD hW (h _ (List.mem_of_getElem? (i := 16) rfl)), (List.forall_mem_cons.mpr ⟨va_Nw.warmC hW (h _ (List.mem_of_getElem? (i := 17) rfl)), (List.forall_mem_cons.mpr ⟨va_Nw.warmC hW (h _ (List.mem_of_getElem? (i := 18) rfl)), (List.forall_mem_cons.mpr ⟨va_Nw.warmC hW (h _ (List.mem_of_getElem? (i := 19) rfl)), (fun _ h9 => nomatch h9)⟩)⟩)⟩)⟩)⟩)⟩)⟩)⟩)⟩)⟩)⟩)⟩)⟩)⟩)⟩)⟩)⟩)⟩)⟩)⟩)
theorem gn_tabs : ∀ w ∈ gn_ws, w.onTables = true := by decide +kernel
theorem gn_ok : gk_Ok gn_E := by
  intro A B u U H H1 hvm hor hB hz hk h
  obtain ⟨h1, h2, h3, h4⟩ := h
  refine ⟨?_, ?_, gn_go hvm hB hk h3, gn_go hvm hB hk h4⟩
  · rcases hor with hW | e
    · exact gn_warm hW h1
    · exact fun w hw => va_Nw.same (gn_tabs w hw) e.symm (h1 w hw)
  · intro q hq
    obtain ⟨a, ha⟩ := h2 q hq
    rcases hor with hW | e
    · exact ⟨a, vk_R.warm hW ha⟩
    · exact ⟨a, vk_R.same e ha⟩
section GN
variable {A : Nat → Prop} {s : State} {args : Array Value}
theorem gn_26 (h : gn_E A s s.heap) : (Cond.fieldLinkNest RX1 26 "GustMill$State" "stoneCount" "I" "GustMill").before args s = true := va_Nw.use rfl (h.1 _ (List.mem_of_getElem? (i := 0) rfl))
theorem gn_46 (h : gn_E A s s.heap) : (Cond.fieldLinkNest RX1 46 "GustMill$State" "winds" "[I" "GustMill").before args s = true := va_Nw.use rfl (h.1 _ (List.mem_of_getElem? (i := 1) rfl))
theorem gn_54 (h : gn_E A s s.heap) : (Cond.fieldLinkNest RX1 54 "GustMill$State" "rule" "I" "GustMill").before args s = true := va_Nw.use rfl (h.1 _ (List.mem_of_getElem? (i := 2) rfl))
theorem gn_57 (h : gn_E A s s.heap) : (Cond.fieldLinkNest RX1 57 "GustMill$State" "isTakingOff" "Z" "GustMill").before args s = true := va_Nw.use rfl (h.1 _ (List.mem_of_getElem? (i := 3) rfl))
theorem gn_70 (h : gn_E A s s.heap) : (Cond.fieldLinkNest RX1 70 "GustMill$State" "sackCount" "I" "GustMill").before args s = true := va_Nw.use rfl (h.1 _ (List.mem_of_getElem? (i := 4) rfl))
theorem gn_82 (h : gn_E A s s.heap) : (Cond.fieldLinkNest RX1 82 "GustMill$State" "stonesUnder" "[I" "GustMill").before args s = true := va_Nw.use rfl (h.1 _ (List.mem_of_getElem? (i := 5) rfl))
theorem gn_90 (h : gn_E A s s.heap) : (Cond.fieldLinkNest RX1 90 "GustMill$State" "untils" "[I" "GustMill").before args s = true := va_Nw.use rfl (h.1 _ (List.mem_of_getElem? (i := 6) rfl))
theorem gn_99 (h : gn_E A s s.heap) : (Cond.fieldLinkNest RX1 99 "GustMill$State" "hour" "I" "GustMill").before args s = true := va_Nw.use rfl (h.1 _ (List.mem_of_getElem? (i := 7) rfl))
theorem gn_108 (h : gn_E A s s.heap) : (Cond.fieldLinkNest RX1 108 "GustMill$State" "sacksUpon" "[I" "GustMill").before args s = true := va_Nw.use rfl (h.1 _ (List.mem_of_getElem? (i := 8) rfl))
theorem gn_111 (h : gn_E A s s.heap) : (Cond.fieldLinkNest RX1 111 "GustMill$State" "lefts" "[I" "GustMill").before args s = true := va_Nw.use rfl (h.1 _ (List.mem_of_getElem? (i := 9) rfl))
theorem gn_114 (h : gn_E A s s.heap) : (Cond.fieldLinkNest RX1 114 "GustMill$State" "groundHours" "[I" "GustMill").before args s = true := va_Nw.use rfl (h.1 _ (List.mem_of_getElem? (i := 10) rfl))
theorem gn_117 (h : gn_E A s s.heap) : (Cond.fieldLinkNest RX1 117 "GustMill$State" "groundCount" "I" "GustMill").before args s = true := va_Nw.use rfl (h.1 _ (List.mem_of_getElem? (i := 11) rfl))
theorem gn_120 (h : gn_E A s s.heap) : (Cond.fieldLinkNest RX1 120 "GustMill$State" "changeCount" "I" "GustMill").before args s = true := va_Nw.use rfl (h.1 _ (List.mem_of_getElem? (i := 12) rfl))
theorem gn_134 (h : gn_E A s s.heap) : (Cond.fieldLinkNest RX1 134 "GustMill$State" "bakers" "[I" "GustMill").before args s = true := va_Nw.use rfl (h.1 _ (List.mem_of_getElem? (i := 13) rfl))
theorem gn_s21 (h : gn_E A s s.heap) : ∃ a : Nat, vk_R RX1 21 "size is not 1 to 9" a s := h.2.1 (21, "size is not 1 to 9") (List.mem_of_getElem? (i := 0) rfl)
theorem gn_s32 (h : gn_E A s s.heap) : ∃ a : Nat, vk_R RX1 32 "there are 4 stones" a s := h.2.1 (32, "there are 4 stones") (List.mem_of_getElem? (i := 1) rfl)
theorem gn_s41 (h : gn_E A s s.heap) : ∃ a : Nat, vk_R RX1 41 "number is not 0 to 11" a s := h.2.1 (41, "number is not 0 to 11") (List.mem_of_getElem? (i := 2) rfl)
theorem gn_s44 (h : gn_E A s s.heap) : ∃ a : Nat, vk_R RX1 44 "wind is not 0 to 20" a s := h.2.1 (44, "wind is not 0 to 20") (List.mem_of_getElem? (i := 3) rfl)
theorem gn_s73 (h : gn_E A s s.heap) : ∃ a : Nat, vk_R RX1 73 "there are 16 sacks" a s := h.2.1 (73, "there are 16 sacks") (List.mem_of_getElem? (i := 4) rfl)
theorem gn_s85 (h : gn_E A s s.heap) : ∃ a : Nat, vk_R RX1 85 "the sack lies on no stone" a s := h.2.1 (85, "the sack lies on no stone") (List.mem_of_getElem? (i := 5) rfl)
theorem gn_s106 (h : gn_E A s s.heap) : ∃ a : Nat, vk_R RX1 106 "there is no such stone" a s := h.2.1 (106, "there is no such stone") (List.mem_of_getElem? (i := 6) rfl)
theorem gn_s215 (h : gn_E A s s.heap) : ∃ a : Nat, vk_R RX1 215 "there is no such sack" a s := h.2.1 (215, "there is no such sack") (List.mem_of_getElem? (i := 7) rfl)
theorem gn_s217 (h : gn_E A s s.heap) : ∃ a : Nat, vk_R RX1 217 "rule is not 0 to 2" a s := h.2.1 (217, "rule is not 0 to 2") (List.mem_of_getElem? (i := 8) rfl)
theorem gn_s219 (h : gn_E A s s.heap) : ∃ a : Nat, vk_R RX1 219 "baker is not 0 to 7" a s := h.2.1 (219, "baker is not 0 to 7") (List.mem_of_getElem? (i := 9) rfl)
theorem gn_s221 (h : gn_E A s s.heap) : ∃ a : Nat, vk_R RX1 221 "grain is not 1 to 60" a s := h.2.1 (221, "grain is not 1 to 60") (List.mem_of_getElem? (i := 10) rfl)
theorem gn_s223 (h : gn_E A s s.heap) : ∃ a : Nat, vk_R RX1 223 "until is not 1 to 200" a s := h.2.1 (223, "until is not 1 to 200") (List.mem_of_getElem? (i := 11) rfl)
theorem gn_s225 (h : gn_E A s s.heap) : ∃ a : Nat, vk_R RX1 225 "hours is not 1 to 60" a s := h.2.1 (225, "hours is not 1 to 60") (List.mem_of_getElem? (i := 12) rfl)
theorem gn_hat_IAE (h1 : ∀ w ∈ (vx_atS RX1 23 "java/lang/IllegalArgumentException" ["java/lang/RuntimeException", "java/lang/Exception"]).filter goodWord, w.before args s = true) (h : gn_E A s s.heap) : ∀ w ∈ (vx_atS RX1 23 "java/lang/IllegalArgumentException" ["java/lang/RuntimeException", "java/lang/Exception"]), w.before args s = true :=
  vx_hat (B := [Cond.castable "java/lang/IllegalArgumentException" "java/lang/IllegalArgumentException", Cond.declares (Bundle.initS "java/lang/RuntimeException"), Cond.declares (Bundle.initS "java/lang/Exception"), Cond.declares (Bundle.initS "java/lang/Throwable")]) h1 (by decide +kernel) (vx_c (va_Nw.use rfl (h.1 _ (List.mem_of_getElem? (i := 17) rfl))) (vx_c (va_Nw.use rfl (h.1 _ (List.mem_of_getElem? (i := 14) rfl))) (vx_c (va_Nw.use rfl (h.1 _ (List.mem_of_getElem? (i := 15) rfl))) (vx_c (va_Nw.use rfl (h.1 _ (List.mem_of_getElem? (i := 16) rfl))) (vx_n (args := args) (s := s))))))
theorem gn_good_IAE : ∀ w ∈ Cond.classLink RX1 19 "java/lang/IllegalArgumentException" :: Cond.initialized "java/lang/IllegalArgumentException" :: (vx_atS RX1 23 "java/lang/IllegalArgumentException" ["java/lang/RuntimeException", "java/lang/Exception"]), vx_ot w = true := by decide +kernel
theorem gn_hat_ISE (h1 : ∀ w ∈ (vx_atS RX1 34 "java/lang/IllegalStateException" ["java/lang/RuntimeException", "java/lang/Exception"]).filter goodWord, w.before args s = true) (h : gn_E A s s.heap) : ∀ w ∈ (vx_atS RX1 34 "java/lang/IllegalStateException" ["java/lang/RuntimeException", "java/lang/Exception"]), w.before args s = true :=
  vx_hat (B := [Cond.castable "java/lang/IllegalStateException" "java/lang/IllegalStateException", Cond.declares (Bundle.initS "java/lang/RuntimeException"), Cond.declares (Bundle.initS "java/lang/Exception"), Cond.declares (Bundle.initS "java/lang/Throwable")]) h1 (by decide +kernel) (vx_c (va_Nw.use rfl (h.1 _ (List.mem_of_getElem? (i := 18) rfl))) (vx_c (va_Nw.use rfl (h.1 _ (List.mem_of_getElem? (i := 14) rfl))) (vx_c (va_Nw.use rfl (h.1 _ (List.mem_of_getElem? (i := 15) rfl))) (vx_c (va_Nw.use rfl (h.1 _ (List.mem_of_getElem? (i := 16) rfl))) (vx_n (args := args) (s := s))))))
theorem gn_good_ISE : ∀ w ∈ Cond.classLink RX1 30 "java/lang/IllegalStateException" :: Cond.initialized "java/lang/IllegalStateException" :: (vx_atS RX1 34 "java/lang/IllegalStateException" ["java/lang/RuntimeException", "java/lang/Exception"]), vx_ot w = true := by decide +kernel
theorem gn_hat_IOB (h1 : ∀ w ∈ (vx_atS RX1 43 "java/lang/IndexOutOfBoundsException" ["java/lang/RuntimeException", "java/lang/Exception"]).filter goodWord, w.before args s = true) (h : gn_E A s s.heap) : ∀ w ∈ (vx_atS RX1 43 "java/lang/IndexOutOfBoundsException" ["java/lang/RuntimeException", "java/lang/Exception"]), w.before args s = true :=
  vx_hat (B := [Cond.castable "java/lang/IndexOutOfBoundsException" "java/lang/IndexOutOfBoundsException", Cond.declares (Bundle.initS "java/lang/RuntimeException"), Cond.declares (Bundle.initS "java/lang/Exception"), Cond.declares (Bundle.initS "java/lang/Throwable")]) h1 (by decide +kernel) (vx_c (va_Nw.use rfl (h.1 _ (List.mem_of_getElem? (i := 19) rfl))) (vx_c (va_Nw.use rfl (h.1 _ (List.mem_of_getElem? (i := 14) rfl))) (vx_c (va_Nw.use rfl (h.1 _ (List.mem_of_getElem? (i := 15) rfl))) (vx_c (va_Nw.use rfl (h.1 _ (List.mem_of_getElem? (i := 16) rfl))) (vx_n (args := args) (s := s))))))
theorem gn_good_IOB : ∀ w ∈ Cond.classLink RX1 39 "java/lang/IndexOutOfBoundsException" :: Cond.initialized "java/lang/IndexOutOfBoundsException" :: (vx_atS RX1 43 "java/lang/IndexOutOfBoundsException" ["java/lang/RuntimeException", "java/lang/Exception"]), vx_ot w = true := by decide +kernel
end GN
section GX
variable {p : Program} {l : Launch} {e : Env} {R : Room} {s : State} {m : MethodId} {args : Array Value} {below : List Frame} {meth : Method} {c : Code}
variable {nL : Nat} {cc : ByteArray} {Ts : List Cond} {D : va_G} {tys : List (ClassId × FieldType)} {A : Nat → Prop} {cells slots pc mc ms : Nat} {w w0 : va_W} {lv : List (Nat × Value)} {st : List Value} {ret : Option FieldType} {own : String}
/-- what a method that throws comes to: Ex, the world as it was -/
def gk_QN (below : List Frame) (D : va_G) (tys : List (ClassId × FieldType)) (A : Nat → Prop) (w : va_W) (Ex : String) (args : Array Value) (s : State) (mc ms : Nat) : State → Prop := vx_MQ below (va_Qv (fun _ : Unit => False) (fun _ _ => True) A) (vx_X (fun _ : Unit => True) (fun E' _ t => E' = Ex ∧ gk_Post D tys A w t) A) args s mc ms A
def gk_N (l : Launch) (y : MethodName) (ws : List Cond) (rm : Room) (D : va_G) (tys : List (ClassId × FieldType)) (E : (Nat → Prop) → State → Heap → Prop) (av : List Value) (w : va_W) (mc ms : Nat) (Ex : String) : Prop :=
  ∀ sz : Nat, vx_Met l y ws rm (va_Pc av (gk_Pre D tys E w sz)) (va_Qv (fun _ : Unit => False) (fun _ _ => True) (va_A w sz)) (vx_X (fun _ : Unit => True) (fun E' _ t => E' = Ex ∧ gk_Post D tys (va_A w sz) w t) (va_A w sz)) mc ms (va_A w sz)
theorem gk_kept {H H1 : Heap} (hP : va_P D vwCl w H) (hq : ∀ q : Nat, q < H.size → H1[q]? = H[q]?) : va_P D vwCl w H1 := hP.kept (fun k q hk => hq q.1 (hP k q hk).lt)
theorem gk_thr (G : gk_G p s m args meth c own nL cc ret Ts D tys A) (hl9 : l.stackTraces = false) (hout : ∀ x ∈ c.exceptionTable.toList, False) {cls text : String} {ik is ic sa : Nat} (hcls : Bundle.fit cls = true)
    (hk : (Cond.classLink own ik cls).before args s = true) (hini : (Cond.initialized cls).before args s = true) (hstr : vk_R own is text sa s) (hat : ∀ w ∈ vx_atS own ic cls ["java/lang/RuntimeException", "java/lang/Exception"], w.before args s = true)
    (hgood : ∀ w ∈ Cond.classLink own ik cls :: Cond.initialized cls :: vx_atS own ic cls ["java/lang/RuntimeException", "java/lang/Exception"], vx_ot w = true)
    (hU : gn_U A s s.heap) (hN : gn_N A s s.heap)
    (d0 : decode cc pc = .ok (.new ik, 3)) (d3 : decode cc (pc + 3) = .ok (.dup, 1)) (d4 : decode cc (pc + 4) = .ok (.ldc is, 2)) (d6 : decode cc (pc + 6) = .ok (.invokespecial ic, 3)) (d9 : decode cc (pc + 9) = .ok (.athrow, 1))
    (hRf : 5 < R.frames) (hRl : (st.map fun v => v.category).sum + 82 ≤ R.locals) (hRc : cells + 1 ≤ R.cells) (hRs : slots + 6 ≤ R.slots) (hc : cells + 1 ≤ mc) (hs : slots + 6 ≤ ms) (hw : w = w0) :
    gk_C p l e R s m args below meth c nL D A (gk_QN below D tys A w0 cls args s mc ms) cells slots w lv pc st := by
  intro H locs ls hP hD hS hl
  subst hw
  refine vx_throwS (names := ["java/lang/RuntimeException", "java/lang/Exception"]) G.1 G.2.1 hl9 G.2.2.2.1 hcls (by decide +kernel) hk hini hstr hat hgood hU hN hS (hl.1.trans G.2.2.1.symm) d0 d3 d4 d6 d9 (fun x hx => (hout x hx).elim) hRf hRl hRc hRs G.2.2.2.2.2.2.2.2 (fun t hA hz hq => ?_) hS.2.2 hc hs
  exact ⟨(), trivial, ⟨rfl, gk_kept hP hq, va_K.moved hA G.2.2.2.2.2.1, hD⟩, Nat.le_trans hS.1 hz, fun q h1 h2 => (hq q (Nat.lt_of_lt_of_le h1 hS.1)).trans (hS.2.1 q h1 h2)⟩
end GX
section GX2
variable {l : Launch} {y : MethodName} {ws ws' : List Cond} {rm : Room} {D : va_G} {tys : List (ClassId × FieldType)} {E : (Nat → Prop) → State → Heap → Prop} {av : List Value} {w : va_W} {mc ms : Nat}
theorem gk_N_of {Ex : String} {ret : Option FieldType} {cc : ByteArray} {nL : Nat} (hy : plainName y.cls = true) (hw : ws = Cond.code y cc nL ret :: ws') (hav : (lg_sl av).length ≤ nL)
    (body : ∀ (p : Program) (e : Env) (s : State) (m : MethodId) (below : List Frame) (meth : Method) (c : Code) (A : Nat → Prop), (∀ x ∈ c.exceptionTable.toList, False) → E A s s.heap → gk_G p s m av.toArray meth c y.cls nL cc ret ws D tys A →
      gk_C p l e rm s m av.toArray below meth c nL D A (gk_QN below D tys A w Ex av.toArray s mc ms) 0 0 w (lv_args 0 av) 0 []) : gk_N l y ws rm D tys E av w mc ms Ex := by
  intro sz
  refine vx_ofW (cc := cc) (maxL := nL) (ret := ret) hy hw ?_
  intro p e s m args below meth c s₁ B hml hout hv
  obtain ⟨rfl, hsz, hP, hK, hD0, hE⟩ := hv
  have hD := hD0.self (sz := sz)
  rw [lg_entry_eq]
  have G : gk_G p s m av.toArray meth c y.cls nL cc ret ws D tys (va_A w sz) := ⟨B.exec, B.bytes, hml, findClass_of_methodNamed B.named, atoms_spec (ws := ws) B.pre, hK, fun q h => Or.inr (by rw [← hsz]; exact h), B.returns, B.notSynchronized⟩
  exact body p e s m below meth c (va_A w sz) hout hE G s.heap [] _ hP hD va_S.rf (lv_entry av hav)
end GX2
section GX3
variable {p : Program} {l : Launch} {e : Env} {R : Room} {s : State} {m : MethodId} {args : Array Value} {below : List Frame} {meth : Method} {c : Code}
variable {own : String} {nL : Nat} {cc : ByteArray} {Ts : List Cond} {D : va_G} {tys : List (ClassId × FieldType)} {A : Nat → Prop} {cells slots pc mc ms mc1 ms1 : Nat} {w w0 : va_W} {lv : List (Nat × Value)} {st : List Value} {ret : Option FieldType}
theorem gk_callNV (G : gk_G p s m args meth c own nL cc ret Ts D tys A) {y : MethodName} {bytes : ByteArray} {maxL idx : Nat} {b : Nat} {C : String} {rt : Option FieldType} {ws ws' : List Cond} {rm : Room} {As : List Value} {wc wr : va_W} {E : (Nat → Prop) → State → Heap → Prop} {st0 : List Value} {Ex : String}
    (hM : gk_N l y ws rm D tys E (.ref b :: As) wc mc1 ms1 Ex) (hT : GoodIn Ts (wsV own idx C y ws)) (hw : ws = Cond.code y bytes maxL rt :: ws') (n : Nat) (hd : y.cls = C ∧ y.cls ≠ "java/lang/invoke/MethodHandle" ∧ y.cls ≠ "java/lang/invoke/VarHandle" ∧ (parseMethodDescriptor y.desc).map (fun d => d.parameters.length) = some n) (hrc : rm.cells = mc1) (hrs : rm.slots = ms1) (hR : rm.frames + 1 ≤ R.frames ∧ 8 + (maxL + 11) + rm.locals ≤ R.locals) (hn : As.length = n) {ci q0 : Nat} {fs : List Value} (hrecv : wc[q0]? = some (b, .inr (ci, fs))) {T : u_T} {N : Nat} (hcl : vwCl[ci]? = some (C, T, N)) 
    (hE : gk_Ok E) (hE1 : E A s s.heap) (hout : ∀ x ∈ c.exceptionTable.toList, False) (isC : List Nat) (hC : isC.map (fun i => w[i]?) = wc.map some) (hnC : va_nd isC = true) (isR : List Nat) (hR2 : isR.map (fun i => w[i]?) = wr.map some) (hnR : va_nd isR = true) (hdis : ∀ i ∈ isR, i ∉ isC) (isW : List Nat) (hW0 : isW.map (fun i => (wr ++ wc)[i]?) = w0.map some) (hnW : va_nd isW = true) (hst : st0 = As.reverse ++ .ref b :: st) (hroom : (st.map fun v => v.category).sum ≤ 8) (d : decode cc pc = .ok (.invokevirtual idx, 3)) (hcs : cells + mc1 ≤ R.cells ∧ slots + ms1 ≤ R.slots) (hcm : cells + mc1 ≤ mc) (hsm : slots + ms1 ≤ ms) :
    gk_C p l e R s m args below meth c nL D A (gk_QN below D tys A w0 Ex args s mc ms) cells slots w lv pc st0 := by
  intro H locs ls hP hD hS hl
  have hPc : va_P D vwCl wc H := hP.sub isC (gk_fm isC hC)
  have hDc : va_D A wc := hD.sub isC hnC hC
  have hF := va_free hD hS G.2.2.2.2.2.2.1 isC hC
  refine vx_callv (vx_runV (As := As) (rest := st) ⟨G.1, G.2.1, G.2.2.1, G.2.2.2.1, G.2.2.2.2.1⟩ (hM H.size) (cwV n G.2.2.2.2.1 hT hw hrc hrs hd hR) ⟨fun a U g mk q => ?_, va_recv G.2.2.2.2.2.1 hPc hcl hrecv, fun U hU hW => ⟨rfl, by rw [hU], by rw [hU]; exact hPc, va_K.moved hW.alike G.2.2.2.2.2.1, hDc.weaken (fun _ _ _ _ => trivial), ?_⟩⟩ rfl hn hl.1 hst (lv_room hroom) d hcs) hS (fun q _ h => hF q h) hF (fun q _ h => hF q h) (fun E ce q9 u t H1 locs1 ht hvm hu hB hz1 hk1 hS1 hce hcv hcl9 => ?_) (fun u t H1 locs1 ht hvm hw1 hB hz1 hk1 hS1 => hw1.elim)
  · obtain ⟨q0, q1, qP, qK, qD, qE⟩ := q
    exact ⟨q0, q1, qP, va_K.moved (u := U) (U := U.calling g mk a) (Vm.Alike.refl U.vm) qK, qD, hE _ _ U (U.calling g mk a) _ _ (Vm.Alike.refl U.vm) (Or.inr rfl) (fun _ _ h => h) (Nat.le_refl _) (fun _ _ _ => rfl) qE⟩
  · exact hE A _ s U s.heap U.heap hW.alike (Or.inl hW) (fun q _ h => hF q h) (by rw [hU]; exact hS.1) (fun q h1 h2 => by rw [hU]; exact hS.2.1 q h1 h2) hE1
  · obtain ⟨rfl, hP1, hK1, hD1⟩ := hB
    rw [ht] at hP1
    obtain ⟨hP2, hD2⟩ := va_join hP hD isC isR hC hR2 hnR hdis hk1 hF hP1 hD1
    refine vx_out (fun x hx => (hout x hx).elim) G.2.2.2.2.2.2.2.2 hce hcv hcl9 (fun t' ht' hA' => ?_) hS1.2.2 hcm hsm
    exact ⟨(), trivial, ⟨rfl, by rw [ht']; exact hP2.sub isW (gk_fm isW hW0), va_K.moved hA' G.2.2.2.2.2.1, hD2.sub isW hnW hW0⟩, hS1.F ht'⟩
theorem gk_callNS (G : gk_G p s m args meth c own nL cc ret Ts D tys A) {y : MethodName} {bytes : ByteArray} {maxL idx : Nat} {rt : Option FieldType} {ws ws' : List Cond} {rm : Room} {As : List Value} {wc wr : va_W} {E : (Nat → Prop) → State → Heap → Prop} {st0 : List Value} {Ex : String}
    (hM : gk_N l y ws rm D tys E As wc mc1 ms1 Ex) (hT : GoodIn Ts (va_wsS own idx y ws)) (hw : ws = Cond.code y bytes maxL rt :: ws') (n : Nat) (hd : y.cls ≠ "java/lang/invoke/MethodHandle" ∧ y.cls ≠ "java/lang/invoke/VarHandle" ∧ (parseMethodDescriptor y.desc).map (fun d => d.parameters.length) = some n) (hrc : rm.cells = mc1) (hrs : rm.slots = ms1) (hR : rm.frames + 1 ≤ R.frames ∧ 8 + (maxL + 11) + rm.locals ≤ R.locals) (hn : As.length = n) 
    (hE : gk_Ok E) (hE1 : E A s s.heap) (hout : ∀ x ∈ c.exceptionTable.toList, False) (isC : List Nat) (hC : isC.map (fun i => w[i]?) = wc.map some) (hnC : va_nd isC = true) (isR : List Nat) (hR2 : isR.map (fun i => w[i]?) = wr.map some) (hnR : va_nd isR = true) (hdis : ∀ i ∈ isR, i ∉ isC) (isW : List Nat) (hW0 : isW.map (fun i => (wr ++ wc)[i]?) = w0.map some) (hnW : va_nd isW = true) (hst : st0 = As.reverse ++ st) (hroom : (st.map fun v => v.category).sum ≤ 8) (d : decode cc pc = .ok (.invokestatic idx, 3)) (hcs : cells + mc1 ≤ R.cells ∧ slots + ms1 ≤ R.slots) (hcm : cells + mc1 ≤ mc) (hsm : slots + ms1 ≤ ms) :
    gk_C p l e R s m args below meth c nL D A (gk_QN below D tys A w0 Ex args s mc ms) cells slots w lv pc st0 := by
  intro H locs ls hP hD hS hl
  have hPc : va_P D vwCl wc H := hP.sub isC (gk_fm isC hC)
  have hDc : va_D A wc := hD.sub isC hnC hC
  have hF := va_free hD hS G.2.2.2.2.2.2.1 isC hC
  refine vx_callv (vx_runS (As := As) (rest := st) ⟨G.1, G.2.1, G.2.2.1, G.2.2.2.1, G.2.2.2.2.1⟩ (hM H.size) (va_cwS n G.2.2.2.2.1 hT hw hrc hrs hd hR) ⟨fun a U g mk q => ?_, fun U hU hW => ⟨rfl, by rw [hU], by rw [hU]; exact hPc, va_K.moved hW.alike G.2.2.2.2.2.1, hDc.weaken (fun _ _ _ _ => trivial), ?_⟩⟩ rfl hn hl.1 hst (lv_room hroom) d hcs) hS (fun q _ h => hF q h) hF (fun q _ h => hF q h) (fun E ce q9 u t H1 locs1 ht hvm hu hB hz1 hk1 hS1 hce hcv hcl9 => ?_) (fun u t H1 locs1 ht hvm hw1 hB hz1 hk1 hS1 => hw1.elim)
  · obtain ⟨q0, q1, qP, qK, qD, qE⟩ := q
    exact ⟨q0, q1, qP, va_K.moved (u := U) (U := U.calling g mk a) (Vm.Alike.refl U.vm) qK, qD, hE _ _ U (U.calling g mk a) _ _ (Vm.Alike.refl U.vm) (Or.inr rfl) (fun _ _ h => h) (Nat.le_refl _) (fun _ _ _ => rfl) qE⟩
  · exact hE A _ s U s.heap U.heap hW.alike (Or.inl hW) (fun q _ h => hF q h) (by rw [hU]; exact hS.1) (fun q h1 h2 => by rw [hU]; exact hS.2.1 q h1 h2) hE1
  · obtain ⟨rfl, hP1, hK1, hD1⟩ := hB
    rw [ht] at hP1
    obtain ⟨hP2, hD2⟩ := va_join hP hD isC isR hC hR2 hnR hdis hk1 hF hP1 hD1
    refine vx_out (fun x hx => (hout x hx).elim) G.2.2.2.2.2.2.2.2 hce hcv hcl9 (fun t' ht' hA' => ?_) hS1.2.2 hcm hsm
    exact ⟨(), trivial, ⟨rfl, by rw [ht']; exact hP2.sub isW (gk_fm isW hW0), va_K.moved hA' G.2.2.2.2.2.1, hD2.sub isW hnW hW0⟩, hS1.F ht'⟩
end GX3
