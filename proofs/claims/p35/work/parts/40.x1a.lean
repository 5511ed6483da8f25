/-! THE CLASS: its cells, what it knows of the launch, methods that throw. Written by wip/p35/gen_x1.py -/
def gw_G (g h1 h2 : Nat) : va_W := [(g, .inr (1, [.ref h1, .ref h2]))]

def gn_ws : List Cond := [.fieldLinkNest RX1 26 "GustMill$State" "stoneCount" "I" "GustMill", .fieldLinkNest RX1 46 "GustMill$State" "winds" "[I" "GustMill", .fieldLinkNest RX1 54 "GustMill$State" "rule" "I" "GustMill", .fieldLinkNest RX1 57 "GustMill$State" "isTakingOff" "Z" "GustMill", .fieldLinkNest RX1 70 "GustMill$State" "sackCount" "I" "GustMill", .fieldLinkNest RX1 82 "GustMill$State" "stonesUnder" "[I" "GustMill", .fieldLinkNest RX1 90 "GustMill$State" "untils" "[I" "GustMill", .fieldLinkNest RX1 99 "GustMill$State" "hour" "I" "GustMill", .fieldLinkNest RX1 108 "GustMill$State" "sacksUpon" "[I" "GustMill", .fieldLinkNest RX1 111 "GustMill$State" "lefts" "[I" "GustMill", .fieldLinkNest RX1 114 "GustMill$State" "groundHours" "[I" "GustMill", .fieldLinkNest RX1 117 "GustMill$State" "groundCount" "I" "GustMill", .fieldLinkNest RX1 120 "GustMill$State" "changeCount" "I" "GustMill", .fieldLinkNest RX1 134 "GustMill$State" "bakers" "[I" "GustMill"]
def gn_E : (Nat → Prop) → State → Heap → Prop := fun _ U _ => ∀ w ∈ gn_ws, va_Nw w U
theorem gn_warm {u U : State} (hW : u.WarmedH U.vm) (h : ∀ w ∈ gn_ws, va_Nw w u) : ∀ w ∈ gn_ws, va_Nw w U :=
  (List.forall_mem_cons.mpr ⟨va_Nw.warmF hW (h _ (List.mem_of_getElem? (i := 0) rfl)), (List.forall_mem_cons.mpr ⟨va_Nw.warmF hW (h _ (List.mem_of_getElem? (i := 1) rfl)), (List.forall_mem_cons.mpr ⟨va_Nw.warmF hW (h _ (List.mem_of_getElem? (i := 2) rfl)), (List.forall_mem_cons.mpr ⟨va_Nw.warmF hW (h _ (List.mem_of_getElem? (i := 3) rfl)), (List.forall_mem_cons.mpr ⟨va_Nw.warmF hW (h _ (List.mem_of_getElem? (i := 4) rfl)), (List.forall_mem_cons.mpr ⟨va_Nw.warmF hW (h _ (List.mem_of_getElem? (i := 5) rfl)), (List.forall_mem_cons.mpr ⟨va_Nw.warmF hW (h _ (List.mem_of_getElem? (i := 6) rfl)), (List.forall_mem_cons.mpr ⟨va_Nw.warmF hW (h _ (List.mem_of_getElem? (i := 7) rfl)), (List.forall_mem_cons.mpr ⟨va_Nw.warmF hW (h _ (List.mem_of_getElem? (i := 8) rfl)), (List.forall_mem_cons.mpr ⟨va_Nw.warmF hW (h _ (List.mem_of_getElem? (i := 9) rfl)), (List.forall_mem_cons.mpr ⟨va_Nw.warmF hW (h _ (List.mem_of_getElem? (i := 10) rfl)), (List.forall_mem_cons.mpr ⟨va_Nw.warmF hW (h _ (List.mem_of_getElem? (i := 11) rfl)), (List.forall_mem_cons.mpr ⟨va_Nw.warmF hW (h _ (List.mem_of_getElem? (i := 12) rfl)), (List.forall_mem_cons.mpr ⟨va_Nw.warmF hW (h _ (List.mem_of_getElem? (i := 13) rfl)), (fun _ h9 => nomatch h9)⟩)⟩)⟩)⟩)⟩)⟩)⟩)⟩)⟩)⟩)⟩)⟩)⟩)⟩)
theorem gn_tabs : ∀ w ∈ gn_ws, w.onTables = true := by decide +kernel
theorem gn_ok : gk_Ok gn_E := by
  intro A B u U H H1 hvm hor hB hz hk h
  rcases hor with hW | e
  · exact gn_warm hW h
  · exact fun w hw => va_Nw.same (gn_tabs w hw) e.symm (h w hw)
section GN
variable {A : Nat → Prop} {s : State} {args : Array Value}
theorem gn_26 (h : gn_E A s s.heap) : (Cond.fieldLinkNest RX1 26 "GustMill$State" "stoneCount" "I" "GustMill").before args s = true := va_Nw.use rfl (h _ (List.mem_of_getElem? (i := 0) rfl))
theorem gn_46 (h : gn_E A s s.heap) : (Cond.fieldLinkNest RX1 46 "GustMill$State" "winds" "[I" "GustMill").before args s = true := va_Nw.use rfl (h _ (List.mem_of_getElem? (i := 1) rfl))
theorem gn_54 (h : gn_E A s s.heap) : (Cond.fieldLinkNest RX1 54 "GustMill$State" "rule" "I" "GustMill").before args s = true := va_Nw.use rfl (h _ (List.mem_of_getElem? (i := 2) rfl))
theorem gn_57 (h : gn_E A s s.heap) : (Cond.fieldLinkNest RX1 57 "GustMill$State" "isTakingOff" "Z" "GustMill").before args s = true := va_Nw.use rfl (h _ (List.mem_of_getElem? (i := 3) rfl))
theorem gn_70 (h : gn_E A s s.heap) : (Cond.fieldLinkNest RX1 70 "GustMill$State" "sackCount" "I" "GustMill").before args s = true := va_Nw.use rfl (h _ (List.mem_of_getElem? (i := 4) rfl))
theorem gn_82 (h : gn_E A s s.heap) : (Cond.fieldLinkNest RX1 82 "GustMill$State" "stonesUnder" "[I" "GustMill").before args s = true := va_Nw.use rfl (h _ (List.mem_of_getElem? (i := 5) rfl))
theorem gn_90 (h : gn_E A s s.heap) : (Cond.fieldLinkNest RX1 90 "GustMill$State" "untils" "[I" "GustMill").before args s = true := va_Nw.use rfl (h _ (List.mem_of_getElem? (i := 6) rfl))
theorem gn_99 (h : gn_E A s s.heap) : (Cond.fieldLinkNest RX1 99 "GustMill$State" "hour" "I" "GustMill").before args s = true := va_Nw.use rfl (h _ (List.mem_of_getElem? (i := 7) rfl))
theorem gn_108 (h : gn_E A s s.heap) : (Cond.fieldLinkNest RX1 108 "GustMill$State" "sacksUpon" "[I" "GustMill").before args s = true := va_Nw.use rfl (h _ (List.mem_of_getElem? (i := 8) rfl))
theorem gn_111 (h : gn_E A s s.heap) : (Cond.fieldLinkNest RX1 111 "GustMill$State" "lefts" "[I" "GustMill").before args s = true := va_Nw.use rfl (h _ (List.mem_of_getElem? (i := 9) rfl))
theorem gn_114 (h : gn_E A s s.heap) : (Cond.fieldLinkNest RX1 114 "GustMill$State" "groundHours" "[I" "GustMill").before args s = true := va_Nw.use rfl (h _ (List.mem_of_getElem? (i := 10) rfl))
theorem gn_117 (h : gn_E A s s.heap) : (Cond.fieldLinkNest RX1 117 "GustMill$State" "groundCount" "I" "GustMill").before args s = true := va_Nw.use rfl (h _ (List.mem_of_getElem? (i := 11) rfl))
theorem gn_120 (h : gn_E A s s.heap) : (Cond.fieldLinkNest RX1 120 "GustMill$State" "changeCount" "I" "GustMill").before args s = true := va_Nw.use rfl (h _ (List.mem_of_getElem? (i := 12) rfl))
theorem gn_134 (h : gn_E A s s.heap) : (Cond.fieldLinkNest RX1 134 "GustMill$State" "bakers" "[I" "GustMill").before args s = true := va_Nw.use rfl (h _ (List.mem_of_getElem? (i := 13) rfl))
end GN
