theorem gl_ws : ∀ w ∈ gn_ws, w ∈ lw_tbl := by decide +kernel
theorem gl_strs : ∀ q ∈ gn_str, Cond.stringRef RX1 q.1 q.2 ∈ lw_tbl := by decide +kernel
theorem gl_strx : ∀ q ∈ gn_str, Cond.exactly (.string RX1 q.1) "java/lang/String" ∈ Jvm.Free.XT.flat (Jvm.Cond.and given_1 narrow_1) := by decide +kernel
theorem gl_U : ∀ w ∈ [Cond.laysStatic Bundle.tN "UNASSIGNED_STACK" Bundle.steD, Cond.laysStatic Bundle.tN "SUPPRESSED_SENTINEL" Bundle.listD, Cond.initialized Bundle.tN], w ∈ lw_tbl := by decide +kernel
theorem gl_R : ∀ w ∈ [Cond.isRef (.static Bundle.tN "UNASSIGNED_STACK" Bundle.steD), Cond.isRef (.static Bundle.tN "SUPPRESSED_SENTINEL" Bundle.listD)], w ∈ Jvm.Free.XT.flat (Jvm.Cond.and given_1 narrow_1) := by decide +kernel
theorem gl_str {args : Array Value} {s : State} {k : Nat} {tx : String} (h1 : (Cond.stringRef RX1 k tx).before args s = true) (h2 : (Cond.exactly (.string RX1 k) "java/lang/String").before args s = true) : ∃ a : Nat, vk_R RX1 k tx a s := by
  have h3 := Cond.exactly_spec h2
  obtain ⟨a, c9, cell9, k9, h4, -⟩ := h3
  exact ⟨a, vk_R.of h1 h4⟩
theorem gl_E {p : Program} {s : State} {m : MethodId} {meth : Method} {c : Code} {b L : Nat} {xs : Nat → Int32} (C0 : lw_At p s m meth c b L xs) : gn_E (fun q : Nat => s.heap.size ≤ q) s s.heap := by
  obtain ⟨hx, hb, hr, hml, hown, hts, hX, hbl, hlocks, hgv⟩ := id C0
  have hq := flat_of_before _ hgv
  have hA : ∀ a : Nat, a < s.heap.size → ¬ s.heap.size ≤ a := fun a h => Nat.not_le.mpr h
  refine ⟨fun w hw => va_Nw.of (gn_tabs w hw) (hts w (gl_ws w hw)), fun q hq9 => gl_str (hts _ (gl_strs q hq9)) (hq _ (gl_strx q hq9)), ?_, ?_⟩
  · exact vx_Zqof (hts _ (gl_U _ (List.mem_of_getElem? (i := 0) rfl))) (hts _ (gl_U _ (List.mem_of_getElem? (i := 2) rfl))) (hq _ (gl_R _ (List.mem_of_getElem? (i := 0) rfl))) hA
  · exact vx_Zqof (hts _ (gl_U _ (List.mem_of_getElem? (i := 1) rfl))) (hts _ (gl_U _ (List.mem_of_getElem? (i := 2) rfl))) (hq _ (gl_R _ (List.mem_of_getElem? (i := 1) rfl))) hA
