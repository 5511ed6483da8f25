def gl_nc : List (String × String) := [("java/lang/IllegalStateException", "java/lang/IllegalArgumentException"), ("java/lang/IndexOutOfBoundsException", "java/lang/IllegalArgumentException"), ("java/lang/IllegalArgumentException", "java/lang/IllegalStateException"), ("java/lang/IndexOutOfBoundsException", "java/lang/IllegalStateException"), ("java/lang/IllegalArgumentException", "java/lang/IndexOutOfBoundsException"), ("java/lang/IllegalStateException", "java/lang/IndexOutOfBoundsException")]
def gl_F : (Nat → Prop) → State → Heap → Prop := fun A U H => gn_E A U H ∧ ∀ q ∈ gl_nc, va_Nc q.1 q.2 U
theorem gl_Fok : gk_Ok gl_F := fun A B u U H H1 hvm hor hB hz hk h => ⟨gn_ok A B u U H H1 hvm hor hB hz hk h.1, fun q hq => va_Nc.moved hvm (h.2 q hq)⟩
theorem gl_ncx : ∀ q ∈ gl_nc, Cond.not (.castable q.1 q.2) ∈ Jvm.Free.XT.flat (Jvm.Cond.and given_1 narrow_1) := by decide +kernel
theorem gl_FE {p : Program} {s : State} {m : MethodId} {meth : Method} {c : Code} {b L : Nat} {xs : Nat → Int32} (C0 : lw_At p s m meth c b L xs) : gl_F (fun q : Nat => s.heap.size ≤ q) s s.heap := by
  obtain ⟨hx, hb, hr, hml, hown, hts, hX, hbl, hlocks, hgv⟩ := id C0
  exact ⟨gl_E C0, fun q hq9 => va_Nc.of (flat_of_before _ hgv _ (gl_ncx q hq9))⟩
