/-! THE LAW: written by wip/whole/gen_law.py -/
theorem gm_wf_set0 {M : gm_M} {v x : Nat} (wf : gm_wf M) (hx : x ≤ 20) : gm_wf (gm_set M 0 v x) :=
  ⟨wf.1, wf.2.1, wf.2.2.1, wf.2.2.2.1, fun i hi => by
    by_cases q : i = v
    · subst q; rw [gm_set_at]; exact hx
    · rw [gm_set_i _ _ q]; exact wf.2.2.2.2.1 i hi, wf.2.2.2.2.2.1, wf.2.2.2.2.2.2.1, wf.2.2.2.2.2.2.2⟩
theorem gm_rest_set0 {M : gm_M} {v x : Nat} (h : gm_rest M) : gm_rest (gm_set M 0 v x) := h
theorem gm_wf_set14 {M : gm_M} {x : Nat} (wf : gm_wf M) (hx : x ≤ 2) : gm_wf (gm_set M 14 0 x) :=
  ⟨wf.1, wf.2.1, hx, wf.2.2.2.1, wf.2.2.2.2.1, wf.2.2.2.2.2.1, wf.2.2.2.2.2.2.1, wf.2.2.2.2.2.2.2⟩
theorem gm_rest_set14 {M : gm_M} {x : Nat} (h : gm_rest M) : gm_rest (gm_set M 14 0 x) := h
theorem gm_wf_set15 {M : gm_M} {x : Nat} (wf : gm_wf M) (hx : x ≤ 1) : gm_wf (gm_set M 15 0 x) :=
  ⟨wf.1, wf.2.1, wf.2.2.1, hx, wf.2.2.2.2.1, wf.2.2.2.2.2.1, wf.2.2.2.2.2.2.1, wf.2.2.2.2.2.2.2⟩
theorem gm_rest_set15 {M : gm_M} {x : Nat} (h : gm_rest M) : gm_rest (gm_set M 15 0 x) := h
theorem gm_wf_set6 {M : gm_M} {v x : Nat} (wf : gm_wf M) (h1 : 1 ≤ x) (h2 : x ≤ 200) : gm_wf (gm_set M 6 v x) :=
  ⟨wf.1, wf.2.1, wf.2.2.1, wf.2.2.2.1, wf.2.2.2.2.1, wf.2.2.2.2.2.1, fun i hi => by
    obtain ⟨a4, a5, a6, a6b, a7, a8, a9⟩ := wf.2.2.2.2.2.2.1 i hi
    by_cases q : i = v
    · subst q
      exact ⟨a4, a5, by rw [gm_set_at]; exact h1, by rw [gm_set_at]; exact h2, a7, a8, a9⟩
    · exact ⟨a4, a5, by rw [gm_set_i _ _ q]; exact a6, by rw [gm_set_i _ _ q]; exact a6b, a7, a8, a9⟩, wf.2.2.2.2.2.2.2⟩
theorem gm_rest_set6 {M : gm_M} {v x : Nat} (h : gm_rest M) : gm_rest (gm_set M 6 v x) := h
theorem gm_wf_set7 {M : gm_M} {v : Nat} (wf : gm_wf M) : gm_wf (gm_set M 7 v 0) :=
  gm_wf_off wf (fun k i h => gm_set_k M i h) (fun i => by
    by_cases q : i = v
    · subst q; exact Or.inl (gm_set_at _ _ _ _)
    · exact Or.inr (gm_set_i _ _ q))
theorem gm_rest_set7 {M : gm_M} {v : Nat} (h : gm_rest M) : gm_rest (gm_set M 7 v 0) := gm_rest_off h (fun k i h => gm_set_k M i h)
theorem gm_new_wf : gm_wf gm_new := by
  refine ⟨by decide, by decide, by decide, by decide, fun i _ => by show 5 ≤ 20; decide, fun i hi => absurd hi (Nat.not_lt_zero i), fun i hi => absurd hi (Nat.not_lt_zero i), fun i j hi => absurd hi (Nat.not_lt_zero i)⟩
theorem gm_new_rest : gm_rest gm_new := fun i hi => absurd hi (Nat.not_lt_zero i)
