/-! ROWS FOR THE LAW; written by wip/p35/gen_a.py -/
theorem gw_X_len (cI cZ : ClassId) (g h1 h2 : Nat) (q1 q2 : Nat → Nat) (u : gw_U) : (gw_X cI cZ g h1 h2 q1 q2 u).length = 21 := rfl
section GA1
variable {cI cZ : ClassId} {g h1 h2 : Nat} {q1 q2 : Nat → Nat} {u : gw_U} {W W' : va_W} {k : Nat} {e : Nat × va_E}
theorem gp_sX (h : W[k]? = some e) : (gw_X cI cZ g h1 h2 q1 q2 u ++ W)[k + 21]? = some e := by
  rw [List.getElem?_append_right (by rw [gw_X_len]; exact Nat.le_add_left _ _), gw_X_len, Nat.add_sub_cancel]; exact h
theorem gp_tX (h : W.set k e = W') : (gw_X cI cZ g h1 h2 q1 q2 u ++ W).set (k + 21) e = gw_X cI cZ g h1 h2 q1 q2 u ++ W' := by
  rw [List.set_append_right _ _ (by rw [gw_X_len]; exact Nat.le_add_left _ _), gw_X_len, Nat.add_sub_cancel, h]
end GA1
def gp_snT (T : Nat → Nat → Int32) (n : Nat) (f : Nat → Int32) : Nat → Nat → Int32 := fun i => if i < n then T i else f
theorem gp_snT_lt {T : Nat → Nat → Int32} {n i : Nat} {f : Nat → Int32} (h : i < n) : gp_snT T n f i = T i := if_pos h
theorem gp_snT_at (T : Nat → Nat → Int32) (n : Nat) (f : Nat → Int32) : gp_snT T n f n = f := if_neg (Nat.lt_irrefl n)
theorem gp_r_snoc (cI : ClassId) (z : Nat) (S : Nat → Nat) (T : Nat → Nat → Int32) (n x : Nat) (f : Nat → Int32) : gp_r cI z (gp_snoc S n x) (gp_snT T n f) (n + 1) = gp_r cI z S T n ++ gw_R cI x z f := by
  rw [gp_r_succ, gp_snoc_at, gp_snT_at]
  rw [gp_r_congr (S := gp_snoc S n x) (S' := S) (T := gp_snT T n f) (T' := T) (fun i hi => ⟨gp_snoc_lt hi, gp_snT_lt hi⟩)]
  rfl
def gp_q1 (q : Nat → Nat) (j r : Nat) : Nat → Nat := fun i => if i = j then r else q i
section GA2
variable {p : Program} {l : Launch} {e : Env} {R : Room} {s : State} {m : MethodId} {args : Array Value} {below : List Frame} {meth : Method} {c : Code}
variable {own : String} {nL : Nat} {cc : ByteArray} {Ts : List Cond} {D : va_G} {tys tys0 : List (ClassId × FieldType)} {A : Nat → Prop} {cells slots pc mc ms : Nat} {Q : State → Prop} {w : va_W} {lv : List (Nat × Value)} {st : List Value} {a : Nat} {ret : Option FieldType} {S : Type}
theorem gp_below {cI cZ cJ : ClassId} (G : gk_G p s m args meth c own nL cc ret Ts D (g_T cI cZ cJ) A) {idx n : Nat} {v : Int32} (hT : GoodIn Ts (va_wsS own idx yL_below wsL_below)) (hR : 0 + 1 ≤ R.frames ∧ 8 + (2 + 11) + 0 ≤ R.locals) (hcs : cells ≤ R.cells ∧ slots ≤ R.slots) (hn0 : 0 < n) (hn : n < 2 ^ 31) (hroom : (st.map fun v => v.category).sum ≤ 8) (d : decode cc pc = .ok (.invokestatic idx, 3)) (K : gk_C p l e R s m args below meth c nL D A Q cells slots w lv (pc + 3) (.int (nI (gp_bel v n)) :: st)) : gk_C p l e R s m args below meth c nL D A Q cells slots w lv pc (.int (nI n) :: .int v :: st) := by
  refine gp_callIS (wr := w) (wc := []) G (c3_below l D cI cZ cJ v n hn0 hn) hT rfl 2 (by decide +kernel) rfl rfl hR rfl gk_ok0 trivial (gk_pnil _) rfl hroom d hcs (fun r u hp => ?_)
  rw [show r = nI (gp_bel v n) from hp]
  exact gk_weq (List.append_nil _) K
theorem gp_cell {cI cZ cJ : ClassId} (G : gk_G p s m args meth c own nL cc ret Ts D (g_T cI cZ cJ) A) {idx b L k : Nat} {xs : Nat → Int32} (hT : GoodIn Ts (va_wsS own idx yL_cell wsL_cell)) (hE : gp_X b L xs A s s.heap) (hL : L ≤ 260) (hk : k < 1000) (hR : 0 + 1 ≤ R.frames ∧ 8 + (2 + 11) + 0 ≤ R.locals) (hcs : cells ≤ R.cells ∧ slots ≤ R.slots) (hroom : (st.map fun v => v.category).sum ≤ 8) (d : decode cc pc = .ok (.invokestatic idx, 3)) (K : gk_C p l e R s m args below meth c nL D A Q cells slots w lv (pc + 3) (.int (gp_cel L xs k) :: st)) : gk_C p l e R s m args below meth c nL D A Q cells slots w lv pc (.int (nI k) :: .ref b :: st) := by
  refine gp_callIS (wr := w) (wc := []) G (c3_cell l D cI cZ cJ b L xs k hL hk) hT rfl 2 (by decide +kernel) rfl rfl hR rfl (gp_x_ok b L xs) hE (gk_pnil _) rfl hroom d hcs (fun r u hp => ?_)
  rw [show r = gp_cel L xs k from hp]
  exact gk_weq (List.append_nil _) K
end GA2
def gp_O (a : Nat) (q : Nat → Nat) (F : Nat → Int32) : va_W := [(a, .inr (2, gp_V q F))]
def gp_Wd (cI : ClassId) (w : Nat) (W0 : Nat → Int32) : va_W := [(w, .inl (cI, 12, .inl W0))]
/-- the cells that 'with' wants, cut out; and the new mill out of what comes back -/
theorem gk_pS (A X O W D E S K : va_W) : (A ++ (X ++ (O ++ (W ++ (D ++ (E ++ (S ++ K))))))).Perm ((X ++ (O ++ (W ++ (E ++ K)))) ++ (D ++ (A ++ S))) := gk_pc (fun _ x => by simp only [List.count_append]; omega)
theorem gk_pS2 (A X O W D E S K N : va_W) : ((X ++ (O ++ (W ++ (E ++ K)))) ++ (N ++ (D ++ (A ++ S)))).Perm ((X ++ (O ++ (W ++ (N ++ (E ++ ((S ++ A) ++ K)))))) ++ D) := gk_pc (fun _ x => by simp only [List.count_append]; omega)
theorem gk_pK (A X O W D E S K : va_W) : (A ++ (X ++ (O ++ (W ++ (D ++ (E ++ (S ++ K))))))).Perm ((X ++ (O ++ (W ++ (D ++ S)))) ++ (E ++ (A ++ K))) := gk_pc (fun _ x => by simp only [List.count_append]; omega)
theorem gk_pK2 (A X O W D E S K N : va_W) : ((X ++ (O ++ (W ++ (D ++ S)))) ++ (N ++ (E ++ (A ++ K)))).Perm ((X ++ (O ++ (W ++ (D ++ (N ++ (S ++ (K ++ A))))))) ++ E) := gk_pc (fun _ x => by simp only [List.count_append]; omega)
/-- what one step does to both mills -/
def gp_post (M : gm_M) (v : gp_Q) (u : gw_U) (M' : gm_M) : Prop := gm_wf M' ∧ gm_rest M' ∧ gc_rep u.1.1 u.1.2 M' ∧ gp_ok v M' ∧ M' 9 0 ≤ M 9 0 + 60 ∧ M' 13 0 ≤ M 13 0 + 240
