theorem lg_s (a : Int64) : lg_cmp a a = 0 := by unfold lg_cmp; simp
theorem cr_x {D : va_G} {h : hp_T} {own : oT} {x : Nat} {V : vT} (k : cr D h own x V) : ∃ gl ul pl mo aq tr : Nat, h x = some (.inr (0, [.ref gl, .ref ul, .ref pl, .ref mo, .ref aq, .ref tr, .int (V 23 0)])) := by
  obtain ⟨gl, ul, pl, mo, aq, tr, _, _, _, _, _, _, _, hO, -⟩ := k
  exact ⟨gl, ul, pl, mo, aq, tr, hO.1⟩
