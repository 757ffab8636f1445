/-! the contents stay good -/
theorem cn_e {V V2 : vT} (h : V2 1 = V 1) (n g : Nat) : cn_ V2 n g = cn_ V n g := by
  induction n generalizing g with
  | zero => rfl
  | succ n ih =>
    show (if g = 0 then 0 else cn_ V2 n (nu (V2 1 g))) = if g = 0 then 0 else cn_ V n (nu (V 1 g))
    rw [h, ih]
theorem cn_c {V V2 : vT} (h : V2 1 = V 1) (w : ∀ g, ∃ n, cn_ V n g = 0) : ∀ g, ∃ n, cn_ V2 n g = 0 := fun g => by
  obtain ⟨n, hn⟩ := w g
  exact ⟨n, by rw [cn_e h]; exact hn⟩
theorem cn_add {V V2 : vT} {m : Nat} {g : Int32} (hV : ∀ k, nu (V 1 k) < m) (hg : nu g < m) (h1 : V2 1 = upd (V 1) m g) (w : ∀ g, ∃ n, cn_ V n g = 0) : ∀ g, ∃ n, cn_ V2 n g = 0 := by
  have lo : ∀ n k, k < m → cn_ V2 n k = cn_ V n k := by
    intro n
    induction n with
    | zero => intro k _; rfl
    | succ n ih =>
      intro k hk
      show (if k = 0 then 0 else cn_ V2 n (nu (V2 1 k))) = if k = 0 then 0 else cn_ V n (nu (V 1 k))
      rw [h1, upd_n (by omega), ih _ (hV k)]
  have lo2 : ∀ k, k < m → ∃ n, cn_ V2 n k = 0 := fun k hk => by
    obtain ⟨n, hn⟩ := w k
    exact ⟨n, by rw [lo n k hk]; exact hn⟩
  intro k
  by_cases z : k < m
  · exact lo2 k z
  · by_cases z0 : k = 0
    · exact ⟨0, z0⟩
    · by_cases z1 : k = m
      · obtain ⟨n, hn⟩ := lo2 (nu g) hg
        exact ⟨n + 1, by rw [cn_s z0, h1, z1, upd_s]; exact hn⟩
      · obtain ⟨n, hn⟩ := lo2 (nu (V 1 k)) (hV k)
        exact ⟨n + 1, by rw [cn_s z0, h1, upd_n z1]; exact hn⟩
theorem cn_mv {V V2 : vT} {x : Nat} {g : Int32} (hx : ¬ x = 0) (hm : ¬ mv_ V x (nu g)) (h1 : V2 1 = upd (V 1) x g) (w : ∀ g, ∃ n, cn_ V n g = 0) : ∀ g, ∃ n, cn_ V2 n g = 0 := by
  have lo : ∀ n k, (∀ i, cn_ V i k ≠ x) → cn_ V2 n k = cn_ V n k := by
    intro n
    induction n with
    | zero => intro k _; rfl
    | succ n ih =>
      intro k hk
      by_cases z : k = 0
      · rw [z, cn_0, cn_0]
      · rw [cn_s z, cn_s z, h1, upd_n (show k ≠ x from hk 0)]
        exact ih _ (fun i => by have := hk (i + 1); rw [cn_s z] at this; exact this)
  have hg : ∃ n, cn_ V2 n (nu g) = 0 := by
    obtain ⟨n, hn⟩ := w (nu g)
    exact ⟨n, by rw [lo n _ (fun i z => hm ⟨i, z⟩)]; exact hn⟩
  have go : ∀ n k, cn_ V n k = 0 → ∃ n, cn_ V2 n k = 0 := by
    intro n
    induction n with
    | zero => intro k hk; exact ⟨0, hk⟩
    | succ n ih =>
      intro k hk
      by_cases z : k = 0
      · exact ⟨0, z⟩
      · by_cases z2 : k = x
        · obtain ⟨m, hm2⟩ := hg
          exact ⟨m + 1, by rw [cn_s z, h1, z2, upd_s]; exact hm2⟩
        · rw [cn_s z] at hk
          obtain ⟨m, hm2⟩ := ih _ hk
          exact ⟨m + 1, by rw [cn_s z, h1, upd_n z2]; exact hm2⟩
  intro k
  obtain ⟨n, hn⟩ := w k
  exact go n k hn
theorem wf_s {V V2 : vT} (hW : wf V) (e1 : V2 1 = V 1) (e2 : V2 2 = V 2) (e3 : V2 3 = V 3) (e4 : V2 4 = V 4) (e5 : V2 5 = V 5) (e6 : V2 6 = V 6) (e7 : V2 7 = V 7) (e8 : V2 8 = V 8) (e9 : V2 9 = V 9) (e10 : V2 10 = V 10) (e13 : V2 13 = V 13) (e14 : V2 14 = V 14) (e15 : V2 15 = V 15) (e16 : V2 16 = V 16) (h22 : ok_ (V2 22 0) 20) : wf V2 := by
  obtain ⟨h7, h8, h9, -, w1, w2, w21, w5, w6, w10, w13, w16, w4, wz, wy, wc⟩ := hW
  unfold wf
  rw [e1, e2, e3, e4, e5, e6, e7, e8, e9, e10, e13, e14, e15, e16]
  exact ⟨h7, h8, h9, h22, w1, w2, w21, w5, w6, w10, w13, w16, w4, wz, wy, cn_c e1 wc⟩
theorem wf_0 {V : vT} (hW : wf V) (z : Int32) : wf (vc V 0 z) := wf_s hW rfl rfl rfl rfl rfl rfl rfl rfl rfl rfl rfl rfl rfl rfl hW.2.2.2.1
theorem wf_i : wf (fun _ _ => 0) := by
  have o : ∀ n, ok_ 0 n := fun n => ⟨by decide, Nat.zero_le n⟩
  have z : nu 0 = 0 := by decide
  refine ⟨o _, o _, o _, o _, fun _ => o _, fun _ => o _, fun k h1 h2 => ?_, fun _ => Or.inl rfl, fun _ => Or.inl rfl, fun _ => Or.inl rfl, fun _ => o _, fun _ => o _, fun k h1 h2 => ?_, fun _ _ => ⟨rfl, rfl, fun _ _ => rfl⟩, fun _ _ => ⟨rfl, rfl, rfl, rfl⟩, fun g => ⟨1, ?_⟩⟩
  · replace h2 : k ≤ nu 0 := h2
    omega
  · replace h2 : k ≤ nu 0 := h2
    omega
  · show (if g = 0 then 0 else nu 0) = 0
    rw [z]; exact ite_self 0
theorem wf_group {V : vT} {g : Int32} (hW : wf V) : wf (sp_group V g).2.2 := by
  unfold sp_group
  split
  · exact wf_0 hW 1
  · split
    · exact wf_0 hW 2
    · rename_i c1 c2
      obtain ⟨h7, h8, h9, h22, w1, w2, w21, w5, w6, w10, w13, w16, w4, wz, wy, wc⟩ := hW
      have hg : g = 0 ∨ ¬ g < 1 ∧ g ≤ V 7 0 := by grind
      have kg := ok_0n h7 hg
      have kp := ok_p h7 c2 (by decide)
      have e1 : ∀ k, ok_ (upd (V 1) (nu (V 7 0 + 1)) g k) (nu (V 7 0)) := fun k => by
        by_cases z : k = nu (V 7 0 + 1)
        · rw [z, upd_s]; exact kg
        · rw [upd_n z]; exact w1 k
      refine ⟨kp.1, h8, h9, h22, fun k => ok_m (e1 k) (by show _ ≤ nu (V 7 0 + 1); rw [kp.2]; omega), fun k => ok_m (w2 k) (by show _ ≤ nu (V 7 0 + 1); rw [kp.2]; omega), w21, w5, w6, w10, w13, w16, w4, wz, wy, ?_⟩
      refine cn_add (m := nu (V 7 0 + 1)) (g := g) (V := V) (fun k => ?_) ?_ rfl wc
      · rw [kp.2]; have := (w1 k).2; omega
      · rw [kp.2]; have := kg.2; omega
theorem wf_move {V : vT} {x g : Int32} (hW : wf V) : wf (sp_move V x g).2.2 := by
  unfold sp_move
  split
  · exact wf_0 hW 1
  · rename_i c1
    split
    · exact wf_0 hW 0
    · rename_i c2
      obtain ⟨h7, h8, h9, h22, w1, w2, w21, w5, w6, w10, w13, w16, w4, wz, wy, wc⟩ := hW
      have c3 := Classical.not_not.mp c1
      have kg := ok_0n h7 c3.2
      have kx := ok_1 (ok_r c3.1.1 c3.1.2 h7 (by decide)) c3.1.1 (by decide)
      refine ⟨h7, h8, h9, h22, fun k => ?_, w2, w21, w5, w6, w10, w13, w16, w4, wz, wy, ?_⟩
      · show ok_ (upd (V 1) (nu x) g k) (nu (V 7 0))
        by_cases z : k = nu x
        · rw [z, upd_s]; exact kg
        · rw [upd_n z]; exact w1 k
      · exact cn_mv (V := V) (x := nu x) (g := g) (by omega) c2 rfl wc
theorem wf_user {V : vT} {g : Int32} (hW : wf V) : wf (sp_user V g).2.2 := by
  unfold sp_user
  split
  · exact wf_0 hW 1
  · split
    · exact wf_0 hW 2
    · rename_i c1 c2
      obtain ⟨h7, h8, h9, h22, w1, w2, w21, w5, w6, w10, w13, w16, w4, wz, wy, wc⟩ := hW
      have c3 := Classical.not_not.mp c1
      have kg := ok_0n h7 (Or.inr c3)
      have kg1 := ok_1 kg c3.1 (by have := h7.2; omega)
      have kp := ok_p h8 c2 (by decide)
      have h8' := h8.2
      refine ⟨h7, kp.1, h9, h22, w1, fun k => ?_, fun k k1 k2 => ?_, w5, w6, w10, w13, w16, fun k k1 k2 k5 => ?_, fun k hk => ?_, wy, cn_c (V := V) rfl wc⟩
      · show ok_ (upd (V 2) (nu (V 8 0 + 1)) g k) (nu (V 7 0))
        by_cases z : k = nu (V 8 0 + 1)
        · rw [z, upd_s]; exact kg
        · rw [upd_n z]; exact w2 k
      · show 1 ≤ nu (upd (V 2) (nu (V 8 0 + 1)) g k)
        replace k2 : k ≤ nu (V 8 0 + 1) := k2
        by_cases z : k = nu (V 8 0 + 1)
        · rw [z, upd_s]; exact kg1
        · rw [upd_n z]; exact w21 k k1 (by omega)
      · replace k2 : k ≤ nu (V 8 0 + 1) := k2
        show upd (V 4) (nu (V 8 0 + 1)) 3 k = 1 ∨ upd (V 4) (nu (V 8 0 + 1)) 3 k = 2 ∨ upd (V 4) (nu (V 8 0 + 1)) 3 k = 3
        by_cases z : k = nu (V 8 0 + 1)
        · rw [z, upd_s]; exact Or.inr (Or.inr rfl)
        · rw [upd_n z]; exact w4 k k1 (by omega) k5
      · replace hk : nu (V 8 0 + 1) < k := hk
        exact wz k (by omega)
theorem ku_ {V : vT} {u : Int32} (h8 : ok_ (V 8 0) 40) (hu : ¬ u < 1 ∧ u ≤ V 8 0) : 1 ≤ nu u ∧ nu u ≤ nu (V 8 0) := by
  have z := ok_u (n := nu (V 8 0)) (by rw [← h8.1]; exact hu) (by have := h8.2; omega)
  exact ⟨z.1, z.2.1⟩
theorem kp_ {V : vT} {u : Int32} (h9 : ok_ (V 9 0) 60) (hu : ¬ u < 1 ∧ u ≤ V 9 0) : 1 ≤ nu u ∧ nu u ≤ nu (V 9 0) := by
  have z := ok_u (n := nu (V 9 0)) (by rw [← h9.1]; exact hu) (by have := h9.2; omega)
  exact ⟨z.1, z.2.1⟩
theorem wf_terminal {V : vT} {u t : Int32} (hW : wf V) : wf (sp_terminal V u t).2.2 := by
  unfold sp_terminal
  split
  · exact wf_0 hW 1
  · rename_i c1
    obtain ⟨h7, h8, h9, h22, w1, w2, w21, w5, w6, w10, w13, w16, w4, wz, wy, wc⟩ := hW
    have ku := ku_ h8 (Classical.not_not.mp c1).1
    refine ⟨h7, h8, h9, h22, w1, w2, w21, w5, w6, w10, w13, w16, w4, fun k hk => ?_, wy, cn_c (V := V) rfl wc⟩
    replace hk : nu (V 8 0) < k := hk
    obtain ⟨z1, z2, z3⟩ := wz k hk
    exact ⟨(upd_n (by omega)).trans z1, z2, z3⟩
theorem wf_45 {V : vT} {u n4 n5 : Int32} (hW : wf V) (hu : ¬ u < 1 ∧ u ≤ V 8 0) (h5 : n5 = 0 ∨ n5 = 1) (h4 : n5 = 0 → n4 = 1 ∨ n4 = 2 ∨ n4 = 3) {V2 : vT} (e : ∀ j, j ≠ 0 → j ≠ 4 → j ≠ 5 → V2 j = V j) (e4 : V2 4 = upd (V 4) (nu u) n4) (e5 : V2 5 = upd (V 5) (nu u) n5) : wf V2 := by
  obtain ⟨h7, h8, h9, h22, w1, w2, w21, w5, w6, w10, w13, w16, w4, wz, wy, wc⟩ := hW
  have ku := ku_ h8 hu
  unfold wf
  rw [e4, e5, e 1 (by decide) (by decide) (by decide), e 2 (by decide) (by decide) (by decide), e 3 (by decide) (by decide) (by decide), e 6 (by decide) (by decide) (by decide), e 7 (by decide) (by decide) (by decide), e 8 (by decide) (by decide) (by decide), e 9 (by decide) (by decide) (by decide), e 10 (by decide) (by decide) (by decide), e 13 (by decide) (by decide) (by decide), e 14 (by decide) (by decide) (by decide), e 15 (by decide) (by decide) (by decide), e 16 (by decide) (by decide) (by decide), e 22 (by decide) (by decide) (by decide)]
  refine ⟨h7, h8, h9, h22, w1, w2, w21, fun k => ?_, w6, w10, w13, w16, fun k k1 k2 k5 => ?_, fun k hk => ?_, wy, cn_c (e 1 (by decide) (by decide) (by decide)) wc⟩
  · by_cases z : k = nu u
    · rw [z, upd_s]; exact h5
    · rw [upd_n z]; exact w5 k
  · by_cases z : k = nu u
    · rw [z, upd_s] at k5 ⊢; exact h4 k5
    · rw [upd_n z] at k5 ⊢; exact w4 k k1 k2 k5
  · obtain ⟨z1, z2, z3⟩ := wz k hk
    exact ⟨z1, (upd_n (by omega)).trans z2, z3⟩
theorem wf_revoke {V : vT} {u b : Int32} (hW : wf V) (hb : b = 0 ∨ b = 1) : wf (sp_revoke V u b).2.2 := by
  unfold sp_revoke
  split
  · exact wf_0 hW 1
  · rename_i c1
    split
    · exact wf_0 hW 0
    · exact wf_45 hW (Classical.not_not.mp c1) hb (fun z => by rw [if_pos z]; exact Or.inr (Or.inr rfl)) (fun j h1 h2 h3 => (vs_n h2).trans ((vs_n h3).trans (vs_n h1))) rfl rfl
theorem wf_pass {V : vT} {u b : Int32} (hW : wf V) : wf (sp_pass V u b).2.2 := by
  unfold sp_pass
  split
  · exact wf_0 hW 1
  · rename_i c1
    split
    · exact wf_0 hW 0
    · rename_i c2
      have c3 := Classical.not_not.mp c1
      have ku := ku_ hW.2.1 c3
      have h4 := hW.2.2.2.2.2.2.2.2.2.2.2.2.1 (nu u) ku.1 ku.2 (Classical.not_not.mp c2)
      refine wf_45 hW c3 (n4 := if b = 0 then V 4 (nu u) - 1 else 3) (n5 := if (if b = 0 then V 4 (nu u) - 1 else 3) = 0 then 1 else 0) ?_ ?_ (fun j h1 h2 h3 => (vs_n h3).trans ((vs_n h2).trans (vs_n h1))) rfl rfl
      · exact (Classical.em ((if b = 0 then V 4 (nu u) - 1 else 3) = 0)).elim (fun z => Or.inr (if_pos z)) (fun z => Or.inl (if_neg z))
      · intro z
        by_cases hb : b = 0
        · rw [if_pos hb] at z ⊢
          rcases h4 with y | y | y <;> rw [y] at z ⊢ <;> revert z <;> decide
        · rw [if_neg hb]; exact Or.inr (Or.inr rfl)
theorem wf_acts {V : vT} {u v : Int32} (hW : wf V) : wf (sp_acts V u v).2.2 := by
  unfold sp_acts
  split
  · exact wf_0 hW 1
  · exact wf_0 hW 0
theorem wf_surrogate {V : vT} {u v b : Int32} (hW : wf V) (hb : b = 0 ∨ b = 1) : wf (sp_surrogate V u v b).2.2 := by
  unfold sp_surrogate
  split
  · exact wf_0 hW 1
  · rename_i c1
    split
    · exact wf_0 hW 0
    · obtain ⟨h7, h8, h9, h22, w1, w2, w21, w5, w6, w10, w13, w16, w4, wz, wy, wc⟩ := hW
      have ku := ku_ h8 (Classical.not_not.mp c1).1
      have kv := ku_ h8 (Classical.not_not.mp c1).2
      have h40 := h8.2
      refine ⟨h7, h8, h9, h22, w1, w2, w21, w5, fun k => ?_, w10, w13, w16, w4, fun k hk => ?_, wy, cn_c (V := V) rfl wc⟩
      · show upd (V 6) (41 * nu u + nu v) b k = 0 ∨ upd (V 6) (41 * nu u + nu v) b k = 1
        by_cases z : k = 41 * nu u + nu v
        · rw [z, upd_s]; exact hb
        · rw [upd_n z]; exact w6 k
      · replace hk : nu (V 8 0) < k := hk
        obtain ⟨z1, z2, z3⟩ := wz k hk
        exact ⟨z1, z2, fun j hj => (upd_n (by omega)).trans (z3 j hj)⟩
theorem wf_mode {V : vT} {c m : Int32} (hW : wf V) : wf (sp_mode V c m).2.2 := by
  unfold sp_mode
  split
  · exact wf_0 hW 1
  · rename_i c1
    obtain ⟨h7, h8, h9, h22, w1, w2, w21, w5, w6, w10, w13, w16, w4, wz, wy, wc⟩ := hW
    have km := ok_le (n := 2) (Classical.not_not.mp c1).2.1 (Classical.not_not.mp c1).2.2 rfl (by decide)
    refine ⟨h7, h8, h9, h22, w1, w2, w21, w5, w6, fun k => ?_, w13, w16, w4, wz, wy, cn_c (V := V) rfl wc⟩
    show upd (V 10) (nu c) m k = 0 ∨ upd (V 10) (nu c) m k = 1 ∨ upd (V 10) (nu c) m k = 2
    by_cases z : k = nu c
    · rw [z, upd_s]
      have h2 := km.2
      have h3 := km.1
      rcases Nat.lt_or_ge (nu m) 1 with y | y
      · rw [show nu m = 0 by omega] at h3; exact Or.inl h3
      · rcases Nat.lt_or_ge (nu m) 2 with y2 | y2
        · rw [show nu m = 1 by omega] at h3; exact Or.inr (Or.inl h3)
        · rw [show nu m = 2 by omega] at h3; exact Or.inr (Or.inr h3)
    · rw [upd_n z]; exact w10 k
theorem wf_profile {V : vT} {c u : Int32} (hW : wf V) : wf (sp_profile V c u).2.2 := by
  unfold sp_profile
  split
  · exact wf_0 hW 1
  · split
    · exact wf_0 hW 2
    · rename_i c1 c2
      obtain ⟨h7, h8, h9, h22, w1, w2, w21, w5, w6, w10, w13, w16, w4, wz, wy, wc⟩ := hW
      have kp := ok_p h9 c2 (by decide)
      refine ⟨h7, h8, kp.1, h22, w1, w2, w21, w5, w6, w10, w13, w16, w4, wz, fun k hk => ?_, cn_c (V := V) rfl wc⟩
      replace hk : nu (V 9 0 + 1) < k := hk
      exact wy k (by omega)
theorem wf_name {V : vT} {p c : Int32} (hW : wf V) : wf (sp_name V p c).2.2 := by
  unfold sp_name
  split
  · exact wf_0 hW 1
  · split
    · exact wf_0 hW 2
    · rename_i c1 c2
      obtain ⟨h7, h8, h9, h22, w1, w2, w21, w5, w6, w10, w13, w16, w4, wz, wy, wc⟩ := hW
      have kq := kp_ h9 (Classical.not_not.mp c1).1
      have kp := ok_p (w13 (nu p)) c2 (by decide)
      refine ⟨h7, h8, h9, h22, w1, w2, w21, w5, w6, w10, fun k => ?_, w16, w4, wz, fun k hk => ?_, cn_c (V := V) rfl wc⟩
      · show ok_ (upd (V 13) (nu p) (V 13 (nu p) + 1) k) 20
        by_cases z : k = nu p
        · rw [z, upd_s]; exact kp.1
        · rw [upd_n z]; exact w13 k
      · replace hk : nu (V 9 0) < k := hk
        obtain ⟨z1, z2, z3, z4⟩ := wy k hk
        exact ⟨(upd_n (by omega)).trans z1, z2, z3, z4⟩
theorem wf_universal {V : vT} {p a m : Int32} (hW : wf V) : wf (sp_universal V p a m).2.2 := by
  unfold sp_universal
  split
  · exact wf_0 hW 1
  · rename_i c1
    obtain ⟨h7, h8, h9, h22, w1, w2, w21, w5, w6, w10, w13, w16, w4, wz, wy, wc⟩ := hW
    have kq := kp_ h9 (Classical.not_not.mp c1).1
    refine ⟨h7, h8, h9, h22, w1, w2, w21, w5, w6, w10, w13, w16, w4, wz, fun k hk => ?_, cn_c (V := V) rfl wc⟩
    replace hk : nu (V 9 0) < k := hk
    obtain ⟨z1, z2, z3, z4⟩ := wy k hk
    exact ⟨z1, (upd_n (by omega)).trans z2, (upd_n (by omega)).trans z3, z4⟩
theorem wf_who {V : vT} {p i : Int32} (hW : wf V) : wf (sp_who V p i).2.2 := by
  unfold sp_who
  split
  · exact wf_0 hW 1
  · exact wf_0 hW 0
theorem wf_ask {V : vT} {c : Int32} (hW : wf V) : wf (sp_ask V c).2.2 := by
  unfold sp_ask
  split
  · exact wf_s hW rfl rfl rfl rfl rfl rfl rfl rfl rfl rfl rfl rfl rfl rfl (show ok_ 0 20 from ⟨by decide, Nat.zero_le _⟩)
  · split
    · rename_i c1 c2
      have kp := ok_p hW.2.2.2.1 (fun z => by rw [z] at c2; exact absurd c2 (by decide)) (by decide)
      exact wf_s hW rfl rfl rfl rfl rfl rfl rfl rfl rfl rfl rfl rfl rfl rfl kp.1
    · exact wf_0 hW 0
theorem wf_condition {V : vT} {p x t b : Int32} (hW : wf V) : wf (sp_condition V p x t b).2.2 := by
  unfold sp_condition
  split
  · exact wf_0 hW 1
  · split
    · exact wf_0 hW 0
    · exact wf_s hW rfl rfl rfl rfl rfl rfl rfl rfl rfl rfl rfl rfl rfl rfl hW.2.2.2.1
theorem wf_16 {V : vT} {p : Nat} {n : Int32} (hW : wf V) (hp : p ≤ nu (V 9 0)) (hn : ok_ n 10) {V2 : vT} (e : ∀ j, j ≠ 0 → j ≠ 16 → j ≠ 17 → j ≠ 18 → j ≠ 19 → j ≠ 20 → V2 j = V j) (e16 : V2 16 = upd (V 16) p n) : wf V2 := by
  obtain ⟨h7, h8, h9, h22, w1, w2, w21, w5, w6, w10, w13, w16, w4, wz, wy, wc⟩ := hW
  have e1 : V2 1 = V 1 := e 1 (by decide) (by decide) (by decide) (by decide) (by decide) (by decide)
  have e2 : V2 2 = V 2 := e 2 (by decide) (by decide) (by decide) (by decide) (by decide) (by decide)
  have e3 : V2 3 = V 3 := e 3 (by decide) (by decide) (by decide) (by decide) (by decide) (by decide)
  have e4 : V2 4 = V 4 := e 4 (by decide) (by decide) (by decide) (by decide) (by decide) (by decide)
  have e5 : V2 5 = V 5 := e 5 (by decide) (by decide) (by decide) (by decide) (by decide) (by decide)
  have e6 : V2 6 = V 6 := e 6 (by decide) (by decide) (by decide) (by decide) (by decide) (by decide)
  have e7 : V2 7 = V 7 := e 7 (by decide) (by decide) (by decide) (by decide) (by decide) (by decide)
  have e8 : V2 8 = V 8 := e 8 (by decide) (by decide) (by decide) (by decide) (by decide) (by decide)
  have e9 : V2 9 = V 9 := e 9 (by decide) (by decide) (by decide) (by decide) (by decide) (by decide)
  have e10 : V2 10 = V 10 := e 10 (by decide) (by decide) (by decide) (by decide) (by decide) (by decide)
  have e13 : V2 13 = V 13 := e 13 (by decide) (by decide) (by decide) (by decide) (by decide) (by decide)
  have e14 : V2 14 = V 14 := e 14 (by decide) (by decide) (by decide) (by decide) (by decide) (by decide)
  have e15 : V2 15 = V 15 := e 15 (by decide) (by decide) (by decide) (by decide) (by decide) (by decide)
  have e22 : V2 22 = V 22 := e 22 (by decide) (by decide) (by decide) (by decide) (by decide) (by decide)
  unfold wf
  rw [e1, e2, e3, e4, e5, e6, e7, e8, e9, e10, e13, e14, e15, e16, e22]
  refine ⟨h7, h8, h9, h22, w1, w2, w21, w5, w6, w10, w13, fun k => ?_, w4, wz, fun k hk => ?_, cn_c e1 wc⟩
  · by_cases z : k = p
    · rw [z, upd_s]; exact hn
    · rw [upd_n z]; exact w16 k
  · obtain ⟨z1, z2, z3, z4⟩ := wy k hk
    exact ⟨z1, z2, z3, (upd_n (by omega)).trans z4⟩
theorem wf_permit {V : vT} {p x a : Int32} (hW : wf V) : wf (sp_permit V p x a).2.2 := by
  unfold sp_permit
  split
  · exact wf_0 hW 1
  · rename_i c1
    have kq := kp_ hW.2.2.1 (Classical.not_not.mp c1).1
    have h16 := hW.2.2.2.2.2.2.2.2.2.2.2.1 (nu p)
    split
    · split
      · exact wf_0 hW 0
      · split
        · exact wf_0 hW 2
        · rename_i c2 c3
          exact wf_16 hW kq.2 (ok_p h16 c3 (by decide)).1 (fun j h1 h2 h3 h4 h5 h6 => (vs_n h2).trans ((vs_n h6).trans ((vs_n h5).trans ((vs_n h4).trans ((vs_n h3).trans (vs_n h1)))))) rfl
    · rename_i k hf
      have hk := fe_s V (nu p) x
      rw [hf] at hk
      split
      · exact wf_16 hW kq.2 (ok_dec h16 (by have := hk.1; omega) (by decide)).1 (fun j h1 h2 h3 h4 h5 h6 => (vs_n h6).trans ((vs_n h5).trans ((vs_n h4).trans ((vs_n h3).trans ((vs_n h2).trans (vs_n h1)))))) rfl
      · exact wf_s hW rfl rfl rfl rfl rfl rfl rfl rfl rfl rfl rfl rfl rfl rfl hW.2.2.2.1
theorem an_s2 {V : vT} {u c a r p w : Int32} : (∀ j, j ≠ 22 → j ≠ 23 → j ≠ 24 → j ≠ 25 → an_ V u c a r p w j = V j) ∧ an_ V u c a r p w 22 0 = 0 ∧ (an_ V u c a r p w 25 0 = V 25 0 ∨ an_ V u c a r p w 25 0 = V 25 0 + 1) := by
  unfold an_
  split
  · exact ⟨fun j h1 h2 h3 h4 => (vs_n h1).trans (vs_n h2), rfl, Or.inl rfl⟩
  · split
    · exact ⟨fun j h1 h2 h3 h4 => (vs_n h4).trans ((vs_n h1).trans (vs_n h2)), rfl, Or.inr rfl⟩
    · exact ⟨fun j h1 h2 h3 h4 => (vs_n h4).trans ((vs_n h3).trans ((vs_n h3).trans ((vs_n h3).trans ((vs_n h3).trans ((vs_n h3).trans ((vs_n h1).trans (vs_n h2))))))), rfl, Or.inr rfl⟩
theorem wf_an {V : vT} {u c a r p w : Int32} (hW : wf V) : wf (an_ (vc V 0 0) u c a r p w) := by
  obtain ⟨e, e22, -⟩ := an_s2 (V := vc V 0 0) (u := u) (c := c) (a := a) (r := r) (p := p) (w := w)
  have E : ∀ j, j ≠ 0 → j ≠ 22 → j ≠ 23 → j ≠ 24 → j ≠ 25 → an_ (vc V 0 0) u c a r p w j = V j := fun j h0 h1 h2 h3 h4 => (e j h1 h2 h3 h4).trans (vs_n h0)
  exact wf_s hW (E 1 (by decide) (by decide) (by decide) (by decide) (by decide)) (E 2 (by decide) (by decide) (by decide) (by decide) (by decide)) (E 3 (by decide) (by decide) (by decide) (by decide) (by decide)) (E 4 (by decide) (by decide) (by decide) (by decide) (by decide)) (E 5 (by decide) (by decide) (by decide) (by decide) (by decide)) (E 6 (by decide) (by decide) (by decide) (by decide) (by decide)) (E 7 (by decide) (by decide) (by decide) (by decide) (by decide)) (E 8 (by decide) (by decide) (by decide) (by decide) (by decide)) (E 9 (by decide) (by decide) (by decide) (by decide) (by decide)) (E 10 (by decide) (by decide) (by decide) (by decide) (by decide)) (E 13 (by decide) (by decide) (by decide) (by decide) (by decide)) (E 14 (by decide) (by decide) (by decide) (by decide) (by decide)) (E 15 (by decide) (by decide) (by decide) (by decide) (by decide)) (E 16 (by decide) (by decide) (by decide) (by decide) (by decide)) (by rw [e22]; exact ⟨by decide, Nat.zero_le _⟩)
theorem sp_may_c {V : vT} {u c a : Int32} {t : Int64} : sp_may V u c a t = (1, 0, vc V 0 1) ∨ ∃ r p w, sp_may V u c a t = (0, r, an_ (vc V 0 0) u c a r p w) := by
  unfold sp_may
  split
  · exact Or.inl rfl
  · refine Or.inr ?_
    split
    · exact ⟨_, _, _, rfl⟩
    · split
      · exact ⟨_, _, _, rfl⟩
      · split
        · exact ⟨_, _, _, rfl⟩
        · split
          · exact ⟨_, _, _, rfl⟩
          · split
            · exact ⟨_, _, _, rfl⟩
            · exact ⟨_, _, _, rfl⟩
theorem wf_may {V : vT} {u c a : Int32} {t : Int64} (hW : wf V) : wf (sp_may V u c a t).2.2 := by
  rcases sp_may_c (V := V) (u := u) (c := c) (a := a) (t := t) with e | ⟨r, p, w, e⟩
  · rw [e]; exact wf_0 hW 1
  · rw [e]; exact wf_an hW
