/-! bits -/
def bt (x : Int32) (k : Nat) : Bool := x.toBitVec.getLsbD k
theorem bt_or (x y : Int32) (k : Nat) : bt (x ||| y) k = (bt x k || bt y k) := by unfold bt; rw [Int32.toBitVec_or, BitVec.getLsbD_or]
theorem bt_and (x y : Int32) (k : Nat) : bt (x &&& y) k = (bt x k && bt y k) := by unfold bt; rw [Int32.toBitVec_and, BitVec.getLsbD_and]
theorem bt_lt (x : Int32) {k : Nat} (h : bt x k = true) : k < 32 := by
  unfold bt at h
  exact BitVec.lt_of_getLsbD h
theorem bt_nx (x : Int32) (k : Nat) (hk : k < 32) : bt (x ||| -x) k = true ↔ ∃ j, j ≤ k ∧ bt x j = true := by
  rw [bt_or]
  have e : bt (-x) k = (bt x k ^^ decide (∃ j < k, bt x j = true)) := by
    unfold bt
    rw [Int32.toBitVec_neg, BitVec.getLsbD_neg]
    simp [hk]
  rw [e]
  by_cases z : bt x k = true
  · rw [z]; exact ⟨fun _ => ⟨k, Nat.le_refl k, z⟩, fun _ => rfl⟩
  · have z2 : bt x k = false := by simpa using z
    rw [z2]
    simp only [Bool.false_or, Bool.false_xor, decide_eq_true_eq]
    constructor
    · rintro ⟨j, hj, h⟩; exact ⟨j, Nat.le_of_lt hj, h⟩
    · rintro ⟨j, hj, h⟩
      refine ⟨j, Nat.lt_of_le_of_ne hj (fun y => ?_), h⟩
      rw [y] at h; exact z h
theorem bt_s1 (x : Int32) (k : Nat) (hk : k < 32) : bt (x <<< ((1 : Int32) &&& 31)) k = true ↔ 0 < k ∧ bt x (k - 1) = true := by
  unfold bt
  rw [show ((1 : Int32) &&& 31) = 1 by decide, Int32.toBitVec_shiftLeft]
  rw [show x.toBitVec <<< ((1 : Int32).toBitVec.smod 32) = x.toBitVec <<< (1 : Nat) from rfl, BitVec.getLsbD_shiftLeft]
  by_cases z : k < 1
  · simp [z, hk]; omega
  · simp [z, hk]; omega
theorem bt_M : ∀ n, n ≤ 20 → ∀ k, k < 32 → bt (rb_M n) k = decide (k ≤ n) := by decide +kernel
theorem bt_1s : ∀ i, i ≤ 20 → ∀ k, k < 32 → bt ((1 : Int32) <<< (nI i &&& 31)) k = decide (k = i) := by decide +kernel
theorem bt_1 : ∀ k, k < 32 → bt 1 k = decide (k = 0) := by decide +kernel
theorem bt_z (y : Int32) : y &&& 1 = 0 ↔ ¬ bt y 0 = true := by
  constructor
  · intro h z
    have : bt (y &&& 1) 0 = true := by rw [bt_and, z]; decide
    rw [h] at this; exact absurd this (by decide)
  · intro h
    refine Int32.toBitVec_inj.mp (BitVec.eq_of_getLsbD_eq (fun i hi => ?_))
    show bt (y &&& 1) i = bt 0 i
    rw [bt_and, bt_1 i hi, show bt 0 i = false from by unfold bt; exact BitVec.getLsbD_zero]
    by_cases z : i = 0
    · subst z; simp only [Bool.not_eq_true] at h; rw [h]; rfl
    · simp [z]
theorem sh_n : ∀ n, n ≤ 20 → ((nI n &&& 31).toBitVec.smod 32).toNat = n := by decide +kernel
theorem bt_r (x : Int32) {n : Nat} (hn : n ≤ 20) : bt (x >>> (nI n &&& 31)) 0 = bt x n := by
  unfold bt
  rw [Int32.toBitVec_shiftRight, BitVec.sshiftRight_eq', sh_n n hn, BitVec.getLsbD_sshiftRight]
  simp; omega
theorem pl_bt (f : Nat → Int32) (c : Int32) (n : Nat) (hn : n ≤ 20) (k : Nat) (hk : k < 32) : bt (pl_m f c n) k = true ↔ k < n ∧ f k = c := by
  induction n with
  | zero => exact ⟨fun h => absurd h (by unfold pl_m bt; simp), fun h => absurd h.1 (Nat.not_lt_zero k)⟩
  | succ n ih =>
    have ih := ih (by omega)
    show bt (if f n = c then pl_m f c n ||| ((1 : Int32) <<< (nI n &&& 31)) else pl_m f c n) k = true ↔ _
    by_cases z : f n = c
    · rw [if_pos z, bt_or, bt_1s n (by omega) k hk, Bool.or_eq_true, ih, decide_eq_true_eq]
      constructor
      · rintro (⟨h1, h2⟩ | h)
        · exact ⟨by omega, h2⟩
        · subst h; exact ⟨Nat.lt_succ_self _, z⟩
      · rintro ⟨h1, h2⟩
        by_cases y : k = n
        · exact Or.inr y
        · exact Or.inl ⟨by omega, h2⟩
    · rw [if_neg z, ih]
      constructor
      · rintro ⟨h1, h2⟩; exact ⟨by omega, h2⟩
      · rintro ⟨h1, h2⟩
        refine ⟨Nat.lt_of_le_of_ne (by omega) (fun y => ?_), h2⟩
        subst y; exact z h2
theorem rb_bt (p f : Nat → Int32) {n : Nat} (hn : n ≤ 20) (i : Nat) : ∀ k, k < 32 → (bt (rb_R p f n i) k = true ↔ k ≤ n ∧ ft_ p f i k) := by
  induction i with
  | zero =>
    intro k hk
    show bt 1 k = true ↔ k ≤ n ∧ k = 0
    rw [bt_1 k hk, decide_eq_true_eq]
    exact ⟨fun h => ⟨by omega, h⟩, fun h => h.2⟩
  | succ i ih =>
    intro k hk
    show bt (rb_1 (p i) (rb_R p f n i) f n &&& rb_M n) k = true ↔ _
    rw [bt_and, bt_M n hn k hk, Bool.and_eq_true, decide_eq_true_eq]
    unfold rb_1
    by_cases z : p i = 42
    · rw [if_pos z, bt_nx _ k hk]
      constructor
      · rintro ⟨⟨j, h1, h2⟩, h3⟩
        exact ⟨h3, Or.inl ⟨z, j, h1, ((ih j (by omega)).mp h2).2⟩⟩
      · rintro ⟨h3, ⟨_, j, h1, h2⟩ | ⟨h4, _⟩⟩
        · exact ⟨⟨j, h1, (ih j (by omega)).mpr ⟨by omega, h2⟩⟩, h3⟩
        · exact absurd z h4
    · rw [if_neg z]
      by_cases z2 : p i = 37
      · rw [if_pos z2, bt_s1 _ k hk]
        constructor
        · rintro ⟨⟨h1, h2⟩, h3⟩
          exact ⟨h3, Or.inr ⟨z, k - 1, by omega, Or.inl z2, ((ih (k - 1) (by omega)).mp h2).2⟩⟩
        · rintro ⟨h3, ⟨h4, _⟩ | ⟨_, j, h1, _, h2⟩⟩
          · exact absurd h4 z
          · subst h1; exact ⟨⟨by omega, (ih (j + 1 - 1) (by omega)).mpr ⟨by omega, h2⟩⟩, h3⟩
      · rw [if_neg z2, bt_s1 _ k hk, bt_and, Bool.and_eq_true]
        constructor
        · rintro ⟨⟨h1, h2, h5⟩, h3⟩
          have h6 := (pl_bt f (p i) n hn (k - 1) (by omega)).mp h5
          exact ⟨h3, Or.inr ⟨z, k - 1, by omega, Or.inr h6.2.symm, ((ih (k - 1) (by omega)).mp h2).2⟩⟩
        · rintro ⟨h3, ⟨h4, _⟩ | ⟨_, j, h1, h5, h2⟩⟩
          · exact absurd h4 z
          · subst h1
            have h6 : p i = f j := h5.resolve_left z2
            exact ⟨⟨by omega, (ih (j + 1 - 1) (by omega)).mpr ⟨by omega, h2⟩, (pl_bt f (p i) n hn (j + 1 - 1) (by omega)).mpr ⟨by omega, h6.symm⟩⟩, h3⟩
/-- the class's fits is the reference's -/
theorem rb_ft (p f : Nat → Int32) (m : Nat) {n : Nat} (hn : n ≤ 20) : rb_F p m f n ↔ ft_ p f m n := by
  unfold rb_F
  rw [bt_z, bt_r _ hn, Classical.not_not, rb_bt p f hn m n (by omega)]
  exact ⟨fun h => h.2, fun h => ⟨Nat.le_refl n, h⟩⟩
/-- a name without wild characters fits names of its own length only -/
theorem ft_ex {f g : Nat → Int32} {m j : Nat} (h : nm_s f m = m) (k : ft_ f g m j) : j = m := by
  induction m generalizing j with
  | zero => exact k
  | succ m ih =>
    have h1 := nm_s1 f m
    have h2 := nm_s_le f m
    have hw : ¬ (f m = 37 ∨ f m = 42) := fun z => by rw [if_pos z] at h1; omega
    rw [if_neg hw] at h1
    rcases k with ⟨z, _⟩ | ⟨_, i, e, _, k⟩
    · exact absurd (Or.inr z) hw
    · rw [e, ih (by omega) k]
theorem nm_aex {f : Nat → Int32} {m : Nat} (h : nm_s f m = m) : nm_a f m = m := by
  induction m with
  | zero => rfl
  | succ m ih =>
    have h1 := nm_s1 f m
    have h2 := nm_s_le f m
    have hw : ¬ (f m = 37 ∨ f m = 42) := fun z => by rw [if_pos z] at h1; omega
    rw [if_neg hw] at h1
    rw [nm_a1, if_neg hw, if_pos (by omega), ih (by omega)]
/-- of two names that fit the same one, the class's order is the reference's -/
theorem mo_e {V : vT} {p q : Nat} (hp : nu (V 13 p) ≤ 20) (hq : nu (V 13 q) ≤ 20) (fp : fp_ V p) (fq : fp_ V q) :
    (if ¬ ((nI (nm_s (nf_ V p) (nu (V 13 p))) = nI (nu (V 13 p))) ↔ (nI (nm_s (nf_ V q) (nu (V 13 q))) = nI (nu (V 13 q)))) then (if nI (nm_s (nf_ V p) (nu (V 13 p))) = nI (nu (V 13 p)) then (1 : Int32) else 0) else if ¬ nI (nm_a (nf_ V p) (nu (V 13 p))) = nI (nm_a (nf_ V q) (nu (V 13 q))) then (if nI (nm_a (nf_ V q) (nu (V 13 q))) < nI (nm_a (nf_ V p) (nu (V 13 p))) then 1 else 0) else if nI (nm_s (nf_ V q) (nu (V 13 q))) < nI (nm_s (nf_ V p) (nu (V 13 p))) then 1 else 0) = z_ (mo_ V p q) := by
  have sp := nm_s_le (nf_ V p) (nu (V 13 p))
  have sq := nm_s_le (nf_ V q) (nu (V 13 q))
  have ap := nm_a_le (nf_ V p) (nu (V 13 p))
  have aq := nm_a_le (nf_ V q) (nu (V 13 q))
  have xp := fun h => ft_ex (f := nf_ V p) (m := nu (V 13 p)) h fp
  have xq := fun h => ft_ex (f := nf_ V q) (m := nu (V 13 q)) h fq
  have yp := fun h => nm_aex (f := nf_ V p) (m := nu (V 13 p)) h
  have yq := fun h => nm_aex (f := nf_ V q) (m := nu (V 13 q)) h
  unfold mo_ sp_ sv_
  generalize nm_s (nf_ V p) (nu (V 13 p)) = s1 at *
  generalize nm_s (nf_ V q) (nu (V 13 q)) = s2 at *
  generalize nm_a (nf_ V p) (nu (V 13 p)) = a1 at *
  generalize nm_a (nf_ V q) (nu (V 13 q)) = a2 at *
  generalize nu (V 13 p) = n1 at *
  generalize nu (V 13 q) = n2 at *
  clear fp fq
  have i1 : (nI s1 = nI n1) ↔ s1 = n1 := nI_eq (by omega) (by omega)
  have i2 : (nI s2 = nI n2) ↔ s2 = n2 := nI_eq (by omega) (by omega)
  have i3 : (nI a1 = nI a2) ↔ a1 = a2 := nI_eq (by omega) (by omega)
  have i4 : (nI a2 < nI a1) ↔ a2 < a1 := nI_ltI (by omega) (by omega)
  have i5 : (nI s2 < nI s1) ↔ s2 < s1 := nI_ltI (by omega) (by omega)
  have j1 : ¬ (1 : Int32) = 0 := by decide
  by_cases z1 : s1 = n1
  · by_cases z2 : s2 = n2
    · have e1 := xp z1
      have e2 := xq z2
      have e3 := yp z1
      have e4 := yq z2
      have : a1 = a2 := by omega
      have h5 : ¬ s2 < s1 := by omega
      rw [if_neg (by simp [i1, i2, z1, z2]), if_neg (by simp [i3, this]), if_neg (by rw [i5]; exact h5)]
      refine (z_n ?_).symm
      rw [if_pos z1, if_pos z2, if_neg (by simp), if_pos z1, if_pos z2]
      decide
    · rw [if_pos (by simp [i1, i2, z1, z2]), if_pos (i1.mpr z1)]
      have k : (100 : Int32) = nI 100 := rfl
      refine (z_p ?_).symm
      rw [if_pos z1, if_neg z2, if_neg j1, k]
      rw [if_pos (fun z => by have := (nI_eq (by omega) (by omega)).mp z; omega)]
      exact nI_lt (by omega) (by omega)
  · by_cases z2 : s2 = n2
    · rw [if_pos (by simp [i1, i2, z1, z2]), if_neg (fun z => z1 (i1.mp z))]
      have k : (100 : Int32) = nI 100 := rfl
      refine (z_n ?_).symm
      rw [if_neg z1, if_pos z2, if_neg j1, k]
      rw [if_pos (fun z => by have := (nI_eq (by omega) (by omega)).mp z; omega)]
      exact nI_nlt (by omega) (by omega)
    · rw [if_neg (by simp [i1, i2, z1, z2])]
      rw [if_neg z1, if_neg z2, if_neg z1, if_neg z2, if_neg j1, if_neg j1, if_pos rfl, if_pos rfl]
      by_cases z3 : a1 = a2
      · have z4 : nI a1 = nI a2 := i3.mpr z3
        simp only [z4, not_true_eq_false, if_false]
        by_cases z5 : nI s2 < nI s1
        · rw [if_pos z5, z_p z5]
        · rw [if_neg z5, z_n z5]
      · have z4 : ¬ nI a1 = nI a2 := fun z => z3 (i3.mp z)
        simp only [z4, not_false_eq_true, if_true]
        by_cases z5 : nI a2 < nI a1
        · rw [if_pos z5, z_p z5]
        · rw [if_neg z5, z_n z5]
