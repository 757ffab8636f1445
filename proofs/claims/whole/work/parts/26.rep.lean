section NB
variable {p : Program} {l : Launch} {e : Env} {R : Room} {s : State} {m : MethodId} {args : Array Value} {below : List Frame} {meth : Method} {c : Code} {Q : State → Prop}
variable {cc : ByteArray} {own : String} {nL : Nat} {ret : Option FieldType} {hh : List (Nat × Nat × Nat × Nat)} {D : va_G} {HB : Heap}
variable {h : hp_T} {cells slots pc : Nat} {lv : List (Nat × Value)} {st : List Value}
/-- nothing of ours lies where the lists' empty array does -/
theorem wk_nb (C : wk_C p s m args meth c cc own nL ret hh D HB) (k : (∀ q x, h q = some x → q ≠ D.2 200 0) → Wk p l e R s m args below meth c nL D HB Q h cells slots pc lv st) : Wk p l e R s m args below meth c nL D HB Q h cells slots pc lv st := by
  intro H locs ls hP hS hl
  refine k (fun q x hx z => ?_) H locs ls hP hS hl
  obtain ⟨cell, -, -, -, -, -, -, hA⟩ := C.ev.2.2.2.2.2.1
  exact hA (z ▸ (hP q x hx).1)
end NB
/-! the class in the heap: every address of it bears a tag -/
abbrev oT : Type := Nat → Nat × Nat
def ou (own : oT) (q : Nat) (t : Nat × Nat) : oT := fun r => if r = q then t else own r
theorem ou_s {own : oT} {q : Nat} {t : Nat × Nat} : ou own q t q = t := if_pos rfl
theorem ou_n {own : oT} {q r : Nat} {t : Nat × Nat} (h : r ≠ q) : ou own q t r = own r := if_neg h
/-- what bears no tag of L stays -/
def st_ (L : List Nat) (h : hp_T) (own : oT) (h2 : hp_T) (own2 : oT) : Prop := ∀ q x, h q = some x → ¬ (own q).1 ∈ L → h2 q = some x ∧ own2 q = own q
theorem st_r (L : List Nat) (h : hp_T) (own : oT) : st_ L h own h own := fun _ _ hx _ => ⟨hx, rfl⟩
theorem st_w {L M : List Nat} {h h2 : hp_T} {own own2 : oT} (k : st_ L h own h2 own2) (hs : ∀ t, t ∈ L → t ∈ M) : st_ M h own h2 own2 := fun q x hx hq => k q x hx (fun z => hq (hs _ z))
theorem st_t {L : List Nat} {h h2 h3 : hp_T} {own own2 own3 : oT} (k : st_ L h own h2 own2) (k2 : st_ L h2 own2 h3 own3) : st_ L h own h3 own3 := by
  intro q x hx hq
  obtain ⟨a, b⟩ := k q x hx hq
  obtain ⟨a2, b2⟩ := k2 q x a (by rw [b]; exact hq)
  exact ⟨a2, b2.trans b⟩
theorem st_u {L : List Nat} {h : hp_T} {own : oT} {a t : Nat} {x : va_E} (ha : (own a).1 = t) (ht : t ∈ L) : st_ L h own (hp_up h a x) own := by
  intro q y hy hq
  refine ⟨?_, rfl⟩
  rw [hp_un (fun z => hq (by rw [z, ha]; exact ht))]; exact hy
theorem st_n {L : List Nat} {h : hp_T} {own : oT} {q : Nat} {x : va_E} {t : Nat × Nat} (hq : h q = none) : st_ L h own (hp_up h q x) (ou own q t) := by
  intro r y hy _
  have : r ≠ q := fun z => by rw [z, hq] at hy; cases hy
  exact ⟨by rw [hp_un this]; exact hy, ou_n this⟩
theorem st_a {L : List Nat} {D : va_G} {h h2 : hp_T} {own : oT} {a b : Nat} {t i n : Nat} (k : al_fr h h2 a b) (ha : own a = (t, i)) (hb : (n = 0 ∧ b = D.2 200 0) ∨ own b = (t + 100, i)) (hnb : ∀ q x, h q = some x → q ≠ D.2 200 0) (h1 : t ∈ L) (h2' : t + 100 ∈ L) : st_ L h own h2 own := by
  intro q x hx hq
  refine ⟨k q x (fun z => hq (by rw [z, ha]; exact h1)) (fun z => ?_) hx, rfl⟩
  rcases hb with ⟨-, hb⟩ | hb
  · exact hnb q x hx (z.trans hb)
  · exact hq (by rw [z, hb]; exact h2')
def cO (h : hp_T) (own : oT) (x gl ul pl mo aq tr : Nat) (la : Int32) : Prop := h x = some (.inr (0, [.ref gl, .ref ul, .ref pl, .ref mo, .ref aq, .ref tr, .int la])) ∧ own x = (1, 0)
def cL (D : va_G) (h : hp_T) (own : oT) (t i a n : Nat) (f : Nat → Nat) : Prop := ∃ b, al_ok D h a b n f ∧ own a = (t, i) ∧ ((n = 0 ∧ b = D.2 200 0) ∨ own b = (t + 100, i))
def cN (D : va_G) (h : hp_T) (own : oT) (t i a n : Nat) (f : Nat → Int32) : Prop := ∃ c, nm_ok D h a c n f ∧ own a = (t, i) ∧ own c = (t + 100, i)
def pv_ (gA : Nat → Nat) (z : Int32) : Value := if z = 0 then .null else .ref (gA (nu z))
def cG (h : hp_T) (own : oT) (n : Nat) (gA : Nat → Nat) (V : vT) : Prop := ∀ k, 1 ≤ k → k ≤ n → h (gA k) = some (.inr (1, [.int (nI k), pv_ gA (V 1 k)])) ∧ own (gA k) = (20, k)
def cU (h : hp_T) (own : oT) (n : Nat) (gA uA : Nat → Nat) (sf : Nat → Int64) (V : vT) : Prop := ∀ k, 1 ≤ k → k ≤ n → h (uA k) = some (.inr (2, [.int (nI k), .ref (gA (nu (V 2 k))), .int (V 3 k), .int (V 4 k), .int (V 5 k), .long (sf k)])) ∧ own (uA k) = (21, k)
def cB (n : Nat) (sf : Nat → Int64) (V : vT) : Prop := ∀ k j, 1 ≤ k → k ≤ n → j ≤ 40 → ((sf k >>> ((nI j).toInt64 &&& 63)) &&& 1 = 0 ↔ V 6 (41 * k + j) = 0)
def cM (D : va_G) (h : hp_T) (own : oT) (mo : Nat) (V : vT) : Prop := h mo = some (.inl (D.1 100, 8, .inl (V 10))) ∧ own mo = (4, 0)
def cT (D : va_G) (h : hp_T) (own : oT) (tr : Nat) (V : vT) : Prop := ∃ tc, h tr = some (.inr (6, [.ref tc, .int (if V 25 0 < 200 then V 25 0 else 200), .int (V 25 0)])) ∧ own tr = (7, 0) ∧ h tc = some (.inl (D.1 100, 1000, .inl (V 24))) ∧ own tc = (107, 0)
def cE (h : hp_T) (own : oT) (k n : Nat) (eA : Nat → Nat) (V : vT) : Prop := en_ok h n eA (fun j => V 17 (10 * k + j)) (fun j => V 18 (10 * k + j)) (fun j => V 19 (10 * k + j)) (fun j => V 20 (10 * k + j)) ∧ (∀ j, j < n → own (eA j) = (27, k)) ∧ ∀ i j, i < n → j < n → eA i = eA j → i = j
def cQ (D : va_G) (h : hp_T) (own : oT) (k pA pn pe : Nat) (eA : Nat → Nat) (V : vT) : Prop := (h pA = some (.inr (5, [.int (nI k), .int (V 11 k), .ref pn, .ref pe, .int (V 14 k), .int (V 15 k)])) ∧ own pA = (22, k)) ∧ cN D h own 23 k pn (nu (V 13 k)) (nf_ V k) ∧ cL D h own 25 k pe (nu (V 16 k)) eA ∧ cE h own k (nu (V 16 k)) eA V
def cP (D : va_G) (h : hp_T) (own : oT) (n : Nat) (pA pn pe : Nat → Nat) (eA : Nat → Nat → Nat) (V : vT) : Prop := ∀ k, 1 ≤ k → k ≤ n → cQ D h own k (pA k) (pn k) (pe k) (eA k) V
def cr (D : va_G) (h : hp_T) (own : oT) (x : Nat) (V : vT) : Prop := ∃ (gl ul pl mo aq tr : Nat) (gA uA pA pn pe : Nat → Nat) (eA : Nat → Nat → Nat) (sf : Nat → Int64),
  cO h own x gl ul pl mo aq tr (V 23 0) ∧ cL D h own 11 0 gl (nu (V 7 0)) (fun k => gA (k + 1)) ∧ cL D h own 12 0 ul (nu (V 8 0)) (fun k => uA (k + 1)) ∧ cL D h own 13 0 pl (nu (V 9 0)) (fun k => pA (k + 1)) ∧ cM D h own mo V ∧ cN D h own 5 0 aq (nu (V 22 0)) (V 21) ∧ cT D h own tr V ∧ cG h own (nu (V 7 0)) gA V ∧ cU h own (nu (V 8 0)) gA uA sf V ∧ cB (nu (V 8 0)) sf V ∧ cP D h own (nu (V 9 0)) pA pn pe eA V
section MO
variable {D : va_G} {h h2 : hp_T} {own own2 : oT} {L : List Nat} {V : vT}
theorem cO_m {x gl ul pl mo aq tr : Nat} {la : Int32} (k : cO h own x gl ul pl mo aq tr la) (s : st_ L h own h2 own2) (n : ¬ 1 ∈ L) : cO h2 own2 x gl ul pl mo aq tr la := by
  obtain ⟨a, b⟩ := s x _ k.1 (by rw [k.2]; exact n)
  exact ⟨a, b.trans k.2⟩
theorem cL_m {t i a n : Nat} {f : Nat → Nat} (k : cL D h own t i a n f) (s : st_ L h own h2 own2) (n1 : ¬ t ∈ L) (n2 : ¬ t + 100 ∈ L) : cL D h2 own2 t i a n f := by
  obtain ⟨b, ⟨md, ha, hb⟩, hoa, hob⟩ := k
  obtain ⟨a1, a2⟩ := s a _ ha (by rw [hoa]; exact n1)
  rcases hob with ⟨e1, e2⟩ | hob
  · exact ⟨b, ⟨md, a1, Or.inl ⟨e1, e2⟩⟩, a2.trans hoa, Or.inl ⟨e1, e2⟩⟩
  · rcases hb with ⟨e1, e2⟩ | ⟨cap, g, hb, hr⟩
    · exact ⟨b, ⟨md, a1, Or.inl ⟨e1, e2⟩⟩, a2.trans hoa, Or.inl ⟨e1, e2⟩⟩
    · obtain ⟨b1, b2⟩ := s b _ hb (by rw [hob]; exact n2)
      exact ⟨b, ⟨md, a1, Or.inr ⟨cap, g, b1, hr⟩⟩, a2.trans hoa, Or.inr (b2.trans hob)⟩
theorem cN_m {t i a n : Nat} {f : Nat → Int32} (k : cN D h own t i a n f) (s : st_ L h own h2 own2) (n1 : ¬ t ∈ L) (n2 : ¬ t + 100 ∈ L) : cN D h2 own2 t i a n f := by
  obtain ⟨c, ⟨ha, ⟨g, hc, hg⟩, hn⟩, h1, h3⟩ := k
  obtain ⟨a1, a2⟩ := s a _ ha (by rw [h1]; exact n1)
  obtain ⟨b1, b2⟩ := s c _ hc (by rw [h3]; exact n2)
  exact ⟨c, ⟨a1, ⟨g, b1, hg⟩, hn⟩, a2.trans h1, b2.trans h3⟩
theorem cG_m {n : Nat} {gA : Nat → Nat} (k : cG h own n gA V) (s : st_ L h own h2 own2) (n1 : ¬ 20 ∈ L) : cG h2 own2 n gA V := by
  intro j h1 h3
  obtain ⟨a, b⟩ := k j h1 h3
  obtain ⟨a1, a2⟩ := s _ _ a (by rw [b]; exact n1)
  exact ⟨a1, a2.trans b⟩
theorem cU_m {n : Nat} {gA uA : Nat → Nat} {sf : Nat → Int64} (k : cU h own n gA uA sf V) (s : st_ L h own h2 own2) (n1 : ¬ 21 ∈ L) : cU h2 own2 n gA uA sf V := by
  intro j h1 h3
  obtain ⟨a, b⟩ := k j h1 h3
  obtain ⟨a1, a2⟩ := s _ _ a (by rw [b]; exact n1)
  exact ⟨a1, a2.trans b⟩
theorem cM_m {mo : Nat} (k : cM D h own mo V) (s : st_ L h own h2 own2) (n1 : ¬ 4 ∈ L) : cM D h2 own2 mo V := by
  obtain ⟨a1, a2⟩ := s _ _ k.1 (by rw [k.2]; exact n1)
  exact ⟨a1, a2.trans k.2⟩
theorem cT_m {tr : Nat} (k : cT D h own tr V) (s : st_ L h own h2 own2) (n1 : ¬ 7 ∈ L) (n2 : ¬ 107 ∈ L) : cT D h2 own2 tr V := by
  obtain ⟨tc, h1, h3, h4, h5⟩ := k
  obtain ⟨a1, a2⟩ := s _ _ h1 (by rw [h3]; exact n1)
  obtain ⟨b1, b2⟩ := s _ _ h4 (by rw [h5]; exact n2)
  exact ⟨tc, a1, a2.trans h3, b1, b2.trans h5⟩
theorem cE_m {k n : Nat} {eA : Nat → Nat} (k1 : cE h own k n eA V) (s : st_ L h own h2 own2) (n1 : ¬ 27 ∈ L) : cE h2 own2 k n eA V := by
  obtain ⟨e1, e2, e3⟩ := k1
  refine ⟨fun j hj => (s _ _ (e1 j hj) (by rw [e2 j hj]; exact n1)).1, fun j hj => ?_, e3⟩
  rw [(s _ _ (e1 j hj) (by rw [e2 j hj]; exact n1)).2]; exact e2 j hj
theorem cQ_m {k pA pn pe : Nat} {eA : Nat → Nat} (k1 : cQ D h own k pA pn pe eA V) (s : st_ L h own h2 own2) (n1 : ¬ 22 ∈ L) (n2 : ¬ 23 ∈ L) (n3 : ¬ 123 ∈ L) (n4 : ¬ 25 ∈ L) (n5 : ¬ 125 ∈ L) (n6 : ¬ 27 ∈ L) : cQ D h2 own2 k pA pn pe eA V := by
  obtain ⟨⟨e1, e2⟩, e3, e4, e5⟩ := k1
  obtain ⟨a1, a2⟩ := s _ _ e1 (by rw [e2]; exact n1)
  exact ⟨⟨a1, a2.trans e2⟩, cN_m e3 s n2 n3, cL_m e4 s n4 n5, cE_m e5 s n6⟩
theorem cP_m {n : Nat} {pA pn pe : Nat → Nat} {eA : Nat → Nat → Nat} (k1 : cP D h own n pA pn pe eA V) (s : st_ L h own h2 own2) (n1 : ¬ 22 ∈ L) (n2 : ¬ 23 ∈ L) (n3 : ¬ 123 ∈ L) (n4 : ¬ 25 ∈ L) (n5 : ¬ 125 ∈ L) (n6 : ¬ 27 ∈ L) : cP D h2 own2 n pA pn pe eA V := fun k h1 h3 => cQ_m (k1 k h1 h3) s n1 n2 n3 n4 n5 n6
/-- the class shows all rows but 0 and 26 -/
theorem cr_e {x : Nat} {V2 : vT} (k : cr D h own x V) (e : ∀ j, j ≠ 0 → j ≠ 26 → V2 j = V j) : cr D h own x V2 := by
  obtain ⟨gl, ul, pl, mo, aq, tr, gA, uA, pA, pn, pe, eA, sf, k⟩ := k
  refine ⟨gl, ul, pl, mo, aq, tr, gA, uA, pA, pn, pe, eA, sf, ?_⟩
  have e1 := e 1 (by decide) (by decide); have e2 := e 2 (by decide) (by decide); have e3 := e 3 (by decide) (by decide); have e4 := e 4 (by decide) (by decide); have e5 := e 5 (by decide) (by decide); have e6 := e 6 (by decide) (by decide); have e7 := e 7 (by decide) (by decide); have e8 := e 8 (by decide) (by decide); have e9 := e 9 (by decide) (by decide); have e10 := e 10 (by decide) (by decide); have e11 := e 11 (by decide) (by decide); have e12 := e 12 (by decide) (by decide); have e13 := e 13 (by decide) (by decide); have e14 := e 14 (by decide) (by decide); have e15 := e 15 (by decide) (by decide); have e16 := e 16 (by decide) (by decide); have e17 := e 17 (by decide) (by decide); have e18 := e 18 (by decide) (by decide); have e19 := e 19 (by decide) (by decide); have e20 := e 20 (by decide) (by decide); have e21 := e 21 (by decide) (by decide); have e22 := e 22 (by decide) (by decide); have e23 := e 23 (by decide) (by decide); have e24 := e 24 (by decide) (by decide); have e25 := e 25 (by decide) (by decide)
  have en : ∀ k, nf_ V2 k = nf_ V k := fun k => by funext j; show V2 12 _ = V 12 _; rw [e12]
  simp only [cM, cT, cG, cU, cB, cP, cQ, cE, en, e1, e2, e3, e4, e5, e6, e7, e8, e9, e10, e11, e12, e13, e14, e15, e16, e17, e18, e19, e20, e21, e22, e23, e24, e25] at k ⊢
  exact k
end MO
/-- what a call of the class answers: a number, or one of two exceptions -/
def po_ (r : rT) (o : ct_O) : Prop := (r.1 = 0 ∧ o = .inl (some (.int r.2.1))) ∨ (r.1 = 1 ∧ o = .inr eA) ∨ (r.1 = 2 ∧ o = .inr eS)
def so_ (h : hp_T) (own : oT) (h2 : hp_T) (own2 : oT) : Prop := ∀ q x, h q = some x → (own q).1 = 0 → h2 q = some x ∧ own2 q = own q
theorem st_so {L : List Nat} {h h2 : hp_T} {own own2 : oT} (s : st_ L h own h2 own2) (n : ¬ 0 ∈ L) : so_ h own h2 own2 := fun q x hx hq => s q x hx (by rw [hq]; exact n)
/-- the answer of an operation of the class, from h to h2 -/
def an2 (D : va_G) (h : hp_T) (own : oT) (x : Nat) (r : rT) (o : ct_O) (h2 : hp_T) : Prop := ∃ own2, po_ r o ∧ cr D h2 own2 x r.2.2 ∧ so_ h own h2 own2
theorem an_t {D : va_G} {h : hp_T} {own : oT} {x : Nat} {V : vT} {r : rT} (k : cr D h own x V) (hr : r = (1, 0, vc V 0 1)) : an2 D h own x r (.inr eA) h := by
  subst hr; exact ⟨own, Or.inr (Or.inl ⟨rfl, rfl⟩), cr_e k (fun j h1 _ => vs_n h1), fun _ _ hx _ => ⟨hx, rfl⟩⟩
theorem an_s {D : va_G} {h : hp_T} {own : oT} {x : Nat} {V : vT} {r : rT} (k : cr D h own x V) (hr : r = (2, 0, vc V 0 2)) : an2 D h own x r (.inr eS) h := by
  subst hr; exact ⟨own, Or.inr (Or.inr ⟨rfl, rfl⟩), cr_e k (fun j h1 _ => vs_n h1), fun _ _ hx _ => ⟨hx, rfl⟩⟩
theorem an_q {D : va_G} {h : hp_T} {own : oT} {x : Nat} {V : vT} {r : rT} {z : Int32} (k : cr D h own x V) (hr : r = (0, z, vc V 0 0)) : an2 D h own x r (.inl (some (.int z))) h := by
  subst hr; exact ⟨own, Or.inl ⟨rfl, rfl⟩, cr_e k (fun j h1 _ => vs_n h1), fun _ _ hx _ => ⟨hx, rfl⟩⟩
theorem an_o {D : va_G} {h h2 : hp_T} {own own2 : oT} {x : Nat} {V2 : vT} {r : rT} {z : Int32} (k : cr D h2 own2 x V2) (s : so_ h own h2 own2) (hr : r = (0, z, V2)) : an2 D h own x r (.inl (some (.int z))) h2 := by
  subst hr; exact ⟨own2, Or.inl ⟨rfl, rfl⟩, k, s⟩
