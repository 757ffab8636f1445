section JN
variable {p : Program} {l : Launch} {e : Env} {R : Room} {s : State} {m : MethodId} {args : Array Value} {below : List Frame} {meth : Method} {c : Code} {Q : State → Prop} {nL : Nat} {D : va_G} {HB : Heap} {cells slots pc : Nat} {st : List Value} {h : hp_T} {lv : List (Nat × Value)}
/-- roads that meet -/
theorem wk_join {α : Type} {hF : α → hp_T} {lvF : α → List (Nat × Value)} {stF : α → List Value} {pc2 : Nat} (P : α → Prop) (k : ∀ a, P a → Wk p l e R s m args below meth c nL D HB Q (hF a) cells slots pc2 (lvF a) (stF a))
    (kk : (∀ a, P a → Wk p l e R s m args below meth c nL D HB Q (hF a) cells slots pc2 (lvF a) (stF a)) → Wk p l e R s m args below meth c nL D HB Q h cells slots pc lv st) : Wk p l e R s m args below meth c nL D HB Q h cells slots pc lv st := kk k
end JN
/-! the reference's content: row k of V is its field k (a number at 0, or a whole array) -/
abbrev vT : Type := Nat → Nat → Int32
def vs (V : vT) (k : Nat) (f : Nat → Int32) : vT := fun j => if j = k then f else V j
theorem vs_s {V : vT} {k : Nat} {f : Nat → Int32} : vs V k f k = f := if_pos rfl
theorem vs_n {V : vT} {k j : Nat} {f : Nat → Int32} (h : j ≠ k) : vs V k f j = V j := if_neg h
def vc (V : vT) (k : Nat) (x : Int32) : vT := vs V k (fun _ => x)
def nu (x : Int32) : Nat := x.toNatClampNeg
theorem nu_nI {n : Nat} (h : n < 2 ^ 31) : nu (nI n) = n := nI_clamp h
/-- a number of 0 .. n -/
def ok_ (x : Int32) (n : Nat) : Prop := x = nI (nu x) ∧ nu x ≤ n
theorem ok_nI {m n : Nat} (h : m ≤ n) (hn : n < 2 ^ 31) : ok_ (nI m) n := ⟨by rw [nu_nI (by omega)], by rw [nu_nI (by omega)]; exact h⟩
theorem ok_of {x : Int32} {m n : Nat} (e : x = nI m) (h : m ≤ n) (hn : n < 2 ^ 31) : ok_ x n := e ▸ ok_nI h hn
theorem ok_int {x : Int32} {n : Nat} (h : ok_ x n) (hn : n < 2 ^ 31) : x.toInt = (nu x : Int) := by rw [h.1, nI_toInt (by have := h.2; omega), ← h.1]
theorem vi_ {x y : Int32} {N n : Nat} (h1 : ¬ x < 1) (h2 : x ≤ y) (hy : ok_ y N) (hN : N < n) (hn : n < 2 ^ 31) : vp_in x n := by
  intro z
  have e1 := ok_int hy (by omega)
  have e2 := hy.2
  rw [Int32.lt_iff_toInt_lt] at h1
  rw [Int32.le_iff_toInt_le, e1] at h2
  have e3 : (1 : Int32).toInt = 1 := by decide
  rw [e3] at h1
  rcases z with z | z
  · rw [Int32.lt_iff_toInt_lt] at z
    have e4 : (0 : Int32).toInt = 0 := by decide
    rw [e4] at z; omega
  · have : x.toNatClampNeg = x.toInt.toNat := rfl
    omega
theorem vi_k {x : Int32} {N n : Nat} (hy : ok_ x N) (hN : N < n) (hn : n < 2 ^ 31) : vp_in x n := by
  rw [hy.1]; exact nI_in (by have := hy.2; omega) hn
/-- the class and the length of each array of the reference -/
def ml_ (k : Nat) : Option (Nat × Nat) := [none, some (100, 21), some (100, 41), some (100, 41), some (100, 41), some (103, 41), some (103, 1681), none, none, none, some (100, 8), some (100, 61), some (100, 1220), some (100, 61), some (100, 61), some (100, 61), some (100, 61), some (100, 610), some (100, 610), some (100, 610), some (100, 610), some (100, 20), none, none, some (100, 1000), none, some (103, 441)].getD k none
def mf_ (A : Nat → Nat) (V : vT) : List Value := [.int (V 0 0), .ref (A 1), .ref (A 2), .ref (A 3), .ref (A 4), .ref (A 5), .ref (A 6), .int (V 7 0), .int (V 8 0), .int (V 9 0), .ref (A 10), .ref (A 11), .ref (A 12), .ref (A 13), .ref (A 14), .ref (A 15), .ref (A 16), .ref (A 17), .ref (A 18), .ref (A 19), .ref (A 20), .ref (A 21), .int (V 22 0), .int (V 23 0), .ref (A 24), .int (V 25 0), .ref (A 26)]
/-- the reference stands in the heap with the content V; what was known beside it stays known -/
def mq (D : va_G) (h0 h : hp_T) (y : Nat) (A : Nat → Nat) (V : vT) : Prop :=
  h y = some (.inr (8, mf_ A V)) ∧ (∀ k t n, ml_ k = some (t, n) → h (A k) = some (.inl (D.1 t, n, .inl (V k)))) ∧ (∀ k j, ml_ k ≠ none → ml_ j ≠ none → A k = A j → k = j) ∧ (∀ q x, q ≠ y → (∀ k, ml_ k ≠ none → q ≠ A k) → h0 q = some x → h q = some x)
theorem mq.ob {D : va_G} {h0 h : hp_T} {y : Nat} {A : Nat → Nat} {V : vT} (M : mq D h0 h y A V) : h y = some (.inr (8, mf_ A V)) := M.1
theorem mq.ar {D : va_G} {h0 h : hp_T} {y : Nat} {A : Nat → Nat} {V : vT} (M : mq D h0 h y A V) : ∀ k t n, ml_ k = some (t, n) → h (A k) = some (.inl (D.1 t, n, .inl (V k))) := M.2.1
theorem mq.ij {D : va_G} {h0 h : hp_T} {y : Nat} {A : Nat → Nat} {V : vT} (M : mq D h0 h y A V) : ∀ k j, ml_ k ≠ none → ml_ j ≠ none → A k = A j → k = j := M.2.2.1
theorem mq.fr {D : va_G} {h0 h : hp_T} {y : Nat} {A : Nat → Nat} {V : vT} (M : mq D h0 h y A V) : ∀ q x, q ≠ y → (∀ k, ml_ k ≠ none → q ≠ A k) → h0 q = some x → h q = some x := M.2.2.2
theorem mq.ny {D : va_G} {h0 h : hp_T} {y : Nat} {A : Nat → Nat} {V : vT} (M : mq D h0 h y A V) {k : Nat} (hk : ml_ k ≠ none) : A k ≠ y := by
  intro z
  cases e : ml_ k with
  | none => exact hk e
  | some tn =>
    have h1 := M.ar k tn.1 tn.2 e
    rw [z, M.ob] at h1
    cases h1
def sc_ (k : Nat) : Prop := k = 0 ∨ k = 7 ∨ k = 8 ∨ k = 9 ∨ k = 22 ∨ k = 23 ∨ k = 25
theorem sc_no {k : Nat} (h : sc_ k) : ml_ k = none := by rcases h with rfl | rfl | rfl | rfl | rfl | rfl | rfl <;> rfl
theorem mq.sc {D : va_G} {h0 h : hp_T} {y : Nat} {A : Nat → Nat} {V : vT} (M : mq D h0 h y A V) {k : Nat} (hk : sc_ k) (x : Int32) : mq D h0 (hp_up h y (.inr (8, mf_ A (vc V k x)))) y A (vc V k x) := by
  refine ⟨hp_us, fun j t n hj => ?_, M.ij, fun q x hq hA hx => ?_⟩
  · rw [hp_un (M.ny (by rw [hj]; exact fun z => nomatch z))]
    have hne : j ≠ k := fun z => by rw [z, sc_no hk] at hj; cases hj
    rw [show vc V k x j = V j from vs_n hne]
    exact M.ar j t n hj
  · rw [hp_un hq]; exact M.fr q x hq hA hx
theorem mf_ar {A : Nat → Nat} {V : vT} {k : Nat} {f : Nat → Int32} (hk : ml_ k ≠ none) : mf_ A (vs V k f) = mf_ A V := by
  have hn : ∀ j, sc_ j → vs V k f j = V j := fun j hj => vs_n (fun z => hk (by rw [← z]; exact sc_no hj))
  unfold mf_
  rw [hn 0 (by simp [sc_]), hn 7 (by simp [sc_]), hn 8 (by simp [sc_]), hn 9 (by simp [sc_]), hn 22 (by simp [sc_]), hn 23 (by simp [sc_]), hn 25 (by simp [sc_])]
theorem mq.st {D : va_G} {h0 h : hp_T} {y : Nat} {A : Nat → Nat} {V : vT} (M : mq D h0 h y A V) {k t n : Nat} (hk : ml_ k = some (t, n)) (f : Nat → Int32) : mq D h0 (hp_up h (A k) (.inl (D.1 t, n, .inl f))) y A (vs V k f) := by
  have hk2 : ml_ k ≠ none := by rw [hk]; exact fun z => nomatch z
  refine ⟨?_, fun j t2 n2 hj => ?_, M.ij, fun q x hq hA hx => ?_⟩
  · rw [hp_un (fun z => M.ny hk2 z.symm), mf_ar hk2]; exact M.ob
  · by_cases z : j = k
    · subst z; rw [hk] at hj; cases hj; rw [hp_us, vs_s]
    · rw [hp_un (fun e => z (M.ij j k (by rw [hj]; exact fun z => nomatch z) hk2 e)), vs_n z]; exact M.ar j t2 n2 hj
  · rw [hp_un (hA k hk2)]; exact M.fr q x hq hA hx
section MW
variable {p : Program} {l : Launch} {e : Env} {R : Room} {s : State} {m : MethodId} {args : Array Value} {below : List Frame} {meth : Method} {c : Code} {Q : State → Prop}
variable {cc : ByteArray} {own : String} {nL : Nat} {ret : Option FieldType} {hh : List (Nat × Nat × Nat × Nat)} {D : va_G} {HB : Heap}
variable {h h0 : hp_T} {cells slots pc : Nat} {lv : List (Nat × Value)} {rest : List Value} {y : Nat} {A : Nat → Nat} {V : vT}
theorem wm_put (C : wk_C p s m args meth c cc own nL ret hh D HB) (M : mq D h0 h y A V) (k : Nat) {index : Nat} {x : Int32} (hk : sc_ k) (F : fd_ok own index 8 k .int false) (e2 : (mf_ A V).set k (.int x) = mf_ A (vc V k x)) (hd : decode cc pc = .ok (.putfield index, 3))
    (kk : ∀ h2, mq D h0 h2 y A (vc V k x) → Wk p l e R s m args below meth c nL D HB Q h2 cells slots (pc + 3) lv rest) : Wk p l e R s m args below meth c nL D HB Q h cells slots pc lv (.int x :: .ref y :: rest) :=
  wk_put C F M.ob rfl rfl (by rcases hk with rfl | rfl | rfl | rfl | rfl | rfl | rfl <;> exact Nat.le_of_ble_eq_true rfl) e2 hd (kk _ (M.sc hk x))
theorem wm_ld (C : wk_C p s m args meth c cc own nL ret hh D HB) (M : mq D h0 h y A V) (k : Nat) {n j : Nat} {i : Int32} (hk : ml_ k = some (100, n)) (hi : vp_in i n) (hj : nu i = j) (hd : decode cc pc = .ok (.iaload, 1))
    (kk : Wk p l e R s m args below meth c nL D HB Q h cells slots (pc + 1) lv (.int (V k j) :: rest)) : Wk p l e R s m args below meth c nL D HB Q h cells slots pc lv (.int i :: .ref (A k) :: rest) :=
  wk_iald C (M.ar k _ _ hk) hi hd (by rw [← hj] at kk; exact kk)
theorem wm_ldz (C : wk_C p s m args meth c cc own nL ret hh D HB) (M : mq D h0 h y A V) (k : Nat) {n j : Nat} {i : Int32} (hk : ml_ k = some (103, n)) (hi : vp_in i n) (hj : nu i = j) (hd : decode cc pc = .ok (.baload, 1))
    (kk : Wk p l e R s m args below meth c nL D HB Q h cells slots (pc + 1) lv (.int (V k j) :: rest)) : Wk p l e R s m args below meth c nL D HB Q h cells slots pc lv (.int i :: .ref (A k) :: rest) :=
  wk_zald C (M.ar k _ _ hk) hi hd (by rw [← hj] at kk; exact kk)
theorem wm_st (C : wk_C p s m args meth c cc own nL ret hh D HB) (M : mq D h0 h y A V) (k : Nat) {n j : Nat} {i x : Int32} (hk : ml_ k = some (100, n)) (hi : vp_in i n) (hj : nu i = j) (hd : decode cc pc = .ok (.iastore, 1))
    (kk : ∀ h2, mq D h0 h2 y A (vs V k (upd (V k) j x)) → Wk p l e R s m args below meth c nL D HB Q h2 cells slots (pc + 1) lv rest) : Wk p l e R s m args below meth c nL D HB Q h cells slots pc lv (.int x :: .int i :: .ref (A k) :: rest) :=
  wk_iast C (M.ar k _ _ hk) hi hd (kk _ (by rw [← hj]; exact M.st hk _))
theorem wm_stz (C : wk_C p s m args meth c cc own nL ret hh D HB) (M : mq D h0 h y A V) (k : Nat) {n j : Nat} {i x : Int32} (hk : ml_ k = some (103, n)) (hi : vp_in i n) (hj : nu i = j) (hx : vp_nar .boolean x = x) (hd : decode cc pc = .ok (.bastore, 1))
    (kk : ∀ h2, mq D h0 h2 y A (vs V k (upd (V k) j x)) → Wk p l e R s m args below meth c nL D HB Q h2 cells slots (pc + 1) lv rest) : Wk p l e R s m args below meth c nL D HB Q h cells slots pc lv (.int x :: .int i :: .ref (A k) :: rest) :=
  wk_zast C (M.ar k _ _ hk) hi hx hd (kk _ (by rw [← hj]; exact M.st hk _))
end MW
