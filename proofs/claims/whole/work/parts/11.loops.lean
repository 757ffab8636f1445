section LP
variable {p : Program} {l : Launch} {e : Env} {R : Room} {s : State} {m : MethodId} {args : Array Value} {below : List Frame} {meth : Method} {c : Code} {Q : State → Prop} {nL : Nat} {D : va_G} {HB : Heap} {cells slots pc : Nat} {st : List Value}
/-- a loop, by a measure -/
theorem wk_ind {σ : Type} {hF : σ → hp_T} {lvF : σ → List (Nat × Value)} (μ : σ → Nat) (P : σ → Prop)
    (step : ∀ a, P a → (∀ b, P b → μ b < μ a → Wk p l e R s m args below meth c nL D HB Q (hF b) cells slots pc (lvF b) st) → Wk p l e R s m args below meth c nL D HB Q (hF a) cells slots pc (lvF a) st) : ∀ a, P a → Wk p l e R s m args below meth c nL D HB Q (hF a) cells slots pc (lvF a) st := by
  have key : ∀ (k : Nat) (a : σ), μ a < k → P a → Wk p l e R s m args below meth c nL D HB Q (hF a) cells slots pc (lvF a) st := by
    intro k
    induction k with
    | zero => intro a ha; omega
    | succ k ih => intro a ha hp; exact step a hp (fun b hb hlt => ih b (by omega) hb)
  exact fun a ha => key (μ a + 1) a (by omega) ha
/-- a loop that counts up to n -/
theorem wk_up {hF : Nat → hp_T} {lvF : Nat → List (Nat × Value)} (n : Nat) (step : ∀ i, i < n → Wk p l e R s m args below meth c nL D HB Q (hF (i + 1)) cells slots pc (lvF (i + 1)) st → Wk p l e R s m args below meth c nL D HB Q (hF i) cells slots pc (lvF i) st)
    (fin : Wk p l e R s m args below meth c nL D HB Q (hF n) cells slots pc (lvF n) st) : ∀ i, i ≤ n → Wk p l e R s m args below meth c nL D HB Q (hF i) cells slots pc (lvF i) st := by
  intro i hi
  have key : ∀ k i, i + k = n → Wk p l e R s m args below meth c nL D HB Q (hF i) cells slots pc (lvF i) st := by
    intro k
    induction k with
    | zero => intro i hi; have : i = n := by omega
              subst this; exact fin
    | succ k ih => intro i hi; exact step i (by omega) (ih (i + 1) (by omega))
  exact key (n - i) i (by omega)
end LP
/-! names: a row of characters; which of them are wild; how many aren't; how many stand ahead of the first wild one -/
def nm_w (c : Int32) : Prop := c = 37 ∨ c = 42
theorem nm_w_dec (c : Int32) : nm_w c ∨ ¬ nm_w c := Classical.em _
noncomputable def nm_s (f : Nat → Int32) : Nat → Nat
  | 0 => 0
  | n + 1 => nm_s f n + (if f n = 37 ∨ f n = 42 then 0 else 1)
noncomputable def nm_a (f : Nat → Int32) : Nat → Nat
  | 0 => 0
  | n + 1 => nm_a f n + (if f n = 37 ∨ f n = 42 then 0 else if nm_s f n = n then 1 else 0)
theorem nm_s_le (f : Nat → Int32) (n : Nat) : nm_s f n ≤ n := by
  induction n with
  | zero => exact Nat.le_refl _
  | succ n ih => unfold nm_s; split <;> omega
theorem nm_a_le (f : Nat → Int32) (n : Nat) : nm_a f n ≤ n := by
  induction n with
  | zero => exact Nat.le_refl _
  | succ n ih => unfold nm_a; split
                 · omega
                 · split <;> omega
theorem nm_s_cg {f g : Nat → Int32} {n : Nat} (h : ∀ k, k < n → f k = g k) : nm_s f n = nm_s g n := by
  induction n with
  | zero => rfl
  | succ n ih => unfold nm_s; rw [ih (fun k hk => h k (by omega)), h n (by omega)]
theorem nm_a_cg {f g : Nat → Int32} {n : Nat} (h : ∀ k, k < n → f k = g k) : nm_a f n = nm_a g n := by
  induction n with
  | zero => rfl
  | succ n ih => unfold nm_a; rw [ih (fun k hk => h k (by omega)), h n (by omega), nm_s_cg (fun k hk => h k (by omega))]
/-- the Name at a, its characters at c: n of them, the k-th one f k -/
def nm_ok (D : va_G) (h : hp_T) (a c n : Nat) (f : Nat → Int32) : Prop := h a = some (.inr (3, [.ref c, .int (nI n), .int (nI (nm_s f n)), .int (nI (nm_a f n))])) ∧ (∃ g : Nat → Int32, h c = some (.inl (D.1 100, 20, .inl g)) ∧ ∀ k, k < n → g k = f k) ∧ n ≤ 20
