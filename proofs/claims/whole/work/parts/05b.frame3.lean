section WG
variable {p : Program} {l : Launch} {e : Env} {R : Room} {s : State} {m : MethodId} {args : Array Value} {below : List Frame} {meth : Method} {c : Code} {Q : State → Prop}
variable {cc : ByteArray} {own : String} {nL : Nat} {ret : Option FieldType} {hh : List (Nat × Nat × Nat × Nat)} {D : va_G} {HB : Heap}
variable {h : hp_T} {cells slots pc : Nat} {lv : List (Nat × Value)} {st rest : List Value}
/-- the length of an array that lies in the base -/
theorem wk_tlen (C : wk_C p s m args meth c cc own nL ret hh D HB) {ty : FieldType} {t N : Nat} {f : Nat → Value} (hZ : va_T ty t N f (hp_A HB) s HB) (hd : decode cc pc = .ok (.arraylength, 1))
    (kk : Wk p l e R s m args below meth c nL D HB Q h cells slots (pc + 1) lv (.int (nI N) :: rest)) : Wk p l e R s m args below meth c nL D HB Q h cells slots pc lv (.ref t :: rest) := by
  intro H locs ls hP hS hl T hT X
  exact va_tlen C.1 C.2.1 (hZ.kept (fun a h1 h2 => C.base.2.1 a h1 h2)) (wk_seen C X hT hS) rfl hd (kk H locs ls hP hS hl) T hT X
theorem wk_newq (C : wk_C p s m args meth c cc own nL ret hh D HB) {n : Int32} {N index : Nat} (hk : Cond.classLink own index "java/lang/Object" ∈ kw_L) (hn : n = nI N) (hN : N ≤ 100000) (hc : cells + 1 ≤ R.cells) (hs : slots + N ≤ R.slots) (hd : decode cc pc = .ok (.anewarray index, 3))
    (kk : ∀ q : Nat, h q = none → Wk p l e R s m args below meth c nL D HB Q (hp_up h q (.inl (D.1 102, N, .inr (.inr (.inr (.inr (fun _ => none))))))) (cells + 1) (slots + N) (pc + 3) lv (.ref q :: rest)) : Wk p l e R s m args below meth c nL D HB Q h cells slots pc lv (.int n :: rest) := by
  intro H locs ls hP hS hl
  subst hn
  refine va_newq (D := D) (C := "java/lang/Object") C.1 C.2.1 C.ow (C.hts _ hk) C.ev.2.2.2.2.2.2.1 C.K hP.P hP.D hS (fun q z => z) (nI_pos (by omega)) (nI_clamp (by omega)) (by omega) hc hs hd (fun q cA H1 k1 p1 d1 s1 => ?_)
  have e1 := wk_arr C (t0 := 2) rfl k1
  subst e1
  obtain ⟨p2, hn⟩ := hP.new p1 d1
  exact kk q hn H1 locs ls p2 s1 hl
/-- an object that may lie in an array of Objects -/
def ob_ok (h : hp_T) (y : Nat) : Prop := ∃ (ci : Nat) (fs : List Value) (r : vw_C), h y = some (.inr (ci, fs)) ∧ vwCl[ci]? = some r ∧ Cond.castable r.1 "java/lang/Object" ∈ kw_L
theorem wk_aastO (C : wk_C p s m args meth c cc own nL ret hh D HB) {a n y : Nat} {f : Nat → Option Nat} {i : Int32} (ha : h a = some (.inl (D.1 102, n, .inr (.inr (.inr (.inr f)))))) (hi : vp_in i n) (hy : ob_ok h y) (hd : decode cc pc = .ok (.aastore, 1))
    (kk : Wk p l e R s m args below meth c nL D HB Q (hp_up h a (.inl (D.1 102, n, .inr (.inr (.inr (.inr (va_up f i.toNatClampNeg (some y)))))))) cells slots (pc + 1) lv rest) : Wk p l e R s m args below meth c nL D HB Q h cells slots pc lv (.ref y :: .int i :: .ref a :: rest) := by
  obtain ⟨ci, fs, r, h1, h2, h3⟩ := hy
  exact wk_aast C ha hi h1 h2 h3 hd kk
theorem wk_copy (C : wk_C p s m args meth c cc own nL ret hh D HB) {index a0 a n0 n1 sp dp n : Nat} {f g : Nat → Option Nat} {xs xd xn : Int32} (hk : Cond.methodLink own index arraycopyName ∈ kw_L) (hnat : Cond.native arraycopyName ∈ kw_L) (hst : Cond.static arraycopyName ∈ kw_L) (hini : Cond.initialized "java/lang/System" ∈ kw_L)
    (ha0 : h a0 = some (.inl (D.1 102, n0, .inr (.inr (.inr (.inr f)))))) (ha1 : h a = some (.inl (D.1 102, n1, .inr (.inr (.inr (.inr g)))))) (e1 : xs = nI sp) (e2 : xd = nI dp) (e3 : xn = nI n) (b0 : n0 ≤ 100000) (b1 : n1 ≤ 100000) (h4 : sp + n ≤ n0) (h5 : dp + n ≤ n1) (hel : ∀ i : Nat, i < n → ∀ y : Nat, f (sp + i) = some y → ob_ok h y)
    (hf : 1 ≤ R.frames) (hlo : (rest.map fun v => v.category).sum + (nativeFrameWords "java/lang/System" "arraycopy" 5 + 11) ≤ R.locals) (hd : decode cc pc = .ok (.invokestatic index, 3))
    (kk : Wk p l e R s m args below meth c nL D HB Q (hp_up h a (.inl (D.1 102, n1, .inr (.inr (.inr (.inr (va_cpy f g sp dp n))))))) cells slots (pc + 3) lv rest) : Wk p l e R s m args below meth c nL D HB Q h cells slots pc lv (.int xn :: .int xd :: .ref a :: .int xs :: .ref a0 :: rest) := by
  intro H locs ls hP hS hl
  subst e1; subst e2; subst e3
  obtain ⟨q0, hq0⟩ := hP.at ha0
  obtain ⟨q1, hq1⟩ := hP.at ha1
  have c1 : (nI sp).toNatClampNeg = sp := nI_clamp (by omega)
  have c2 : (nI dp).toNatClampNeg = dp := nI_clamp (by omega)
  have c3 : (nI n).toNatClampNeg = n := nI_clamp (by omega)
  refine va_copyM (D := D) (E0 := "java/lang/Object") (E1 := "java/lang/Object") C.1 C.2.1 (C.2.2.1.trans hl.1.symm) C.ow (C.hts _ hk) (C.hts _ hnat) (C.hts _ hst) (C.hts _ hini) C.K hP.P hP.D hS q0 q1 2 2 hq0 hq1 rfl rfl (nI_pos (by omega)) (nI_pos (by omega)) (nI_pos (by omega)) (by rw [c1, c3]; exact h4) (by rw [c2, c3]; exact h5) ?_ hf hlo hd (fun H1 locs1 p1 d1 s1 => ?_)
  · intro i hi y hy
    rw [c3] at hi
    rw [c1] at hy
    obtain ⟨ci, fs, r, g1, g2, g3⟩ := hel i hi y hy
    exact va_rAny C.K (hP.one g1) (q0 := 0) rfl g2 (vb_asgC (va_Nw.of rfl (C.hts _ g3)))
  · rw [c1, c2, c3] at p1
    exact kk H1 locs1 ls (hP.set hq1 p1) s1 hl
theorem wk_getC (C : wk_C p s m args meth c cc own nL ret hh D HB) {a index : Nat} {x : vp_A} (ha : h a = some (.inl (D.1 102, x))) (hk : Cond.methodLink own index ⟨"java/lang/Object", "getClass", "()Ljava/lang/Class;"⟩ ∈ kw_L) (hdc : Cond.declares ⟨"java/lang/Object", "getClass", "()Ljava/lang/Class;"⟩ ∈ kw_L)
    (hsl : Cond.selects "[Ljava/lang/Object;" ⟨"java/lang/Object", "getClass", "()Ljava/lang/Class;"⟩ ⟨"java/lang/Object", "getClass", "()Ljava/lang/Class;"⟩ ∈ kw_L) (hin : Cond.instanceMethod ⟨"java/lang/Object", "getClass", "()Ljava/lang/Class;"⟩ ∈ kw_L) (hnt : Cond.native ⟨"java/lang/Object", "getClass", "()Ljava/lang/Class;"⟩ ∈ kw_L)
    (hf : 1 ≤ R.frames) (hlo : (rest.map fun v => v.category).sum + 14 ≤ R.locals) (hd : decode cc pc = .ok (.invokevirtual index, 3))
    (kk : Wk p l e R s m args below meth c nL D HB Q h cells slots (pc + 3) lv (.ref (D.2 201 0) :: rest)) : Wk p l e R s m args below meth c nL D HB Q h cells slots pc lv (.ref a :: rest) := by
  intro H locs ls hP hS hl
  have hc := (hP a _ ha).2
  refine va_getC (C := "[Ljava/lang/Object;") C.1 C.2.1 (C.2.2.1.trans hl.1.symm) C.ow (C.hts _ hk) (C.hts _ hdc) (C.hts _ hsl) (C.hts _ hin) (C.hts _ hnt) C.ev.2.2.2.2.2.2.2 ⟨vp_cell (D.1 102) x, hc, ?_, ?_⟩ hf hlo hd (kk H locs ls hP hS hl)
  · obtain ⟨n, f | f | f | f | f⟩ := x <;> rfl
  · rw [va_nmO (C := "java/lang/Object") (C.K.2 2 _ rfl).2 (by decide +kernel)]
    obtain ⟨n, f | f | f | f | f⟩ := x <;> rfl
theorem wk_ldcM (C : wk_C p s m args meth c cc own nL ret hh D HB) {index : Nat} (hk : Cond.classLink own index "[Ljava/lang/Object;" ∈ kw_L) (hd : decode cc pc = .ok (.ldc index, 2))
    (kk : Wk p l e R s m args below meth c nL D HB Q h cells slots (pc + 2) lv (.ref (D.2 201 0) :: rest)) : Wk p l e R s m args below meth c nL D HB Q h cells slots pc lv rest :=
  fun H locs ls hP hS hl => va_ldcM C.1 C.2.1 C.ow (C.hts _ hk) C.ev.2.2.2.2.2.2.2 hd (kk H locs ls hP hS hl)
end WG
theorem kg_dc : Cond.declares ⟨"java/lang/Object", "getClass", "()Ljava/lang/Class;"⟩ ∈ kw_L := kw_in 924 (by decide +kernel) (by decide +kernel)
theorem kg_sl : Cond.selects "[Ljava/lang/Object;" ⟨"java/lang/Object", "getClass", "()Ljava/lang/Class;"⟩ ⟨"java/lang/Object", "getClass", "()Ljava/lang/Class;"⟩ ∈ kw_L := kw_in 923 (by decide +kernel) (by decide +kernel)
theorem kg_in : Cond.instanceMethod ⟨"java/lang/Object", "getClass", "()Ljava/lang/Class;"⟩ ∈ kw_L := kw_in 330 (by decide +kernel) (by decide +kernel)
theorem kg_nt : Cond.native ⟨"java/lang/Object", "getClass", "()Ljava/lang/Class;"⟩ ∈ kw_L := kw_in 343 (by decide +kernel) (by decide +kernel)
theorem kg_lk : Cond.methodLink "java/util/Arrays" 86 ⟨"java/lang/Object", "getClass", "()Ljava/lang/Class;"⟩ ∈ kw_L := kw_in 329 (by decide +kernel) (by decide +kernel)
theorem kp_nt : Cond.native arraycopyName ∈ kw_L := kw_in 355 (by decide +kernel) (by decide +kernel)
theorem kp_st : Cond.static arraycopyName ∈ kw_L := kw_in 354 (by decide +kernel) (by decide +kernel)
theorem kp_AR : Cond.methodLink "java/util/Arrays" 150 arraycopyName ∈ kw_L := kw_in 353 (by decide +kernel) (by decide +kernel)
theorem kp_AL : Cond.methodLink "java/util/ArrayList" 112 arraycopyName ∈ kw_L := kw_in 547 (by decide +kernel) (by decide +kernel)
