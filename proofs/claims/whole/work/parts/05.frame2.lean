section WF
variable {p : Program} {l : Launch} {e : Env} {R : Room} {s : State} {m : MethodId} {args : Array Value} {below : List Frame} {meth : Method} {c : Code} {Q : State → Prop}
variable {cc : ByteArray} {own : String} {nL : Nat} {ret : Option FieldType} {hh : List (Nat × Nat × Nat × Nat)} {D : va_G} {HB : Heap}
variable {h : hp_T} {cells slots pc : Nat} {lv : List (Nat × Value)} {st rest : List Value} {post : ct_O → hp_T → Prop} {mc ms : Nat}
/-- the base, seen from the method's own start -/
theorem wk_seen (C : wk_C p s m args meth c cc own nL ret hh D HB) {T : State} {locs : List Loc} (X : Stand p l e R s m args below meth c T locs cells slots) {H : Heap} (hT : T.heap = H) (hS : va_S (hp_A HB) HB H locs) : va_S (hp_A HB) s.heap H locs := by
  refine ⟨by rw [← hT]; exact X.same.2.1, fun q h1 h2 => ?_, hS.2.2⟩
  have h3 : q < HB.size := Nat.not_le.mp h2
  rw [hS.2.1 q h3 h2, C.base.2.1 q h3 h2]
theorem wk_gets (C : wk_C p s m args meth c cc own nL ret hh D HB) {cN n d : String} {v : Value} {index : Nat} (hZ : va_Z cN n d v (hp_A HB) s HB) (hk : Cond.fieldLink own index cN n d ∈ kw_L) (hd : decode cc pc = .ok (.getstatic index, 3))
    (kk : Wk p l e R s m args below meth c nL D HB Q h cells slots (pc + 3) lv (v :: rest)) : Wk p l e R s m args below meth c nL D HB Q h cells slots pc lv rest := by
  intro H locs ls hP hS hl T hT X
  exact va_gets C.1 C.2.1 (hZ.kept (fun a h1 h2 => C.base.2.1 a h1 h2)) (wk_seen C X hT hS) C.ow (C.hts _ hk) (fun _ z => z) hd (kk H locs ls hP hS hl) T hT X
/-- 'throw new E("text")' -/
theorem wk_throw (C : wk_C p s m args meth c cc own nL ret [] D HB) (hlt : l.stackTraces = false) {E text : String} {names : List String} {ik is ic : Nat} (hE : Bundle.fit E = true) (hN : ∀ n ∈ names, Bundle.fit n = true) (hk : Cond.classLink own ik E ∈ kw_L) (hini : Cond.initialized E ∈ kw_L) (hstr : (own, is, text) ∈ st_L)
    (hat : ∀ w ∈ vx_atS own ic E names, w ∈ kw_L) (hg : (Cond.classLink own ik E :: Cond.initialized E :: vx_atS own ic E names).all vx_ot = true)
    (d0 : decode cc pc = .ok (.new ik, 3)) (d3 : decode cc (pc + 3) = .ok (.dup, 1)) (d4 : decode cc (pc + 4) = .ok (.ldc is, 2)) (d6 : decode cc (pc + 6) = .ok (.invokespecial ic, 3)) (d9 : decode cc (pc + 9) = .ok (.athrow, 1))
    (hf : names.length + 3 < R.frames) (hlo : (rest.map fun v => v.category).sum + (13 * (names.length + 1) + 43) ≤ R.locals) (hrc : cells + 1 ≤ R.cells) (hrs : slots + 6 ≤ R.slots) (hc : cells + 1 ≤ mc) (hs : slots + 6 ≤ ms) (hp : post (.inr E) h) :
    Wk p l e R s m args below meth c nL D HB (ct_Q below D HB post s mc ms) h cells slots pc lv rest := by
  intro H locs ls hP hS hl T hT X
  obtain ⟨e1, e2, e3, -⟩ := C.ev
  obtain ⟨sa, hsa⟩ := e3 _ hstr
  have htab : c.exceptionTable.toList = [] := List.map_eq_nil_iff.mp C.tab
  have kb : ∀ a : Nat, a < HB.size → ¬ hp_A HB a → s.heap[a]? = HB[a]? := fun a h1 h2 => C.base.2.1 a h1 h2
  obtain ⟨t, a1, o, b1, b2, b3⟩ := vx_throwS (Qc := fun _ _ _ _ => False) (XC := fun E' _ t => E' = E ∧ H.size ≤ t.heap.size ∧ ∀ q : Nat, q < H.size → t.heap[q]? = H[q]?) (free := fun q => HB.size ≤ q) (mc := mc) (ms := ms) C.1 C.2.1 hlt C.ow hE hN (C.hts _ hk) (C.hts _ hini) hsa (fun w hw => C.hts w (hat w hw)) (fun w hw => List.all_eq_true.mp hg w hw)
    (e1.kept kb) (e2.kept kb) (wk_seen C X hT hS) (hl.1.trans C.2.2.1.symm) d0 d3 d4 d6 d9 (by rw [htab]; intro y hy; cases hy) hf hlo hrc hrs C.locks (fun t _ h2 h3 => ⟨rfl, h2, h3⟩) hS.2.2 hc hs T hT X
  rcases b3 with ⟨b4, -⟩ | ⟨q, rfl, E', ce, L, ⟨rfl, x1, x2⟩, x3, x4, x5, x6, x7, x8⟩
  · exact b4.elim
  · refine ⟨t, a1, .threw q, b1, b2, ⟨E', ce, h, hp, fun a x hx => ⟨(hP a x hx).1, (hP a x hx).2.kept (x2 a (hP.lt hx))⟩, ⟨Nat.le_trans hS.1 x1, fun z h1 h2 => ?_, fun _ z => by cases z⟩, x3, x4, x5⟩, L, x6, x7, x8⟩
    rw [x2 z (Nat.lt_of_lt_of_le h1 hS.1)]
    exact hS.2.1 z h1 h2
/-- an exception that the method's own table takes -/
theorem wx_catch (C : wk_C p s m args meth c cc own nL ret hh D HB) {E name : String} {k a b hp2 ct : Nat} (hk : hh[k]? = some (a, b, hp2, ct)) (hin : a ≤ pc ∧ pc < b) (hct : ct ≠ 0) (hlink : Cond.classLink own ct name ∈ kw_L) (hcast : Cond.castable E name ∈ kw_L)
    (hpass : ∀ j, j < k → ∀ z : Nat × Nat × Nat × Nat, hh[j]? = some z → z.2.2.2 ≠ 0 ∧ ∃ nm : String, Cond.classLink own z.2.2.2 nm ∈ kw_L ∧ va_Nc E nm s)
    (kk : ∀ x : Nat, Wk p l e R s m args below meth c nL D HB Q h cells slots hp2 lv [.ref x]) : Wx p l e R s m args below meth c nL D HB Q h cells slots pc lv E := by
  intro x ce T locs ls st hx1 hx2 hx3 hP hS hl X
  have htab := C.tab
  have hlen : k < c.exceptionTable.toList.length := by
    rw [← htab, List.getElem?_map] at hk
    cases hz : c.exceptionTable.toList[k]? with
    | none => rw [hz] at hk; cases hk
    | some z => exact (List.getElem?_eq_some_iff.mp hz).1
  have hrow : ∀ (j : Nat) (y : ExceptionTableEntry), c.exceptionTable.toList[j]? = some y → hh[j]? = some (y.startPc, y.endPc, y.handlerPc, y.catchType) := by
    intro j y hy
    rw [← htab, List.getElem?_map, hy]
    rfl
  have hkk := hrow k _ (List.getElem?_eq_getElem hlen)
  rw [hk] at hkk
  have e0 := Option.some.inj hkk
  have e1 : a = (c.exceptionTable.toList[k]).startPc := congrArg (·.1) e0
  have e2 : b = (c.exceptionTable.toList[k]).endPc := congrArg (·.2.1) e0
  have e3 : hp2 = (c.exceptionTable.toList[k]).handlerPc := congrArg (·.2.2.1) e0
  have e4 : ct = (c.exceptionTable.toList[k]).catchType := congrArg (·.2.2.2) e0
  have hsplit : c.exceptionTable.toList = c.exceptionTable.toList.take k ++ c.exceptionTable.toList[k] :: c.exceptionTable.toList.drop (k + 1) := by
    rw [← List.drop_eq_getElem_cons hlen, List.take_append_drop]
  refine vx_catch (own := own) (name := name) (E := E) (ce := ce) (q := x) (H := T.heap) (locs := locs) (cells := cells) (slots := slots) C.ow _ _ _ hsplit ?_ ?_ (by rw [← e4]; exact hct) (by rw [← e4]; exact C.hts _ hlink) (C.hts _ hcast) hx1 hx2 hx3 ?_ T rfl X
  · intro z hz
    obtain ⟨j, hj⟩ := List.getElem?_of_mem hz
    have hjk : j < k := by
      have := (List.getElem?_eq_some_iff.mp hj).1
      rw [List.length_take] at this
      omega
    rw [List.getElem?_take_of_lt hjk] at hj
    obtain ⟨z1, nm, z2, z3⟩ := hpass j hjk _ (hrow j z hj)
    exact Or.inr ⟨z1, nm, C.hts _ z2, z3⟩
  · unfold covers
    rw [← e1, ← e2]
    simp [hin.1, hin.2]
  · rw [← e3]
    exact kk x T.heap locs ls hP hS hl
theorem wk_cast (C : wk_C p s m args meth c cc own nL ret hh D HB) {a ci index : Nat} {fs : List Value} {r : vw_C} (ha : h a = some (.inr (ci, fs))) (hr : vwCl[ci]? = some r) (hk : Cond.classLink own index r.1 ∈ kw_L) (hd : decode cc pc = .ok (.checkcast index, 3))
    (kk : Wk p l e R s m args below meth c nL D HB Q h cells slots (pc + 3) lv (.ref a :: rest)) : Wk p l e R s m args below meth c nL D HB Q h cells slots pc lv (.ref a :: rest) :=
  fun H locs ls hP hS hl => va_castS (cC := D.1 ci) C.1 C.2.1 C.ow (C.hts _ hk) (C.K.1 ci _ hr).2 (va_recv C.K (hP.one ha) hr (q0 := 0) rfl) hd (kk H locs ls hP hS hl)
theorem wk_obj (C : wk_C p s m args meth c cc own nL ret hh D HB) {a index : Nat} (hk : Cond.methodLink own index Lib.objectInit ∈ kw_L) (hi : Cond.instanceMethod Lib.objectInit ∈ kw_L) (hcd : Cond.code Lib.objectInit ⟨#[0xb1]⟩ 1 none ∈ kw_L) (hf : 1 ≤ R.frames) (hlo : (rest.map fun v => v.category).sum + 12 ≤ R.locals) (hd : decode cc pc = .ok (.invokespecial index, 3))
    (kk : Wk p l e R s m args below meth c nL D HB Q h cells slots (pc + 3) lv rest) : Wk p l e R s m args below meth c nL D HB Q h cells slots pc lv (.ref a :: rest) := by
  intro H locs ls hP hS hl
  refine W.objInit C.1 C.2.1 C.ow (C.hts _ hk) (C.hts _ hi) (C.hts _ hcd) rfl (hl.1.trans C.2.2.1.symm) rfl hd hf (by show 2 * 0 + _ + 12 ≤ _; rw [Nat.mul_zero, Nat.zero_add]; exact hlo) ?_
  exact kk H locs ls hP hS hl
theorem wk_aald (C : wk_C p s m args meth c cc own nL ret hh D HB) {a n y : Nat} {f : Nat → Option Nat} {i : Int32} (ha : h a = some (.inl (D.1 102, n, .inr (.inr (.inr (.inr f)))))) (hi : vp_in i n) (hy : f i.toNatClampNeg = some y) (hd : decode cc pc = .ok (.aaload, 1))
    (kk : Wk p l e R s m args below meth c nL D HB Q h cells slots (pc + 1) lv (.ref y :: rest)) : Wk p l e R s m args below meth c nL D HB Q h cells slots pc lv (.int i :: .ref a :: rest) := by
  intro H locs ls hP hS hl
  refine va_aldq (D := D) C.1 C.2.1 C.K (hP.one ha) 0 2 rfl rfl hi hd ?_
  rw [hy]
  exact kk H locs ls hP hS hl
theorem wk_aast (C : wk_C p s m args meth c cc own nL ret hh D HB) {a n y ci : Nat} {f : Nat → Option Nat} {i : Int32} {fs : List Value} {r : vw_C} (ha : h a = some (.inl (D.1 102, n, .inr (.inr (.inr (.inr f)))))) (hi : vp_in i n) (hy : h y = some (.inr (ci, fs))) (hr : vwCl[ci]? = some r) (hk : Cond.castable r.1 "java/lang/Object" ∈ kw_L) (hd : decode cc pc = .ok (.aastore, 1))
    (kk : Wk p l e R s m args below meth c nL D HB Q (hp_up h a (.inl (D.1 102, n, .inr (.inr (.inr (.inr (va_up f i.toNatClampNeg (some y)))))))) cells slots (pc + 1) lv rest) : Wk p l e R s m args below meth c nL D HB Q h cells slots pc lv (.ref y :: .int i :: .ref a :: rest) := by
  intro H locs ls hP hS hl
  obtain ⟨q0, hq⟩ := hP.at ha
  obtain ⟨q1, hq1⟩ := hP.at hy
  exact va_astqO (D := D) (E := "java/lang/Object") C.1 C.2.1 C.K hP.P hP.D hS q0 2 q1 ci hq rfl (va_Nw.of rfl (C.hts _ hk)) hq1 hr hi hd (fun H1 locs1 p1 d1 s1 => kk H1 locs1 ls (hP.set hq p1) s1 hl)
theorem wk_aastN (C : wk_C p s m args meth c cc own nL ret hh D HB) {a n : Nat} {f : Nat → Option Nat} {i : Int32} (ha : h a = some (.inl (D.1 102, n, .inr (.inr (.inr (.inr f)))))) (hi : vp_in i n) (hd : decode cc pc = .ok (.aastore, 1))
    (kk : Wk p l e R s m args below meth c nL D HB Q (hp_up h a (.inl (D.1 102, n, .inr (.inr (.inr (.inr (va_up f i.toNatClampNeg none))))))) cells slots (pc + 1) lv rest) : Wk p l e R s m args below meth c nL D HB Q h cells slots pc lv (.null :: .int i :: .ref a :: rest) := by
  intro H locs ls hP hS hl
  obtain ⟨q0, hq⟩ := hP.at ha
  exact va_astqN (D := D) C.1 C.2.1 C.K hP.P hP.D hS q0 2 hq rfl hi hd (fun H1 locs1 p1 d1 s1 => kk H1 locs1 ls (hP.set hq p1) s1 hl)
theorem wk_alen (C : wk_C p s m args meth c cc own nL ret hh D HB) {a t0 : Nat} {cA : ClassId} {x : vp_A} {ty : FieldType} (ha : h a = some (.inl (cA, x))) (ht : (ty_L D)[t0]? = some (cA, ty)) (hd : decode cc pc = .ok (.arraylength, 1))
    (kk : Wk p l e R s m args below meth c nL D HB Q h cells slots (pc + 1) lv (.int (nI x.1) :: rest)) : Wk p l e R s m args below meth c nL D HB Q h cells slots pc lv (.ref a :: rest) :=
  fun H locs ls hP hS hl => va_alen (D := D) C.1 C.2.1 C.K (hP.one ha) 0 t0 rfl ht rfl hd (kk H locs ls hP hS hl)
theorem wk_zald (C : wk_C p s m args meth c cc own nL ret hh D HB) {a n : Nat} {f : Nat → Int32} {i : Int32} (ha : h a = some (.inl (D.1 103, n, .inl f))) (hi : vp_in i n) (hd : decode cc pc = .ok (.baload, 1))
    (kk : Wk p l e R s m args below meth c nL D HB Q h cells slots (pc + 1) lv (.int (f i.toNatClampNeg) :: rest)) : Wk p l e R s m args below meth c nL D HB Q h cells slots pc lv (.int i :: .ref a :: rest) :=
  fun H locs ls hP hS hl => va_zald (D := D) C.1 C.2.1 C.K (hP.one ha) 0 3 rfl rfl hi hd (kk H locs ls hP hS hl)
theorem wk_zast (C : wk_C p s m args meth c cc own nL ret hh D HB) {a n : Nat} {f : Nat → Int32} {i x : Int32} (ha : h a = some (.inl (D.1 103, n, .inl f))) (hi : vp_in i n) (hx : vp_nar .boolean x = x) (hd : decode cc pc = .ok (.bastore, 1))
    (kk : Wk p l e R s m args below meth c nL D HB Q (hp_up h a (.inl (D.1 103, n, .inl (upd f i.toNatClampNeg x)))) cells slots (pc + 1) lv rest) : Wk p l e R s m args below meth c nL D HB Q h cells slots pc lv (.int x :: .int i :: .ref a :: rest) := by
  intro H locs ls hP hS hl
  obtain ⟨q0, hq⟩ := hP.at ha
  refine va_zast (D := D) C.1 C.2.1 C.K hP.P hP.D hS q0 3 hq rfl hi hd (fun H1 locs1 p1 d1 s1 => ?_)
  rw [hx] at p1
  exact kk H1 locs1 ls (hP.set hq p1) s1 hl
/-- the class of an array, by its component's type -/
theorem wk_arr (C : wk_C p s m args meth c cc own nL ret hh D HB) {t0 : Nat} {cA cB : ClassId} {ty : FieldType} (ht : (ty_L D)[t0]? = some (cA, ty)) (hK : va_K D vwCl (ty_L D ++ [(cB, ty)]) s) : cB = cA := by
  have h1 := (C.K.2 t0 _ ht).2
  have h2 := (hK.2 (ty_L D).length (cB, ty) (by simp)).2
  cases ty <;> first | exact Option.some.inj (h2.symm.trans h1) | (obtain ⟨_, _, _, _, _, e1⟩ := h1; obtain ⟨_, _, _, _, _, e2⟩ := h2; exact Option.some.inj (e2.symm.trans e1))
theorem wk_newi (C : wk_C p s m args meth c cc own nL ret hh D HB) {n : Int32} {N : Nat} (hw : Cond.arrayClass .int ∈ kw_L) (hn : n = nI N) (hN : N ≤ 100000) (hc : cells + 1 ≤ R.cells) (hs : slots + N ≤ R.slots) (hd : decode cc pc = .ok (.newarray .int, 2))
    (kk : ∀ q : Nat, h q = none → Wk p l e R s m args below meth c nL D HB Q (hp_up h q (.inl (D.1 100, N, .inl (fun _ => 0)))) (cells + 1) (slots + N) (pc + 2) lv (.ref q :: rest)) : Wk p l e R s m args below meth c nL D HB Q h cells slots pc lv (.int n :: rest) := by
  intro H locs ls hP hS hl
  subst hn
  refine va_newa (D := D) (atype := .int) (ty := .int) (a0 := (N, .inl (fun _ => 0))) C.1 C.2.1 (C.hts _ hw) rfl C.K hP.P hP.D hS (fun q z => z) (fun _ => rfl) (nI_pos (by omega)) (nI_clamp (by omega)) (by show N * 4 ≤ _; omega) hc hs hd (fun q cA H1 k1 p1 d1 s1 => ?_)
  have e1 := wk_arr C (t0 := 0) rfl k1
  subst e1
  obtain ⟨p2, hn⟩ := hP.new p1 d1
  exact kk q hn H1 locs ls p2 s1 hl
theorem wk_newl (C : wk_C p s m args meth c cc own nL ret hh D HB) {n : Int32} {N : Nat} (hw : Cond.arrayClass .long ∈ kw_L) (hn : n = nI N) (hN : N ≤ 100000) (hc : cells + 1 ≤ R.cells) (hs : slots + N ≤ R.slots) (hd : decode cc pc = .ok (.newarray .long, 2))
    (kk : ∀ q : Nat, h q = none → Wk p l e R s m args below meth c nL D HB Q (hp_up h q (.inl (D.1 101, N, .inr (.inl (fun _ => 0))))) (cells + 1) (slots + N) (pc + 2) lv (.ref q :: rest)) : Wk p l e R s m args below meth c nL D HB Q h cells slots pc lv (.int n :: rest) := by
  intro H locs ls hP hS hl
  subst hn
  refine va_newa (D := D) (atype := .long) (ty := .long) (a0 := (N, .inr (.inl (fun _ => 0)))) C.1 C.2.1 (C.hts _ hw) rfl C.K hP.P hP.D hS (fun q z => z) (fun _ => rfl) (nI_pos (by omega)) (nI_clamp (by omega)) (by show N * 8 ≤ _; omega) hc hs hd (fun q cA H1 k1 p1 d1 s1 => ?_)
  have e1 := wk_arr C (t0 := 1) rfl k1
  subst e1
  obtain ⟨p2, hn⟩ := hP.new p1 d1
  exact kk q hn H1 locs ls p2 s1 hl
theorem wk_newz (C : wk_C p s m args meth c cc own nL ret hh D HB) {n : Int32} {N : Nat} (hw : Cond.arrayClass .boolean ∈ kw_L) (hn : n = nI N) (hN : N ≤ 100000) (hc : cells + 1 ≤ R.cells) (hs : slots + N ≤ R.slots) (hd : decode cc pc = .ok (.newarray .boolean, 2))
    (kk : ∀ q : Nat, h q = none → Wk p l e R s m args below meth c nL D HB Q (hp_up h q (.inl (D.1 103, N, .inl (fun _ => 0)))) (cells + 1) (slots + N) (pc + 2) lv (.ref q :: rest)) : Wk p l e R s m args below meth c nL D HB Q h cells slots pc lv (.int n :: rest) := by
  intro H locs ls hP hS hl
  subst hn
  refine va_newa (D := D) (atype := .boolean) (ty := .boolean) (a0 := (N, .inl (fun _ => 0))) C.1 C.2.1 (C.hts _ hw) rfl C.K hP.P hP.D hS (fun q z => z) (fun _ => rfl) (nI_pos (by omega)) (nI_clamp (by omega)) (by show N * 1 ≤ _; omega) hc hs hd (fun q cA H1 k1 p1 d1 s1 => ?_)
  have e1 := wk_arr C (t0 := 3) rfl k1
  subst e1
  obtain ⟨p2, hn⟩ := hP.new p1 d1
  exact kk q hn H1 locs ls p2 s1 hl
theorem wk_ldc (C : wk_C p s m args meth c cc own nL ret hh D HB) {index : Nat} {v : Int32} (hk : Cond.constant own index v ∈ kw_L) (hd : decode cc pc = .ok (.ldc index, 2)) (kk : Wk p l e R s m args below meth c nL D HB Q h cells slots (pc + 2) lv (.int v :: rest)) : Wk p l e R s m args below meth c nL D HB Q h cells slots pc lv rest :=
  fun H locs ls hP hS hl => lv_ldc C.1 C.2.1 C.ow (C.hts _ hk) hd (kk H locs ls hP hS hl)
theorem wk_ldc2 (C : wk_C p s m args meth c cc own nL ret hh D HB) {index : Nat} {v : Int64} (hk : Cond.constantLong own index v ∈ kw_L) (hd : decode cc pc = .ok (.ldc2_w index, 3)) (kk : Wk p l e R s m args below meth c nL D HB Q h cells slots (pc + 3) lv (.long v :: rest)) : Wk p l e R s m args below meth c nL D HB Q h cells slots pc lv rest :=
  fun H locs ls hP hS hl => lv_ldc2 C.1 C.2.1 C.ow (C.hts _ hk) hd (kk H locs ls hP hS hl)
theorem wk_lcmp (C : wk_C p s m args meth c cc own nL ret hh D HB) {x y : Int64} (hd : decode cc pc = .ok (.lcmp, 1)) (kk : Wk p l e R s m args below meth c nL D HB Q h cells slots (pc + 1) lv (.int (lg_cmp x y) :: rest)) : Wk p l e R s m args below meth c nL D HB Q h cells slots pc lv (.long y :: .long x :: rest) :=
  fun H locs ls hP hS hl => W.lcmp C.1 C.2.1 hd (kk H locs ls hP hS hl)
theorem wk_tabO (C : wk_C p s m args meth c cc own nL ret hh D HB) {dflt lo hi : Int} {offs : Array Int} {len : Nat} {x : Int32} {tgt : Nat} (hd : decode cc pc = .ok (.tableswitch dflt lo hi offs, len)) (hx : x.toInt < lo ∨ hi < x.toInt) (ht : (pc : Int) + dflt = (tgt : Int)) (kk : Wk p l e R s m args below meth c nL D HB Q h cells slots tgt lv rest) : Wk p l e R s m args below meth c nL D HB Q h cells slots pc lv (.int x :: rest) :=
  fun H locs ls hP hS hl => lv_tableOut C.1 C.2.1 hd hx ht (kk H locs ls hP hS hl)
theorem wk_tabI (C : wk_C p s m args meth c cc own nL ret hh D HB) {dflt lo hi : Int} {offs : Array Int} {len : Nat} {x : Int32} {off : Int} {tgt : Nat} (hd : decode cc pc = .ok (.tableswitch dflt lo hi offs, len)) (h1 : ¬ x.toInt < lo) (h2 : ¬ hi < x.toInt) (ho : offs[(x.toInt - lo).toNat]? = some off) (ht : (pc : Int) + off = (tgt : Int)) (kk : Wk p l e R s m args below meth c nL D HB Q h cells slots tgt lv rest) : Wk p l e R s m args below meth c nL D HB Q h cells slots pc lv (.int x :: rest) :=
  fun H locs ls hP hS hl => lv_tableIn C.1 C.2.1 hd h1 h2 ho ht (kk H locs ls hP hS hl)
theorem wk_lsw (C : wk_C p s m args meth c cc own nL ret hh D HB) {dflt : Int} {ps : Array (Int × Int)} {len : Nat} {x : Int32} {off : Int} {tgt : Nat} (hd : decode cc pc = .ok (.lookupswitch dflt ps, len)) (hp : (ps.toList.zip (ps.toList.drop 1)).all (fun (a, next) => a.1 < next.1) = true) (ho : Op.lookupswitch.offset ps.toList dflt x.toInt = off) (ht : (pc : Int) + off = (tgt : Int)) (kk : Wk p l e R s m args below meth c nL D HB Q h cells slots tgt lv rest) : Wk p l e R s m args below meth c nL D HB Q h cells slots pc lv (.int x :: rest) :=
  fun H locs ls hP hS hl => lv_lookup C.1 C.2.1 hd hp ho ht (kk H locs ls hP hS hl)
/-- what comes off the stack gets a name -/
theorem wk_top {x : Int32} (k : ∀ y : Int32, y = x → Wk p l e R s m args below meth c nL D HB Q h cells slots pc lv (.int y :: rest)) : Wk p l e R s m args below meth c nL D HB Q h cells slots pc lv (.int x :: rest) := k x rfl
end WF
