/-! THE CLAIM OUT OF ONE WALK OF THE LAW'S BODY. Your part is whole_start (and what it stands on); all else here is the same for every law, but numbers. -/
def R_law : String := "ProfileRightsLaw"
def lw_P (b : Addr) (xs : List Int32) (args : Array Value) (s : State) : Prop := args = #[.ref b] ∧ s.IntsAt b xs ∧ xs.length ≤ 3072 ∧ (Jvm.Cond.and given_1 narrow_1).before args s = true
def lw_Q (_ : Array Value) (s : State) (o : Outcome) (t : State) : Prop := o = .returned (some (.int 1)) ∧ Framed s o t [] 601024 7293034
def lw_Z (below : List Frame) (a : Array Value) (s : State) : State → Prop := fun t => ∃ o, t.status = .running ∧ Ended t below o ∧ lw_Q a s o t
/-- the law's own end, with 1 on the stack, nothing written that was there before, its room as the claim has it -/
theorem lw_ret {p : Program} {l : Launch} {e : Env} {s : State} {m : MethodId} {below : List Frame} {meth : Method} {c : Code} {b : Nat} (hx : p.tables.exec = Jvm.exec) (hb : c.code = code) (hr : meth.sig.returnType = ret) (hlocks : meth.locks = false) {pc : Nat} {H : Heap} {ls : Array Slot} (hdg : decode code pc = .ok (.ireturn, 1)) : W p l e room_1 s m #[Value.ref b] below meth c H [] 601024 7293034 (lw_Z below #[Value.ref b] s) (F0 m pc ls [.int 1]) := by
  intro T hT X
  obtain ⟨fs, hret, hrun, hended, hW, hframe⟩ := X.leave (v := some (.int 1)) (hlocks := hlocks) (fun h => by rw [hr] at h; cases h)
  have hmeth' : T.vm.method? m = some meth := X.method'
  refine ⟨T.setFrames fs, ?_, .returned (some (.int 1)), hrun, hended, rfl, ⟨_, rfl⟩, hW, hframe⟩
  jvm_step X.here [X.here.top, hx, hb, hdg, hmeth', hr, ret, narrow_b1]
  (try refine ⟨rfl, ?_⟩); (try refine ⟨rfl, ?_⟩)
  first | (intro acts; rw [hret _ acts rfl rfl rfl]) | rw [hret _ _ rfl rfl rfl]
  exact Steps.refl _
/-- what holds at the law's entry: the machine, the code, the tables' words (any of lw_tbl by 'hts w (by decide +kernel)'), the script of L ints xs at the cell b, what the Statement gives of the start (any of its parts by flat_of_before) -/
def lw_At (p : Program) (s : State) (m : MethodId) (meth : Method) (c : Code) (b L : Nat) (xs : Nat → Int32) : Prop :=
  p.tables.exec = Jvm.exec ∧ c.code = code ∧ meth.sig.returnType = ret ∧ c.maxLocals = 7 ∧ s.vm.findClass R_law = some m.cls ∧ (∀ w ∈ lw_tbl, w.before #[Value.ref b] s = true) ∧ va_X b L xs s s.heap ∧ b < s.heap.size ∧ meth.locks = false ∧ (Jvm.Cond.and given_1 narrow_1).before #[Value.ref b] s = true
theorem st_in : ∀ q ∈ st_L, Cond.stringRef q.1 q.2.1 q.2.2 ∈ tables_1 := List.forall_mem_cons.mpr ⟨List.mem_of_getElem? (i := 241) (by decide +kernel), List.forall_mem_cons.mpr ⟨List.mem_of_getElem? (i := 278) (by decide +kernel), List.forall_mem_cons.mpr ⟨List.mem_of_getElem? (i := 375) (by decide +kernel), List.forall_mem_cons.mpr ⟨List.mem_of_getElem? (i := 417) (by decide +kernel), List.forall_mem_cons.mpr ⟨List.mem_of_getElem? (i := 421) (by decide +kernel), List.forall_mem_cons.mpr ⟨List.mem_of_getElem? (i := 446) (by decide +kernel), List.forall_mem_cons.mpr ⟨List.mem_of_getElem? (i := 447) (by decide +kernel), List.forall_mem_cons.mpr ⟨List.mem_of_getElem? (i := 455) (by decide +kernel), List.forall_mem_cons.mpr ⟨List.mem_of_getElem? (i := 501) (by decide +kernel), List.forall_mem_cons.mpr ⟨List.mem_of_getElem? (i := 502) (by decide +kernel), List.forall_mem_cons.mpr ⟨List.mem_of_getElem? (i := 504) (by decide +kernel), List.forall_mem_cons.mpr ⟨List.mem_of_getElem? (i := 515) (by decide +kernel), List.forall_mem_cons.mpr ⟨List.mem_of_getElem? (i := 516) (by decide +kernel), List.forall_mem_cons.mpr ⟨List.mem_of_getElem? (i := 552) (by decide +kernel), List.forall_mem_cons.mpr ⟨List.mem_of_getElem? (i := 594) (by decide +kernel), fun _ h => absurd h List.not_mem_nil⟩⟩⟩⟩⟩⟩⟩⟩⟩⟩⟩⟩⟩⟩⟩
theorem st_pr : ∀ q ∈ st_L, q.1 = "ProfileRights" := by decide
theorem aj_ {s : State} {ty : FieldType} {args : Array Value} (h : (Cond.arrayClass ty).before args s = true) : ∃ cA : ClassId, ArrOfT s cA ty ∧ s.vm.findClass ("[" ++ ty.toString) = some cA := by
  obtain ⟨cA, kA, comp, h1, h2, h3⟩ := Cond.arrayClass_spec h
  exact ⟨cA, fun n z => ⟨fun k h => (by cases h), kA, h2, comp, h3⟩, h1⟩
theorem ao_ {s : State} {args : Array Value} (h : (Cond.arrayOver (.object "java/lang/Object")).before args s = true) : ∃ cA : ClassId, ArrOfT s cA (.object "java/lang/Object") ∧ va_RA s cA (.object "java/lang/Object") := by
  obtain ⟨comp, cA, kA, h1, -, h2, h3, h4⟩ := Cond.arrayOver_spec h
  exact ⟨cA, fun n z => ⟨fun k h => (by cases h), kA, h2, comp, h3⟩, kA, comp, h2, h3, h1, h4⟩
/-- the machine at the law's entry: the classes, the arrays, the statics and the constants -/
theorem lw_world {s : State} {b : Nat} (hts : ∀ w ∈ lw_tbl, w.before #[Value.ref b] s = true) (hgv : (Jvm.Cond.and given_1 narrow_1).before #[Value.ref b] s = true) : ∃ D : va_G, va_K D vwCl (ty_L D) s ∧ ev_S D s.heap s := by
  have hk := kw_hts hts
  have hg := flat_of_before _ hgv
  have hA : ∀ a : Nat, a < s.heap.size → ¬ hp_A s.heap a := fun a h1 h2 => Nat.not_lt.mpr h2 h1
  obtain ⟨c0, i0, q0⟩ := u_known (C := "ProfileRights") (T := T_PR) (N := 7) hk i_PR (hk _ kn_PR)
  obtain ⟨c1, i1, q1⟩ := u_known (C := "ProfileRights$Group") (T := T_GR) (N := 2) hk i_GR (hk _ kn_GR)
  obtain ⟨c2, i2, q2⟩ := u_known (C := "ProfileRights$User") (T := T_US) (N := 6) hk i_US (hk _ kn_US)
  obtain ⟨c3, i3, q3⟩ := u_known (C := "ProfileRights$Name") (T := T_NM) (N := 4) hk i_NM (hk _ kn_NM)
  obtain ⟨c4, i4, q4⟩ := u_known (C := "ProfileRights$Entry") (T := T_EN) (N := 4) hk i_EN (hk _ kn_EN)
  obtain ⟨c5, i5, q5⟩ := u_known (C := "ProfileRights$Profile") (T := T_PF) (N := 6) hk i_PF (hk _ kn_PF)
  obtain ⟨c6, i6, q6⟩ := u_known (C := "ProfileRights$Trail") (T := T_TR) (N := 3) hk i_TR (hk _ kn_TR)
  obtain ⟨c7, i7, q7⟩ := u_known (C := "java/util/ArrayList") (T := T_AL) (N := 3) hk i_AL (hk _ kn_AL)
  obtain ⟨c8, i8, q8⟩ := u_known (C := "ProfileRightsModel") (T := T_MD) (N := 27) hk i_MD (hk _ kn_MD)
  obtain ⟨a0, x0, y0⟩ := aj_ (hk _ ka_int)
  obtain ⟨a1, x1, y1⟩ := aj_ (hk _ ka_long)
  obtain ⟨a2, x2, y2⟩ := ao_ (s := s) (hts _ (List.mem_append_right _ (List.mem_of_getElem? (i := 348) (by decide +kernel))))
  obtain ⟨a3, x3, y3⟩ := aj_ (hk _ ka_boolean)
  obtain ⟨mi, hmi⟩ := va_Mi.of (C := "[Ljava/lang/Object;") (hg _ (by decide +kernel))
  have hlen : (Term.length (.static "java/util/ArrayList" "DEFAULTCAPACITY_EMPTY_ELEMENTDATA" "[Ljava/lang/Object;")).eval #[Value.ref b] s none [] s = some (.int (Int32.ofNat 0)) := Cond.eq_int (b := .int 0) (hg (Cond.eq (.length (.static "java/util/ArrayList" "DEFAULTCAPACITY_EMPTY_ELEMENTDATA" "[Ljava/lang/Object;")) (.int 0)) (by decide +kernel)) rfl
  obtain ⟨tE, ht1, ht2⟩ := va_Tof (ty := .object "java/lang/Object") (N := 0) (f := fun _ => .null) (by decide) (hg (Cond.arrayOf (.static "java/util/ArrayList" "DEFAULTCAPACITY_EMPTY_ELEMENTDATA" "[Ljava/lang/Object;") (.object "java/lang/Object")) (by decide +kernel)) hlen (fun j hj => absurd hj (Nat.not_lt_zero j)) hA
  refine ⟨((fun c => match c with | 0 => c0 | 1 => c1 | 2 => c2 | 3 => c3 | 4 => c4 | 5 => c5 | 6 => c6 | 7 => c7 | 8 => c8 | 100 => a0 | 101 => a1 | 102 => a2 | 103 => a3 | _ => a0), (fun c => match c with | 0 => i0 | 1 => i1 | 2 => i2 | 3 => i3 | 4 => i4 | 5 => i5 | 6 => i6 | 7 => i7 | 8 => i8 | 200 => (fun _ => tE) | 201 => (fun _ => mi) | _ => (fun _ => 0))), ⟨?_, ?_⟩, ?_⟩
  · intro c q hq
    have hc : c < 9 := (List.getElem?_eq_some_iff.mp hq).1
    have : c = 0 ∨ c = 1 ∨ c = 2 ∨ c = 3 ∨ c = 4 ∨ c = 5 ∨ c = 6 ∨ c = 7 ∨ c = 8 := by omega
    rcases this with rfl | rfl | rfl | rfl | rfl | rfl | rfl | rfl | rfl
    · obtain rfl : (("ProfileRights", T_PR, 7) : vw_C) = q := Option.some.inj hq
      exact q0
    · obtain rfl : (("ProfileRights$Group", T_GR, 2) : vw_C) = q := Option.some.inj hq
      exact q1
    · obtain rfl : (("ProfileRights$User", T_US, 6) : vw_C) = q := Option.some.inj hq
      exact q2
    · obtain rfl : (("ProfileRights$Name", T_NM, 4) : vw_C) = q := Option.some.inj hq
      exact q3
    · obtain rfl : (("ProfileRights$Entry", T_EN, 4) : vw_C) = q := Option.some.inj hq
      exact q4
    · obtain rfl : (("ProfileRights$Profile", T_PF, 6) : vw_C) = q := Option.some.inj hq
      exact q5
    · obtain rfl : (("ProfileRights$Trail", T_TR, 3) : vw_C) = q := Option.some.inj hq
      exact q6
    · obtain rfl : (("java/util/ArrayList", T_AL, 3) : vw_C) = q := Option.some.inj hq
      exact q7
    · obtain rfl : (("ProfileRightsModel", T_MD, 27) : vw_C) = q := Option.some.inj hq
      exact q8
  · intro k q hq
    have hc : k < 4 := (List.getElem?_eq_some_iff.mp hq).1
    have : k = 0 ∨ k = 1 ∨ k = 2 ∨ k = 3 := by omega
    rcases this with rfl | rfl | rfl | rfl
    · obtain rfl := Option.some.inj hq
      exact ⟨x0, y0⟩
    · obtain rfl := Option.some.inj hq
      exact ⟨x1, y1⟩
    · obtain rfl := Option.some.inj hq
      exact ⟨x2, y2⟩
    · obtain rfl := Option.some.inj hq
      exact ⟨x3, y3⟩
  · refine ⟨vx_Zqof (hts _ (List.mem_append_right _ (List.mem_of_getElem? (i := 228) (by decide +kernel)))) (hts _ (List.mem_append_right _ (List.mem_of_getElem? (i := 8) (by decide +kernel)))) (hg _ (by decide +kernel)) hA, vx_Zqof (hts _ (List.mem_append_right _ (List.mem_of_getElem? (i := 230) (by decide +kernel)))) (hts _ (List.mem_append_right _ (List.mem_of_getElem? (i := 8) (by decide +kernel)))) (hg _ (by decide +kernel)) hA, fun q hq => ?_, va_Nc.of (hg _ (by decide +kernel)), va_Zof (hts _ (List.mem_append_right _ (List.mem_of_getElem? (i := 44) (by decide +kernel)))) (hts _ (List.mem_append_right _ (List.mem_of_getElem? (i := 4) (by decide +kernel)))) ht1 hA, ht2, va_AO.of (hts _ (List.mem_append_right _ (List.mem_of_getElem? (i := 348) (by decide +kernel)))), hmi⟩
    have h1 := hts _ (List.mem_append_right _ (st_in q hq))
    have h2 := st_pr q hq
    obtain ⟨-, -, -, sa, -, -, -, -, -, hev⟩ := Cond.stringRef_spec (by rw [h2]; exact q0.2.1) h1
    exact ⟨sa, vk_R.of h1 hev⟩
theorem d_law_1478 : decode code 1478 = .ok (.ireturn, 1) := by decide +kernel
theorem whole_start {p : Program} {e : Env} {s : State} {m : MethodId} {below : List Frame} {meth : Method} {c : Code} (l : Launch) (hlt : l.stackTraces = false) {b L : Nat} {xs : Nat → Int32} (hL : L ≤ 3072) (C0 : lw_At p s m meth c b L xs) : W p l e room_1 s m #[Value.ref b] below meth c s.heap [] 0 0 (lw_Z below #[Value.ref b] s) (entryFrame m ([Value.ref b] : List Value).toArray 7) := by
  obtain ⟨hx, hb, hr, hml, hown, hts, hX, hbl, hlocks, hgv⟩ := C0
  obtain ⟨D, hK, hE⟩ := lw_world hts hgv
  have hA : ∀ a : Nat, a < s.heap.size → ¬ hp_A s.heap a := fun a h1 h2 => Nat.not_lt.mpr h2 h1
  have hS0 : va_S (hp_A s.heap) s.heap s.heap [] := ⟨Nat.le_refl _, fun _ _ _ => rfl, fun _ z => by cases z⟩
  have C : wk_C p s m #[Value.ref b] meth c code "ProfileRightsLaw" 7 ret (c.exceptionTable.toList.map (fun x => (x.startPc, x.endPc, x.handlerPc, x.catchType))) D s.heap := ⟨hx, hb, hml, hown, kw_hts hts, hr, hlocks, hK, rfl, hS0, hE⟩
  have hZ : va_T .int b L (fun j => .int (xs j)) (hp_A s.heap) s s.heap := by
    obtain ⟨scr, h1, h2, h3, h4, h5⟩ := hX
    exact ⟨scr, h1, h2, h3, by omega, by rw [h4], h5, hA b hbl⟩
  have fin : ∀ (h2 : hp_T) (cells slots : Nat) (lv : List (Nat × Value)), cells ≤ 601024 → slots ≤ 7293034 → Wk p l e room_1 s m #[Value.ref b] below meth c 7 D s.heap (lw_Z below #[Value.ref b] s) h2 cells slots 1478 lv [.int 1] := by
    intro h2 cells slots lv h1 h3 H locs ls hP hS hl
    exact va_forget hS.2.2 (W.widen h1 h3 (lw_ret hx hb hr hlocks d_law_1478))
  have hl := lv_entry [Value.ref b] (n := 7) (Nat.le_of_ble_eq_true rfl)
  rw [show lv_args 0 [Value.ref b] = [(0, Value.ref b)] from rfl] at hl
  have K := lw_main C hlt hZ hL fin s.heap [] _ (fun a x hx => nomatch hx) hS0 hl
  rw [← lg_entry_eq (m := m)] at K
  exact K
