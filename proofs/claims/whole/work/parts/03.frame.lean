/-! THE WALK'S OWN WORDS: a functional heap, one judgement for all states of a walk, pure runs by a step function. -/
/-- what is known of each address -/
abbrev hp_T : Type := Nat → Option va_E
def hp_up (h : hp_T) (a : Nat) (x : va_E) : hp_T := fun q => if q = a then some x else h q
theorem hp_us {h : hp_T} {a : Nat} {x : va_E} : hp_up h a x a = some x := if_pos rfl
theorem hp_un {h : hp_T} {a q : Nat} {x : va_E} (n : q ≠ a) : hp_up h a x q = h q := if_neg n
/-- the heap holds what h says, all of it behind the base heap -/
def hp_P (D : va_G) (HB : Heap) (h : hp_T) (H : Heap) : Prop := ∀ (a : Nat) (x : va_E), h a = some x → HB.size ≤ a ∧ va_at D vwCl (a, x) H
def hp_A (HB : Heap) : Nat → Prop := fun q => HB.size ≤ q
theorem hp_P.lt {D : va_G} {HB : Heap} {h : hp_T} {H : Heap} (hP : hp_P D HB h H) {a : Nat} {x : va_E} (e : h a = some x) : a < H.size := (hP a x e).2.lt
theorem hp_P.fresh {D : va_G} {HB : Heap} {h : hp_T} {H : Heap} (hP : hp_P D HB h H) {a : Nat} (e : H.size ≤ a) : h a = none := by
  cases hx : h a with
  | none => rfl
  | some x => exact absurd (hP.lt hx) (Nat.not_lt.mpr e)
theorem hp_P.one {D : va_G} {HB : Heap} {h : hp_T} {H : Heap} (hP : hp_P D HB h H) {a : Nat} {x : va_E} (e : h a = some x) : va_P D vwCl [(a, x)] H := by
  intro k q hk
  match k, hk with
  | 0, hk => cases hk; exact (hP a x e).2
  | k + 1, hk => simp at hk
/-- the functional heap as a list of cells -/
def hp_L (h : hp_T) (n : Nat) : va_W := (List.range n).filterMap (fun a => (h a).map (fun x => (a, x)))
theorem hp_L_mem {h : hp_T} {n : Nat} {q : Nat × va_E} (hq : q ∈ hp_L h n) : h q.1 = some q.2 := by
  obtain ⟨a, -, ha⟩ := List.mem_filterMap.mp hq
  cases hx : h a with
  | none => rw [hx] at ha; cases ha
  | some x => rw [hx] at ha; cases ha; exact hx
theorem hp_L_in {h : hp_T} {n a : Nat} {x : va_E} (ha : a < n) (e : h a = some x) : (a, x) ∈ hp_L h n :=
  List.mem_filterMap.mpr ⟨a, List.mem_range.mpr ha, by rw [e]; rfl⟩
theorem hp_L_lt (h : hp_T) (n : Nat) : (hp_L h n).Pairwise (fun p q => p.1 < q.1) := by
  refine List.Pairwise.filterMap _ ?_ (List.pairwise_lt_range (n := n))
  intro a b hab p hp q hq
  cases hx : h a with
  | none => rw [hx] at hp; cases hp
  | some x =>
    cases hy : h b with
    | none => rw [hy] at hq; cases hq
    | some y => rw [hx] at hp; rw [hy] at hq; cases hp; cases hq; exact hab
theorem hp_P.P {D : va_G} {HB : Heap} {h : hp_T} {H : Heap} (hP : hp_P D HB h H) : va_P D vwCl (hp_L h H.size) H := fun k q hk => (hP q.1 q.2 (hp_L_mem (List.mem_of_getElem? hk))).2
theorem hp_P.D {D : va_G} {HB : Heap} {h : hp_T} {H : Heap} (hP : hp_P D HB h H) : va_D (hp_A HB) (hp_L h H.size) := by
  refine ⟨fun i j p q hi hj e => ?_, fun k q hk => (hP q.1 q.2 (hp_L_mem (List.mem_of_getElem? hk))).1⟩
  have hw := hp_L_lt h H.size
  rw [List.pairwise_iff_getElem] at hw
  obtain ⟨hi1, hi2⟩ := List.getElem?_eq_some_iff.mp hi
  obtain ⟨hj1, hj2⟩ := List.getElem?_eq_some_iff.mp hj
  rcases Nat.lt_trichotomy i j with z | z | z
  · have := hw i j hi1 hj1 z
    rw [hi2, hj2, e] at this
    exact absurd this (Nat.lt_irrefl _)
  · exact z
  · have := hw j i hj1 hi1 z
    rw [hi2, hj2, e] at this
    exact absurd this (Nat.lt_irrefl _)
theorem hp_P.at {D : va_G} {HB : Heap} {h : hp_T} {H : Heap} (hP : hp_P D HB h H) {a : Nat} {x : va_E} (e : h a = some x) : ∃ k : Nat, (hp_L h H.size)[k]? = some (a, x) :=
  List.getElem?_of_mem (hp_L_in (hP.lt e) e)
/-- behind a write -/
theorem hp_P.set {D : va_G} {HB : Heap} {h : hp_T} {H H1 : Heap} (hP : hp_P D HB h H) {a k : Nat} {x x' : va_E} (hk : (hp_L h H.size)[k]? = some (a, x)) (h1 : va_P D vwCl ((hp_L h H.size).set k (a, x')) H1) : hp_P D HB (hp_up h a x') H1 := by
  intro q y hy
  have hx : h a = some x := hp_L_mem (q := (a, x)) (List.mem_of_getElem? hk)
  have hlt : k < (hp_L h H.size).length := (List.getElem?_eq_some_iff.mp hk).1
  by_cases hq : q = a
  · subst hq
    rw [hp_us] at hy
    cases hy
    exact ⟨(hP q x hx).1, h1 k (q, x') (by rw [List.getElem?_set_self hlt])⟩
  · rw [hp_un hq] at hy
    obtain ⟨j, hj⟩ := hP.at hy
    have hjk : k ≠ j := by
      intro z
      subst z
      rw [hk] at hj
      cases hj
      exact hq rfl
    exact ⟨(hP q y hy).1, h1 j (q, y) (by rw [List.getElem?_set_ne hjk]; exact hj)⟩
/-- behind a new cell -/
theorem hp_P.new {D : va_G} {HB : Heap} {h : hp_T} {H H1 : Heap} (hP : hp_P D HB h H) {q : Nat} {x : va_E} (h1 : va_P D vwCl (hp_L h H.size ++ [(q, x)]) H1) (hD : va_D (hp_A HB) (hp_L h H.size ++ [(q, x)])) : hp_P D HB (hp_up h q x) H1 ∧ h q = none := by
  have hlast : (hp_L h H.size ++ [(q, x)])[(hp_L h H.size).length]? = some (q, x) := by simp
  have hn : h q = none := by
    cases hx : h q with
    | none => rfl
    | some y =>
      obtain ⟨j, hj⟩ := hP.at hx
      have hlt := (List.getElem?_eq_some_iff.mp hj).1
      have := hD.1 j (hp_L h H.size).length (q, y) (q, x) (by rw [List.getElem?_append_left hlt]; exact hj) hlast rfl
      omega
  refine ⟨fun a y hy => ?_, hn⟩
  by_cases ha : a = q
  · subst ha
    rw [hp_us] at hy
    cases hy
    exact ⟨hD.2 _ _ hlast, h1 _ _ hlast⟩
  · rw [hp_un ha] at hy
    obtain ⟨j, hj⟩ := hP.at hy
    have hlt := (List.getElem?_eq_some_iff.mp hj).1
    exact ⟨(hP a y hy).1, h1 j (a, y) (by rw [List.getElem?_append_left hlt]; exact hj)⟩
/-- what is said of the statics and the constants, at the base heap -/
def st_L : List (String × Nat × String) := [("ProfileRights", 225, "no such group"), ("ProfileRights", 54, "no more groups"), ("ProfileRights", 79, "no more users"), ("ProfileRights", 227, "no such user"), ("ProfileRights", 233, "no such terminal"), ("ProfileRights", 231, "no such class"), ("ProfileRights", 107, "no such mode"), ("ProfileRights", 110, "no more profiles"), ("ProfileRights", 229, "no such profile"), ("ProfileRights", 128, "no such character"), ("ProfileRights", 134, "the name is full"), ("ProfileRights", 235, "no such level"), ("ProfileRights", 145, "no such marks"), ("ProfileRights", 169, "the list is full"), ("ProfileRights", 183, "a time below 0")]
def ev_S (D : va_G) (HB : Heap) (U : State) : Prop :=
  vx_Zq Bundle.tN "UNASSIGNED_STACK" Bundle.steD (hp_A HB) U HB ∧ vx_Zq Bundle.tN "SUPPRESSED_SENTINEL" Bundle.listD (hp_A HB) U HB ∧ (∀ q ∈ st_L, ∃ a : Nat, vk_R q.1 q.2.1 q.2.2 a U) ∧
  va_Nc "java/lang/IllegalStateException" "java/lang/IllegalArgumentException" U ∧
  va_Z "java/util/ArrayList" "DEFAULTCAPACITY_EMPTY_ELEMENTDATA" "[Ljava/lang/Object;" (.ref (D.2 200 0)) (hp_A HB) U HB ∧ va_T (.object "java/lang/Object") (D.2 200 0) 0 (fun _ => .null) (hp_A HB) U HB ∧
  va_AO "java/lang/Object" U ∧ va_Mi "[Ljava/lang/Object;" (D.2 201 0) U
theorem ev_S.moved {D : va_G} {HB : Heap} {s U : State} (h : ev_S D HB s) (hW : s.WarmedH U.vm) : ev_S D HB U := by
  obtain ⟨h1, h2, h3, h4, h5, h6, h7, h8⟩ := h
  exact ⟨h1.moved hW.alike, h2.moved hW.alike, fun q hq => (h3 q hq).imp fun a ha => ha.warm hW, h4.moved hW.alike, h5.moved hW.alike, h6.moved hW.alike, h7.moved hW.alike, h8.moved hW.alike⟩
/-! the context of a walk: what holds all along -/
def wk_C (p : Program) (s : State) (m : MethodId) (args : Array Value) (meth : Method) (c : Code) (cc : ByteArray) (own : String) (nL : Nat) (ret : Option FieldType) (hh : List (Nat × Nat × Nat × Nat)) (D : va_G) (HB : Heap) : Prop :=
  p.tables.exec = Jvm.exec ∧ c.code = cc ∧ c.maxLocals = nL ∧ s.vm.findClass own = some m.cls ∧ (∀ w ∈ kw_L, w.before args s = true) ∧ meth.sig.returnType = ret ∧ meth.locks = false ∧ va_K D vwCl (ty_L D) s ∧
  c.exceptionTable.toList.map (fun x => (x.startPc, x.endPc, x.handlerPc, x.catchType)) = hh ∧ va_S (hp_A HB) HB s.heap [] ∧ ev_S D HB s
/-- THE JUDGEMENT: from any heap that holds h, any locals that hold lv: the machine comes to a state with Q -/
def Wk (p : Program) (l : Launch) (e : Env) (R : Room) (s : State) (m : MethodId) (args : Array Value) (below : List Frame) (meth : Method) (c : Code) (nL : Nat) (D : va_G) (HB : Heap) (Q : State → Prop) (h : hp_T) (cells slots pc : Nat) (lv : List (Nat × Value)) (st : List Value) : Prop :=
  ∀ (H : Heap) (locs : List Loc) (ls : Array Slot), hp_P D HB h H → va_S (hp_A HB) HB H locs → lv_has ls nL lv → W p l e R s m args below meth c H locs cells slots Q (F0 m pc ls st)
/-! pure instructions: a step of locals and stack -/
def px_at (lv : List (Nat × Value)) (i : Nat) : Option Value := (lv.find? (fun q => q.1 == i)).map (·.2)
theorem px_at_has {lv : List (Nat × Value)} {i : Nat} {v : Value} (h : px_at lv i = some v) : ∃ j : Nat, lv[j]? = some (i, v) := by
  unfold px_at at h
  cases hf : lv.find? (fun q => q.1 == i) with
  | none => rw [hf] at h; cases h
  | some q =>
    rw [hf] at h
    cases h
    have h1 := List.find?_some hf
    have h2 := List.mem_of_find?_eq_some hf
    obtain ⟨j, hj⟩ := List.getElem?_of_mem h2
    have : q.1 = i := by simpa using h1
    exact ⟨j, by rw [hj, ← this]⟩
def px_s1 (lv : List (Nat × Value)) (i : Nat) (v : Value) : List (Nat × Value) := (i, v) :: lv.filter (fun q => !(q.1 == i) && !(q.1 + 1 == i && q.2.category == 2))
def px_s2 (lv : List (Nat × Value)) (i : Nat) (v : Value) : List (Nat × Value) := (i, v) :: lv.filter (fun q => !(q.1 == i) && (!(q.1 == i + 1) && !(q.1 + 1 == i && q.2.category == 2)))
abbrev px_S : Type := List (Nat × Value) × List Value
def px_ii (f : Int32 → Int32 → Int32) (lv : List (Nat × Value)) (st : List Value) : Option px_S := match st with
  | .int y :: .int x :: r => some (lv, .int (f x y) :: r)
  | _ => none
def px_ll (f : Int64 → Int64 → Int64) (lv : List (Nat × Value)) (st : List Value) : Option px_S := match st with
  | .long y :: .long x :: r => some (lv, .long (f x y) :: r)
  | _ => none
def px_li (f : Int64 → Int32 → Int64) (lv : List (Nat × Value)) (st : List Value) : Option px_S := match st with
  | .int y :: .long x :: r => some (lv, .long (f x y) :: r)
  | _ => none
def px_i (f : Int32 → Value) (lv : List (Nat × Value)) (st : List Value) : Option px_S := match st with
  | .int x :: r => some (lv, f x :: r)
  | _ => none
def px_l (f : Int64 → Value) (lv : List (Nat × Value)) (st : List Value) : Option px_S := match st with
  | .long x :: r => some (lv, f x :: r)
  | _ => none
def px_ld (ok : Value → Bool) (i : Nat) (lv : List (Nat × Value)) (st : List Value) : Option px_S := match px_at lv i with
  | some v => if ok v = true then some (lv, v :: st) else none
  | none => none
def px_sti (nL i : Nat) (lv : List (Nat × Value)) (st : List Value) : Option px_S := match st with
  | .int x :: r => if i < nL then some (px_s1 lv i (.int x), r) else none
  | _ => none
def px_stl (nL i : Nat) (lv : List (Nat × Value)) (st : List Value) : Option px_S := match st with
  | .long x :: r => if i + 1 < nL then some (px_s2 lv i (.long x), r) else none
  | _ => none
def px_sta (nL i : Nat) (lv : List (Nat × Value)) (st : List Value) : Option px_S := match st with
  | .ref x :: r => if i < nL then some (px_s1 lv i (.ref x), r) else none
  | .null :: r => if i < nL then some (px_s1 lv i .null, r) else none
  | _ => none
def px_inc (nL i : Nat) (n : Int) (lv : List (Nat × Value)) (st : List Value) : Option px_S := match px_at lv i with
  | some (.int x) => if i < nL then some (px_s1 lv i (.int (x + Int32.ofInt n)), st) else none
  | _ => none
def px_dup (lv : List (Nat × Value)) (st : List Value) : Option px_S := match st with
  | v :: r => if v.category = 1 then some (lv, v :: v :: r) else none
  | _ => none
def px_pop (lv : List (Nat × Value)) (st : List Value) : Option px_S := match st with
  | v :: r => if v.category = 1 then some (lv, r) else none
  | _ => none
def px_dx1 (lv : List (Nat × Value)) (st : List Value) : Option px_S := match st with
  | v :: w :: r => if v.category = 1 ∧ w.category = 1 then some (lv, v :: w :: v :: r) else none
  | _ => none
def px_dup2 (lv : List (Nat × Value)) (st : List Value) : Option px_S := match st with
  | v :: w :: r => if v.category = 1 ∧ w.category = 1 then some (lv, v :: w :: v :: w :: r) else none
  | _ => none
def px_dx2 (lv : List (Nat × Value)) (st : List Value) : Option px_S := match st with
  | v :: w :: u :: r => if v.category = 1 ∧ w.category = 1 ∧ u.category = 1 then some (lv, v :: w :: u :: v :: r) else none
  | _ => none
def px_isI (v : Value) : Bool := match v with | .int _ => true | _ => false
def px_isL (v : Value) : Bool := match v with | .long _ => true | _ => false
def px_isA (v : Value) : Bool := match v with | .ref _ => true | .null => true | _ => false
theorem px_ii_spec {f : Int32 → Int32 → Int32} {lv lv2 : List (Nat × Value)} {st st2 : List Value} (he : px_ii f lv st = some (lv2, st2)) : ∃ (x y : Int32) (r : List Value), st = .int y :: .int x :: r ∧ lv2 = lv ∧ st2 = .int (f x y) :: r := by
  unfold px_ii at he
  split at he
  · cases he; exact ⟨_, _, _, rfl, rfl, rfl⟩
  · cases he
theorem px_ll_spec {f : Int64 → Int64 → Int64} {lv lv2 : List (Nat × Value)} {st st2 : List Value} (he : px_ll f lv st = some (lv2, st2)) : ∃ (x y : Int64) (r : List Value), st = .long y :: .long x :: r ∧ lv2 = lv ∧ st2 = .long (f x y) :: r := by
  unfold px_ll at he
  split at he
  · cases he; exact ⟨_, _, _, rfl, rfl, rfl⟩
  · cases he
theorem px_li_spec {f : Int64 → Int32 → Int64} {lv lv2 : List (Nat × Value)} {st st2 : List Value} (he : px_li f lv st = some (lv2, st2)) : ∃ (x : Int64) (y : Int32) (r : List Value), st = .int y :: .long x :: r ∧ lv2 = lv ∧ st2 = .long (f x y) :: r := by
  unfold px_li at he
  split at he
  · cases he; exact ⟨_, _, _, rfl, rfl, rfl⟩
  · cases he
theorem px_i_spec {f : Int32 → Value} {lv lv2 : List (Nat × Value)} {st st2 : List Value} (he : px_i f lv st = some (lv2, st2)) : ∃ (x : Int32) (r : List Value), st = .int x :: r ∧ lv2 = lv ∧ st2 = f x :: r := by
  unfold px_i at he
  split at he
  · cases he; exact ⟨_, _, rfl, rfl, rfl⟩
  · cases he
theorem px_l_spec {f : Int64 → Value} {lv lv2 : List (Nat × Value)} {st st2 : List Value} (he : px_l f lv st = some (lv2, st2)) : ∃ (x : Int64) (r : List Value), st = .long x :: r ∧ lv2 = lv ∧ st2 = f x :: r := by
  unfold px_l at he
  split at he
  · cases he; exact ⟨_, _, rfl, rfl, rfl⟩
  · cases he
theorem px_ld_spec {ok : Value → Bool} {i : Nat} {lv lv2 : List (Nat × Value)} {st st2 : List Value} (he : px_ld ok i lv st = some (lv2, st2)) : ∃ (v : Value) (j : Nat), lv[j]? = some (i, v) ∧ ok v = true ∧ lv2 = lv ∧ st2 = v :: st := by
  unfold px_ld at he
  split at he
  · rename_i v hv
    split at he
    · rename_i hok
      cases he
      obtain ⟨j, hj⟩ := px_at_has hv
      exact ⟨v, j, hj, hok, rfl, rfl⟩
    · cases he
  · cases he
theorem px_sti_spec {nL i : Nat} {lv lv2 : List (Nat × Value)} {st st2 : List Value} (he : px_sti nL i lv st = some (lv2, st2)) : ∃ (x : Int32) (r : List Value), i < nL ∧ st = .int x :: r ∧ lv2 = px_s1 lv i (.int x) ∧ st2 = r := by
  unfold px_sti at he
  split at he
  · split at he
    · cases he; exact ⟨_, _, by assumption, rfl, rfl, rfl⟩
    · cases he
  · cases he
theorem px_stl_spec {nL i : Nat} {lv lv2 : List (Nat × Value)} {st st2 : List Value} (he : px_stl nL i lv st = some (lv2, st2)) : ∃ (x : Int64) (r : List Value), i + 1 < nL ∧ st = .long x :: r ∧ lv2 = px_s2 lv i (.long x) ∧ st2 = r := by
  unfold px_stl at he
  split at he
  · split at he
    · cases he; exact ⟨_, _, by assumption, rfl, rfl, rfl⟩
    · cases he
  · cases he
theorem px_sta_spec {nL i : Nat} {lv lv2 : List (Nat × Value)} {st st2 : List Value} (he : px_sta nL i lv st = some (lv2, st2)) : (∃ (x : Nat) (r : List Value), i < nL ∧ st = .ref x :: r ∧ lv2 = px_s1 lv i (.ref x) ∧ st2 = r) ∨ (∃ r : List Value, i < nL ∧ st = .null :: r ∧ lv2 = px_s1 lv i .null ∧ st2 = r) := by
  unfold px_sta at he
  split at he
  · split at he
    · cases he; exact Or.inl ⟨_, _, by assumption, rfl, rfl, rfl⟩
    · cases he
  · split at he
    · cases he; exact Or.inr ⟨_, by assumption, rfl, rfl, rfl⟩
    · cases he
  · cases he
theorem px_inc_spec {nL i : Nat} {n : Int} {lv lv2 : List (Nat × Value)} {st st2 : List Value} (he : px_inc nL i n lv st = some (lv2, st2)) : ∃ (x : Int32) (j : Nat), lv[j]? = some (i, .int x) ∧ i < nL ∧ lv2 = px_s1 lv i (.int (x + Int32.ofInt n)) ∧ st2 = st := by
  unfold px_inc at he
  split at he
  · rename_i x hx
    split at he
    · cases he
      obtain ⟨j, hj⟩ := px_at_has hx
      exact ⟨x, j, hj, by assumption, rfl, rfl⟩
    · cases he
  · cases he
theorem px_dup_spec {lv lv2 : List (Nat × Value)} {st st2 : List Value} (he : px_dup lv st = some (lv2, st2)) : ∃ (v : Value) (r : List Value), v.category = 1 ∧ st = v :: r ∧ lv2 = lv ∧ st2 = v :: v :: r := by
  unfold px_dup at he
  split at he
  · split at he
    · cases he; exact ⟨_, _, by assumption, rfl, rfl, rfl⟩
    · cases he
  · cases he
theorem px_pop_spec {lv lv2 : List (Nat × Value)} {st st2 : List Value} (he : px_pop lv st = some (lv2, st2)) : ∃ (v : Value) (r : List Value), v.category = 1 ∧ st = v :: r ∧ lv2 = lv ∧ st2 = r := by
  unfold px_pop at he
  split at he
  · split at he
    · cases he; exact ⟨_, _, by assumption, rfl, rfl, rfl⟩
    · cases he
  · cases he
theorem px_dx1_spec {lv lv2 : List (Nat × Value)} {st st2 : List Value} (he : px_dx1 lv st = some (lv2, st2)) : ∃ (v w : Value) (r : List Value), v.category = 1 ∧ w.category = 1 ∧ st = v :: w :: r ∧ lv2 = lv ∧ st2 = v :: w :: v :: r := by
  unfold px_dx1 at he
  split at he
  · split at he
    · rename_i hc; cases he; exact ⟨_, _, _, hc.1, hc.2, rfl, rfl, rfl⟩
    · cases he
  · cases he
theorem px_dup2_spec {lv lv2 : List (Nat × Value)} {st st2 : List Value} (he : px_dup2 lv st = some (lv2, st2)) : ∃ (v w : Value) (r : List Value), v.category = 1 ∧ w.category = 1 ∧ st = v :: w :: r ∧ lv2 = lv ∧ st2 = v :: w :: v :: w :: r := by
  unfold px_dup2 at he
  split at he
  · split at he
    · rename_i hc; cases he; exact ⟨_, _, _, hc.1, hc.2, rfl, rfl, rfl⟩
    · cases he
  · cases he
theorem px_dx2_spec {lv lv2 : List (Nat × Value)} {st st2 : List Value} (he : px_dx2 lv st = some (lv2, st2)) : ∃ (v w u : Value) (r : List Value), v.category = 1 ∧ w.category = 1 ∧ u.category = 1 ∧ st = v :: w :: u :: r ∧ lv2 = lv ∧ st2 = v :: w :: u :: v :: r := by
  unfold px_dx2 at he
  split at he
  · split at he
    · rename_i hc; cases he; exact ⟨_, _, _, _, hc.1, hc.2.1, hc.2.2, rfl, rfl, rfl⟩
    · cases he
  · cases he
def px_one (nL : Nat) (i : Instr) (lv : List (Nat × Value)) (st : List Value) : Option px_S := match i with
  | .iconst n => some (lv, .int (Int32.ofInt n) :: st)
  | .bipush n => some (lv, .int (Int8.ofInt n).toInt32 :: st)
  | .sipush n => some (lv, .int (Int16.ofInt n).toInt32 :: st)
  | .lconst n => some (lv, .long (Int64.ofNat n) :: st)
  | .aconst_null => some (lv, .null :: st)
  | .iadd => px_ii (fun x y => x + y) lv st
  | .isub => px_ii (fun x y => x - y) lv st
  | .imul => px_ii (fun x y => x * y) lv st
  | .iand => px_ii (fun x y => x &&& y) lv st
  | .ior => px_ii (fun x y => x ||| y) lv st
  | .ixor => px_ii (fun x y => x ^^^ y) lv st
  | .ishl => px_ii (fun x y => x <<< (y &&& 31)) lv st
  | .ishr => px_ii (fun x y => x >>> (y &&& 31)) lv st
  | .ladd => px_ll (fun x y => x + y) lv st
  | .lsub => px_ll (fun x y => x - y) lv st
  | .lmul => px_ll (fun x y => x * y) lv st
  | .land => px_ll (fun x y => x &&& y) lv st
  | .lor => px_ll (fun x y => x ||| y) lv st
  | .lxor => px_ll (fun x y => x ^^^ y) lv st
  | .lshl => px_li (fun x y => x <<< (y.toInt64 &&& 63)) lv st
  | .lshr => px_li (fun x y => x >>> (y.toInt64 &&& 63)) lv st
  | .ineg => px_i (fun x => .int (-x)) lv st
  | .i2l => px_i (fun x => .long x.toInt64) lv st
  | .l2i => px_l (fun x => .int x.toInt32) lv st
  | .iload_n i => px_ld px_isI (i : Nat) lv st
  | .iload i => px_ld px_isI i lv st
  | .lload_n i => px_ld px_isL (i : Nat) lv st
  | .lload i => px_ld px_isL i lv st
  | .aload_n i => px_ld px_isA (i : Nat) lv st
  | .aload i => px_ld px_isA i lv st
  | .istore_n i => px_sti nL (i : Nat) lv st
  | .istore i => px_sti nL i lv st
  | .lstore_n i => px_stl nL (i : Nat) lv st
  | .lstore i => px_stl nL i lv st
  | .astore_n i => px_sta nL (i : Nat) lv st
  | .astore i => px_sta nL i lv st
  | .iinc i n => px_inc nL i n lv st
  | .dup => px_dup lv st
  | .pop => px_pop lv st
  | .dup_x1 => px_dx1 lv st
  | .dup2 => px_dup2 lv st
  | .dup_x2 => px_dx2 lv st
  | _ => none
def px_len (i : Instr) : Nat := match i with
  | .bipush _ => 2
  | .sipush _ => 3
  | .iload _ => 2
  | .lload _ => 2
  | .aload _ => 2
  | .istore _ => 2
  | .lstore _ => 2
  | .astore _ => 2
  | .iinc _ _ => 3
  | _ => 1
section PX
variable {p : Program} {l : Launch} {e : Env} {R : Room} {s : State} {m : MethodId} {args : Array Value} {below : List Frame} {meth : Method} {c : Code} {Q : State → Prop}
variable {cc : ByteArray} {own : String} {nL : Nat} {ret : Option FieldType} {hh : List (Nat × Nat × Nat × Nat)} {D : va_G} {HB : Heap}
variable {h : hp_T} {cells slots pc : Nat} {lv : List (Nat × Value)} {st rest : List Value}
set_option maxHeartbeats 4000000 in
theorem px_sound (C : wk_C p s m args meth c cc own nL ret hh D HB) {i : Instr} {lv2 : List (Nat × Value)} {st2 : List Value} (hd : decode cc pc = .ok (i, px_len i)) (he : px_one nL i lv st = some (lv2, st2))
    (k : Wk p l e R s m args below meth c nL D HB Q h cells slots (pc + px_len i) lv2 st2) : Wk p l e R s m args below meth c nL D HB Q h cells slots pc lv st := by
  unfold px_one at he
  split at he
  · cases he; exact fun H locs ls hP hS hl => lv_iconst C.1 C.2.1 hd rfl (k H locs ls hP hS hl)
  · cases he; exact fun H locs ls hP hS hl => lv_bipush C.1 C.2.1 hd rfl (k H locs ls hP hS hl)
  · cases he; exact fun H locs ls hP hS hl => lv_sipush C.1 C.2.1 hd rfl (k H locs ls hP hS hl)
  · cases he; exact fun H locs ls hP hS hl => lv_lconst C.1 C.2.1 hd rfl (k H locs ls hP hS hl)
  · cases he; exact fun H locs ls hP hS hl => lv_null C.1 C.2.1 hd (k H locs ls hP hS hl)
  · obtain ⟨x, y, r, rfl, rfl, rfl⟩ := px_ii_spec he; exact fun H locs ls hP hS hl => lv_iadd C.1 C.2.1 hd (k H locs ls hP hS hl)
  · obtain ⟨x, y, r, rfl, rfl, rfl⟩ := px_ii_spec he; exact fun H locs ls hP hS hl => lv_isub C.1 C.2.1 hd (k H locs ls hP hS hl)
  · obtain ⟨x, y, r, rfl, rfl, rfl⟩ := px_ii_spec he; exact fun H locs ls hP hS hl => lv_imul C.1 C.2.1 hd (k H locs ls hP hS hl)
  · obtain ⟨x, y, r, rfl, rfl, rfl⟩ := px_ii_spec he; exact fun H locs ls hP hS hl => lv_iand C.1 C.2.1 hd (k H locs ls hP hS hl)
  · obtain ⟨x, y, r, rfl, rfl, rfl⟩ := px_ii_spec he; exact fun H locs ls hP hS hl => lv_ior C.1 C.2.1 hd (k H locs ls hP hS hl)
  · obtain ⟨x, y, r, rfl, rfl, rfl⟩ := px_ii_spec he; exact fun H locs ls hP hS hl => lv_ixor C.1 C.2.1 hd (k H locs ls hP hS hl)
  · obtain ⟨x, y, r, rfl, rfl, rfl⟩ := px_ii_spec he; exact fun H locs ls hP hS hl => lv_ishl C.1 C.2.1 hd (k H locs ls hP hS hl)
  · obtain ⟨x, y, r, rfl, rfl, rfl⟩ := px_ii_spec he; exact fun H locs ls hP hS hl => lv_ishr C.1 C.2.1 hd (k H locs ls hP hS hl)
  · obtain ⟨x, y, r, rfl, rfl, rfl⟩ := px_ll_spec he; exact fun H locs ls hP hS hl => lv_ladd C.1 C.2.1 hd (k H locs ls hP hS hl)
  · obtain ⟨x, y, r, rfl, rfl, rfl⟩ := px_ll_spec he; exact fun H locs ls hP hS hl => lv_lsub C.1 C.2.1 hd (k H locs ls hP hS hl)
  · obtain ⟨x, y, r, rfl, rfl, rfl⟩ := px_ll_spec he; exact fun H locs ls hP hS hl => lv_lmul C.1 C.2.1 hd (k H locs ls hP hS hl)
  · obtain ⟨x, y, r, rfl, rfl, rfl⟩ := px_ll_spec he; exact fun H locs ls hP hS hl => lv_land C.1 C.2.1 hd (k H locs ls hP hS hl)
  · obtain ⟨x, y, r, rfl, rfl, rfl⟩ := px_ll_spec he; exact fun H locs ls hP hS hl => lv_lor C.1 C.2.1 hd (k H locs ls hP hS hl)
  · obtain ⟨x, y, r, rfl, rfl, rfl⟩ := px_ll_spec he; exact fun H locs ls hP hS hl => lv_lxor C.1 C.2.1 hd (k H locs ls hP hS hl)
  · obtain ⟨x, y, r, rfl, rfl, rfl⟩ := px_li_spec he; exact fun H locs ls hP hS hl => lv_lshl C.1 C.2.1 hd rfl (k H locs ls hP hS hl)
  · obtain ⟨x, y, r, rfl, rfl, rfl⟩ := px_li_spec he; exact fun H locs ls hP hS hl => lv_lshr C.1 C.2.1 hd rfl (k H locs ls hP hS hl)
  · obtain ⟨x, r, rfl, rfl, rfl⟩ := px_i_spec he; exact fun H locs ls hP hS hl => lv_ineg C.1 C.2.1 hd (k H locs ls hP hS hl)
  · obtain ⟨x, r, rfl, rfl, rfl⟩ := px_i_spec he; exact fun H locs ls hP hS hl => lv_i2l C.1 C.2.1 hd rfl (k H locs ls hP hS hl)
  · obtain ⟨x, r, rfl, rfl, rfl⟩ := px_l_spec he; exact fun H locs ls hP hS hl => lv_l2i C.1 C.2.1 hd rfl (k H locs ls hP hS hl)
  · obtain ⟨v, j, hj, hv, rfl, rfl⟩ := px_ld_spec he; cases v <;> first | (cases hv; done) | exact fun H locs ls hP hS hl => lv_iload_n C.1 C.2.1 hd rfl (lv_at hl j hj) (k H locs ls hP hS hl)
  · obtain ⟨v, j, hj, hv, rfl, rfl⟩ := px_ld_spec he; cases v <;> first | (cases hv; done) | exact fun H locs ls hP hS hl => lv_iload C.1 C.2.1 hd (lv_at hl j hj) (k H locs ls hP hS hl)
  · obtain ⟨v, j, hj, hv, rfl, rfl⟩ := px_ld_spec he; cases v <;> first | (cases hv; done) | exact fun H locs ls hP hS hl => lv_lload_n C.1 C.2.1 hd rfl (lv_at hl j hj) (k H locs ls hP hS hl)
  · obtain ⟨v, j, hj, hv, rfl, rfl⟩ := px_ld_spec he; cases v <;> first | (cases hv; done) | exact fun H locs ls hP hS hl => lv_lload C.1 C.2.1 hd (lv_at hl j hj) (k H locs ls hP hS hl)
  · obtain ⟨v, j, hj, hv, rfl, rfl⟩ := px_ld_spec he; cases v <;> first | (cases hv; done) | exact fun H locs ls hP hS hl => lv_aload_n C.1 C.2.1 hd rfl (lv_at hl j hj) (k H locs ls hP hS hl) | exact fun H locs ls hP hS hl => lv_aload_nN C.1 C.2.1 hd rfl (lv_at hl j hj) (k H locs ls hP hS hl)
  · obtain ⟨v, j, hj, hv, rfl, rfl⟩ := px_ld_spec he; cases v <;> first | (cases hv; done) | exact fun H locs ls hP hS hl => lv_aload C.1 C.2.1 hd (lv_at hl j hj) (k H locs ls hP hS hl) | exact fun H locs ls hP hS hl => lv_aloadN C.1 C.2.1 hd (lv_at hl j hj) (k H locs ls hP hS hl)
  · obtain ⟨x, r, hn, rfl, rfl, rfl⟩ := px_sti_spec he; exact fun H locs ls hP hS hl => lv_istore_n C.1 C.2.1 hd rfl hl hn rfl (fun ls1 hl1 => k H locs ls1 hP hS hl1)
  · obtain ⟨x, r, hn, rfl, rfl, rfl⟩ := px_sti_spec he; exact fun H locs ls hP hS hl => lv_istore C.1 C.2.1 hd hl hn rfl (fun ls1 hl1 => k H locs ls1 hP hS hl1)
  · obtain ⟨x, r, hn, rfl, rfl, rfl⟩ := px_stl_spec he; exact fun H locs ls hP hS hl => lv_lstore_n C.1 C.2.1 hd rfl hl hn rfl (fun ls1 hl1 => k H locs ls1 hP hS hl1)
  · obtain ⟨x, r, hn, rfl, rfl, rfl⟩ := px_stl_spec he; exact fun H locs ls hP hS hl => lv_lstore C.1 C.2.1 hd hl hn rfl (fun ls1 hl1 => k H locs ls1 hP hS hl1)
  · rcases px_sta_spec he with ⟨x, r, hn, rfl, rfl, rfl⟩ | ⟨r, hn, rfl, rfl, rfl⟩; exact fun H locs ls hP hS hl => lv_astore_n C.1 C.2.1 hd rfl hl hn rfl (fun ls1 hl1 => k H locs ls1 hP hS hl1); exact fun H locs ls hP hS hl => lv_astore_nN C.1 C.2.1 hd rfl hl hn rfl (fun ls1 hl1 => k H locs ls1 hP hS hl1)
  · rcases px_sta_spec he with ⟨x, r, hn, rfl, rfl, rfl⟩ | ⟨r, hn, rfl, rfl, rfl⟩; exact fun H locs ls hP hS hl => lv_astore C.1 C.2.1 hd hl hn rfl (fun ls1 hl1 => k H locs ls1 hP hS hl1); exact fun H locs ls hP hS hl => lv_astoreN C.1 C.2.1 hd hl hn rfl (fun ls1 hl1 => k H locs ls1 hP hS hl1)
  · obtain ⟨x, j, hj, hn, rfl, rfl⟩ := px_inc_spec he; exact fun H locs ls hP hS hl => lv_iinc C.1 C.2.1 hd hl hj rfl hn rfl (fun ls1 hl1 => k H locs ls1 hP hS hl1)
  · obtain ⟨v, r, hv, rfl, rfl, rfl⟩ := px_dup_spec he; exact fun H locs ls hP hS hl => lv_dup C.1 C.2.1 hd hv (k H locs ls hP hS hl)
  · obtain ⟨v, r, hv, rfl, rfl, rfl⟩ := px_pop_spec he; exact fun H locs ls hP hS hl => lv_pop C.1 C.2.1 hd hv (k H locs ls hP hS hl)
  · obtain ⟨v, w, r, hv, hw, rfl, rfl, rfl⟩ := px_dx1_spec he; exact fun H locs ls hP hS hl => lv_dup_x1 C.1 C.2.1 hd hv hw (k H locs ls hP hS hl)
  · obtain ⟨v, w, r, hv, hw, rfl, rfl, rfl⟩ := px_dup2_spec he; exact fun H locs ls hP hS hl => lv_dup2_11 C.1 C.2.1 hd hv hw (k H locs ls hP hS hl)
  · obtain ⟨v, w, u, r, hv, hw, hu, rfl, rfl, rfl⟩ := px_dx2_spec he; exact fun H locs ls hP hS hl => lv_dup_x2 C.1 C.2.1 hd hv hw hu (k H locs ls hP hS hl)
  · cases he
/-- a run of pure instructions, one behind the other -/
def px_run (nL : Nat) : List Instr → Nat → List (Nat × Value) → List Value → Option (Nat × px_S)
  | [], pc, lv, st => some (pc, lv, st)
  | i :: r, pc, lv, st => match px_one nL i lv st with
    | some (lv2, st2) => px_run nL r (pc + px_len i) lv2 st2
    | none => none
def px_dec (cc : ByteArray) : List Instr → Nat → Bool
  | [], _ => true
  | i :: r, pc => decide (decode cc pc = .ok (i, px_len i)) && px_dec cc r (pc + px_len i)
theorem wk_run (C : wk_C p s m args meth c cc own nL ret hh D HB) {is : List Instr} {pc pc2 : Nat} {lv lv2 : List (Nat × Value)} {st st2 : List Value} (hd : px_dec cc is pc = true) (he : px_run nL is pc lv st = some (pc2, lv2, st2))
    (k : Wk p l e R s m args below meth c nL D HB Q h cells slots pc2 lv2 st2) : Wk p l e R s m args below meth c nL D HB Q h cells slots pc lv st := by
  induction is generalizing pc lv st with
  | nil => cases he; exact k
  | cons i r ih =>
    unfold px_run at he
    unfold px_dec at hd
    rw [Bool.and_eq_true, decide_eq_true_eq] at hd
    split at he
    · rename_i lv3 st3 h1
      exact px_sound C hd.1 h1 (ih hd.2 he)
    · cases he
end PX
section WC
variable {p : Program} {l : Launch} {e : Env} {R : Room} {s : State} {m : MethodId} {args : Array Value} {below : List Frame} {meth : Method} {c : Code} {Q : State → Prop}
variable {cc : ByteArray} {own : String} {nL : Nat} {ret : Option FieldType} {hh : List (Nat × Nat × Nat × Nat)} {D : va_G} {HB : Heap}
variable {h : hp_T} {cells slots pc : Nat} {lv : List (Nat × Value)} {st rest : List Value}
theorem wk_C.hts (C : wk_C p s m args meth c cc own nL ret hh D HB) : ∀ w ∈ kw_L, w.before args s = true := C.2.2.2.2.1
theorem wk_C.ow (C : wk_C p s m args meth c cc own nL ret hh D HB) : s.vm.findClass own = some m.cls := C.2.2.2.1
theorem wk_C.K (C : wk_C p s m args meth c cc own nL ret hh D HB) : va_K D vwCl (ty_L D) s := C.2.2.2.2.2.2.2.1
theorem wk_C.rt (C : wk_C p s m args meth c cc own nL ret hh D HB) : meth.sig.returnType = ret := C.2.2.2.2.2.1
theorem wk_C.locks (C : wk_C p s m args meth c cc own nL ret hh D HB) : meth.locks = false := C.2.2.2.2.2.2.1
theorem wk_C.tab (C : wk_C p s m args meth c cc own nL ret hh D HB) : c.exceptionTable.toList.map (fun x => (x.startPc, x.endPc, x.handlerPc, x.catchType)) = hh := C.2.2.2.2.2.2.2.2.1
theorem wk_C.base (C : wk_C p s m args meth c cc own nL ret hh D HB) : va_S (hp_A HB) HB s.heap [] := C.2.2.2.2.2.2.2.2.2.1
theorem wk_C.ev (C : wk_C p s m args meth c cc own nL ret hh D HB) : ev_S D HB s := C.2.2.2.2.2.2.2.2.2.2
/-- other names for the same state -/
theorem Wk.sub {lv lv2 : List (Nat × Value)} (js : List Nat) (e1 : lv_pick lv js = lv2) (k : Wk p l e R s m args below meth c nL D HB Q h cells slots pc lv2 st) : Wk p l e R s m args below meth c nL D HB Q h cells slots pc lv st :=
  fun H locs ls hP hS hl => k H locs ls hP hS (lv_sub hl js e1)
theorem Wk.heap {h2 : hp_T} (e1 : ∀ a x, h2 a = some x → h a = some x) (k : Wk p l e R s m args below meth c nL D HB Q h2 cells slots pc lv st) : Wk p l e R s m args below meth c nL D HB Q h cells slots pc lv st :=
  fun H locs ls hP hS hl => k H locs ls (fun a x hx => hP a x (e1 a x hx)) hS hl
theorem Wk.widen {cells2 slots2 : Nat} (h1 : cells ≤ cells2) (h2 : slots ≤ slots2) (k : Wk p l e R s m args below meth c nL D HB Q h cells2 slots2 pc lv st) : Wk p l e R s m args below meth c nL D HB Q h cells slots pc lv st :=
  fun H locs ls hP hS hl => W.widen h1 h2 (k H locs ls hP hS hl)
/-! branches -/
def px_br (i : Instr) (st : List Value) : Option (Prop × Int × List Value) := match i with
  | .ifCond .eq off => match st with | .int x :: r => some (x = 0, off, r) | _ => none
  | .ifCond .ne off => match st with | .int x :: r => some (¬ x = 0, off, r) | _ => none
  | .ifCond .lt off => match st with | .int x :: r => some (x < 0, off, r) | _ => none
  | .ifCond .ge off => match st with | .int x :: r => some (0 ≤ x, off, r) | _ => none
  | .ifCond .gt off => match st with | .int x :: r => some (0 < x, off, r) | _ => none
  | .ifCond .le off => match st with | .int x :: r => some (x ≤ 0, off, r) | _ => none
  | .if_icmp .eq off => match st with | .int y :: .int x :: r => some (x = y, off, r) | _ => none
  | .if_icmp .ne off => match st with | .int y :: .int x :: r => some (¬ x = y, off, r) | _ => none
  | .if_icmp .lt off => match st with | .int y :: .int x :: r => some (x < y, off, r) | _ => none
  | .if_icmp .ge off => match st with | .int y :: .int x :: r => some (y ≤ x, off, r) | _ => none
  | .if_icmp .gt off => match st with | .int y :: .int x :: r => some (y < x, off, r) | _ => none
  | .if_icmp .le off => match st with | .int y :: .int x :: r => some (x ≤ y, off, r) | _ => none
  | _ => none
set_option maxHeartbeats 4000000 in
theorem wk_br (C : wk_C p s m args meth c cc own nL ret hh D HB) {i : Instr} {P : Prop} {off : Int} {tgt : Nat} {rest : List Value} (hd : decode cc pc = .ok (i, 3)) (he : px_br i st = some (P, off, rest)) (ht : (pc : Int) + off = (tgt : Int))
    (kt : P → Wk p l e R s m args below meth c nL D HB Q h cells slots tgt lv rest) (kf : ¬ P → Wk p l e R s m args below meth c nL D HB Q h cells slots (pc + 3) lv rest) : Wk p l e R s m args below meth c nL D HB Q h cells slots pc lv st := by
  intro H locs ls hP hS hl
  unfold px_br at he
  split at he
  · split at he
    · cases he; exact lv_if_eq C.1 C.2.1 hd ht (fun z => kt z H locs ls hP hS hl) (fun z => kf z H locs ls hP hS hl)
    · cases he
  · split at he
    · cases he; exact lv_if_ne C.1 C.2.1 hd ht (fun z => kt z H locs ls hP hS hl) (fun z => kf (fun y => y z) H locs ls hP hS hl)
    · cases he
  · split at he
    · cases he; exact lv_if_lt C.1 C.2.1 hd ht (fun z => kt z H locs ls hP hS hl) (fun z => kf z H locs ls hP hS hl)
    · cases he
  · split at he
    · cases he; exact lv_if_ge C.1 C.2.1 hd ht (fun z => kt z H locs ls hP hS hl) (fun z => kf z H locs ls hP hS hl)
    · cases he
  · split at he
    · cases he; exact lv_if_gt C.1 C.2.1 hd ht (fun z => kt z H locs ls hP hS hl) (fun z => kf z H locs ls hP hS hl)
    · cases he
  · split at he
    · cases he; exact lv_if_le C.1 C.2.1 hd ht (fun z => kt z H locs ls hP hS hl) (fun z => kf z H locs ls hP hS hl)
    · cases he
  · split at he
    · cases he; exact lv_icmp_eq C.1 C.2.1 hd ht (fun z => kt z H locs ls hP hS hl) (fun z => kf z H locs ls hP hS hl)
    · cases he
  · split at he
    · cases he; exact lv_icmp_ne C.1 C.2.1 hd ht (fun z => kt z H locs ls hP hS hl) (fun z => kf (fun y => y z) H locs ls hP hS hl)
    · cases he
  · split at he
    · cases he; exact lv_icmp_lt C.1 C.2.1 hd ht (fun z => kt z H locs ls hP hS hl) (fun z => kf z H locs ls hP hS hl)
    · cases he
  · split at he
    · cases he; exact lv_icmp_ge C.1 C.2.1 hd ht (fun z => kt z H locs ls hP hS hl) (fun z => kf z H locs ls hP hS hl)
    · cases he
  · split at he
    · cases he; exact lv_icmp_gt C.1 C.2.1 hd ht (fun z => kt z H locs ls hP hS hl) (fun z => kf z H locs ls hP hS hl)
    · cases he
  · split at he
    · cases he; exact lv_icmp_le C.1 C.2.1 hd ht (fun z => kt z H locs ls hP hS hl) (fun z => kf z H locs ls hP hS hl)
    · cases he
  · cases he
theorem wk_goto (C : wk_C p s m args meth c cc own nL ret hh D HB) {off : Int} {tgt : Nat} (hd : decode cc pc = .ok (.goto off, 3)) (ht : (pc : Int) + off = (tgt : Int)) (k : Wk p l e R s m args below meth c nL D HB Q h cells slots tgt lv st) : Wk p l e R s m args below meth c nL D HB Q h cells slots pc lv st :=
  fun H locs ls hP hS hl => lv_goto C.1 C.2.1 hd ht (k H locs ls hP hS hl)
/-- 'ifnull', 'ifnonnull' of a reference that is known -/
theorem wk_nlR (C : wk_C p s m args meth c cc own nL ret hh D HB) {x : Nat} {off : Int} (hd : decode cc pc = .ok (.ifnull off, 3)) (k : Wk p l e R s m args below meth c nL D HB Q h cells slots (pc + 3) lv rest) : Wk p l e R s m args below meth c nL D HB Q h cells slots pc lv (.ref x :: rest) :=
  fun H locs ls hP hS hl => lv_ifnull C.1 C.2.1 hd (k H locs ls hP hS hl)
theorem wk_nlN (C : wk_C p s m args meth c cc own nL ret hh D HB) {off : Int} {tgt : Nat} (hd : decode cc pc = .ok (.ifnull off, 3)) (ht : (pc : Int) + off = (tgt : Int)) (k : Wk p l e R s m args below meth c nL D HB Q h cells slots tgt lv rest) : Wk p l e R s m args below meth c nL D HB Q h cells slots pc lv (.null :: rest) :=
  fun H locs ls hP hS hl => lv_ifnullN C.1 C.2.1 hd ht (k H locs ls hP hS hl)
theorem wk_nnR (C : wk_C p s m args meth c cc own nL ret hh D HB) {x : Nat} {off : Int} {tgt : Nat} (hd : decode cc pc = .ok (.ifnonnull off, 3)) (ht : (pc : Int) + off = (tgt : Int)) (k : Wk p l e R s m args below meth c nL D HB Q h cells slots tgt lv rest) : Wk p l e R s m args below meth c nL D HB Q h cells slots pc lv (.ref x :: rest) :=
  fun H locs ls hP hS hl => lv_ifnonnull C.1 C.2.1 hd ht (k H locs ls hP hS hl)
theorem wk_nnN (C : wk_C p s m args meth c cc own nL ret hh D HB) {off : Int} (hd : decode cc pc = .ok (.ifnonnull off, 3)) (k : Wk p l e R s m args below meth c nL D HB Q h cells slots (pc + 3) lv rest) : Wk p l e R s m args below meth c nL D HB Q h cells slots pc lv (.null :: rest) :=
  fun H locs ls hP hS hl => lv_ifnonnullN C.1 C.2.1 hd (k H locs ls hP hS hl)
/-- '==' and '!=' of two references that aren't null -/
theorem wk_aeq (C : wk_C p s m args meth c cc own nL ret hh D HB) {x y : Nat} {off : Int} {tgt : Nat} (hd : decode cc pc = .ok (.if_acmp .eq off, 3)) (ht : (pc : Int) + off = (tgt : Int)) (kt : x = y → Wk p l e R s m args below meth c nL D HB Q h cells slots tgt lv rest) (kf : ¬ x = y → Wk p l e R s m args below meth c nL D HB Q h cells slots (pc + 3) lv rest) : Wk p l e R s m args below meth c nL D HB Q h cells slots pc lv (.ref y :: .ref x :: rest) :=
  fun H locs ls hP hS hl => lv_acmp_eq (rx := some x) (ry := some y) C.1 C.2.1 hd ht (fun z => kt (Option.some.inj z) H locs ls hP hS hl) (fun z => kf (fun y => z (congrArg some y)) H locs ls hP hS hl)
theorem wk_ane (C : wk_C p s m args meth c cc own nL ret hh D HB) {x y : Nat} {off : Int} {tgt : Nat} (hd : decode cc pc = .ok (.if_acmp .ne off, 3)) (ht : (pc : Int) + off = (tgt : Int)) (kt : ¬ x = y → Wk p l e R s m args below meth c nL D HB Q h cells slots tgt lv rest) (kf : x = y → Wk p l e R s m args below meth c nL D HB Q h cells slots (pc + 3) lv rest) : Wk p l e R s m args below meth c nL D HB Q h cells slots pc lv (.ref y :: .ref x :: rest) :=
  fun H locs ls hP hS hl => lv_acmp_ne (rx := some x) (ry := some y) C.1 C.2.1 hd ht (fun z => kt (fun y => z (congrArg some y)) H locs ls hP hS hl) (fun z => kf (Option.some.inj z) H locs ls hP hS hl)
theorem wk_idiv (C : wk_C p s m args meth c cc own nL ret hh D HB) {x y : Int32} (hd : decode cc pc = .ok (.idiv, 1)) (hn : ¬ y = 0) (k : Wk p l e R s m args below meth c nL D HB Q h cells slots (pc + 1) lv (.int (x / y) :: rest)) : Wk p l e R s m args below meth c nL D HB Q h cells slots pc lv (.int y :: .int x :: rest) :=
  fun H locs ls hP hS hl => lv_idiv C.1 C.2.1 hd hn (k H locs ls hP hS hl)
theorem wk_irem (C : wk_C p s m args meth c cc own nL ret hh D HB) {x y : Int32} (hd : decode cc pc = .ok (.irem, 1)) (hn : ¬ y = 0) (k : Wk p l e R s m args below meth c nL D HB Q h cells slots (pc + 1) lv (.int (x - x / y * y) :: rest)) : Wk p l e R s m args below meth c nL D HB Q h cells slots pc lv (.int y :: .int x :: rest) :=
  fun H locs ls hP hS hl => lv_irem C.1 C.2.1 hd hn (k H locs ls hP hS hl)
theorem wk_ldiv (C : wk_C p s m args meth c cc own nL ret hh D HB) {x y : Int64} (hd : decode cc pc = .ok (.ldiv, 1)) (hn : ¬ y = 0) (k : Wk p l e R s m args below meth c nL D HB Q h cells slots (pc + 1) lv (.long (x / y) :: rest)) : Wk p l e R s m args below meth c nL D HB Q h cells slots pc lv (.long y :: .long x :: rest) :=
  fun H locs ls hP hS hl => lv_ldiv C.1 C.2.1 hd hn (k H locs ls hP hS hl)
theorem wk_lrem (C : wk_C p s m args meth c cc own nL ret hh D HB) {x y : Int64} (hd : decode cc pc = .ok (.lrem, 1)) (hn : ¬ y = 0) (k : Wk p l e R s m args below meth c nL D HB Q h cells slots (pc + 1) lv (.long (x - x / y * y) :: rest)) : Wk p l e R s m args below meth c nL D HB Q h cells slots pc lv (.long y :: .long x :: rest) :=
  fun H locs ls hP hS hl => lv_lrem C.1 C.2.1 hd hn (k H locs ls hP hS hl)
/-! fields: what a field's entry in a constant pool says, in one word -/
def fd_ok (own : String) (index ci k : Nat) (ty : FieldType) (fin : Bool) : Prop :=
  ∃ (ref cN : String) (T : u_T) (N : Nat) (ts : Nat → FieldType), vwCl[ci]? = some (cN, T, N) ∧ (∀ w ∈ u_ws cN T N, w ∈ kw_L) ∧ k < N ∧ Cond.fieldLink own index ref (T k).2.1 (T k).2.2.1 ∈ kw_L ∧ ((T k).1 = ref ∨ Cond.sameField ref (T k).1 (T k).2.1 (T k).2.2.1 ∈ kw_L) ∧
    parseFieldDescriptor (T k).2.2.1 = some ty ∧ (T k).2.2.2 = fin ∧ (∀ j, j < N → parseFieldDescriptor (T j).2.2.1 = some (ts j)) ∧ (∀ a, a < N → ∀ b, b < N → a ≠ b → (T a).2.1 ≠ (T b).2.1)
def ff_ok (own : String) (index ci k : Nat) (ty : FieldType) : Prop := fd_ok own index ci k ty true ∧ ∃ (cN : String) (T : u_T) (N : Nat), vwCl[ci]? = some (cN, T, N) ∧ (T k).1 = own
theorem wk_get (C : wk_C p s m args meth c cc own nL ret hh D HB) {a index ci k : Nat} {ty : FieldType} {fin : Bool} {fs : List Value} {v : Value} (F : fd_ok own index ci k ty fin) (ha : h a = some (.inr (ci, fs))) (hv : fs[k]? = some v) (hd : decode cc pc = .ok (.getfield index, 3))
    (kk : Wk p l e R s m args below meth c nL D HB Q h cells slots (pc + 3) lv (v :: rest)) : Wk p l e R s m args below meth c nL D HB Q h cells slots pc lv (.ref a :: rest) := by
  intro H locs ls hP hS hl
  obtain ⟨ref, cN, T, N, ts, hc, hin, hk, hlink, hsame, -⟩ := F
  refine va_get (D := D) (ws := [(a, .inr (ci, fs))]) C.1 C.2.1 C.hts hin C.ow C.K (hP.one ha) 0 rfl hc k hk (C.hts _ hlink) ?_ hv hd (kk H locs ls hP hS hl)
  intro x hx
  rcases hsame with z | z
  · rw [← z]; exact hx
  · exact u_same (C.hts _ z) x hx
theorem wk_put (C : wk_C p s m args meth c cc own nL ret hh D HB) {a index ci k : Nat} {ty : FieldType} {fs fs2 : List Value} {v : Value} (F : fd_ok own index ci k ty false) (ha : h a = some (.inr (ci, fs))) (hn : narrow ty v = v) (hf : fits ty v = true) (hlt : k < fs.length) (e2 : fs.set k v = fs2) (hd : decode cc pc = .ok (.putfield index, 3))
    (kk : Wk p l e R s m args below meth c nL D HB Q (hp_up h a (.inr (ci, fs2))) cells slots (pc + 3) lv rest) : Wk p l e R s m args below meth c nL D HB Q h cells slots pc lv (v :: .ref a :: rest) := by
  intro H locs ls hP hS hl
  subst e2
  obtain ⟨ref, cN, T, N, ts, hc, hin, hk, hlink, hsame, hpd, hfin, hts, hnm⟩ := F
  obtain ⟨q0, hq⟩ := hP.at ha
  refine va_put (D := D) C.1 C.2.1 C.hts hin ts hts hnm C.ow C.K hP.P hP.D hS q0 hq hc k hk (C.hts _ hlink) ?_ hfin hpd hn hf hlt hd (fun H1 locs1 p1 d1 s1 => kk H1 locs1 ls (hP.set hq p1) s1 hl)
  intro x hx
  rcases hsame with z | z
  · rw [← z]; exact hx
  · exact u_same (C.hts _ z) x hx
theorem wk_putF (C : wk_C p s m args meth c cc own nL ret hh D HB) {a index ci k : Nat} {ty : FieldType} {fs fs2 : List Value} {v : Value} (F : ff_ok own index ci k ty) (hin2 : meth.name = "<init>") (ha : h a = some (.inr (ci, fs))) (hn : narrow ty v = v) (hf : fits ty v = true) (hlt : k < fs.length) (e2 : fs.set k v = fs2) (hd : decode cc pc = .ok (.putfield index, 3))
    (kk : Wk p l e R s m args below meth c nL D HB Q (hp_up h a (.inr (ci, fs2))) cells slots (pc + 3) lv rest) : Wk p l e R s m args below meth c nL D HB Q h cells slots pc lv (v :: .ref a :: rest) := by
  intro H locs ls hP hS hl
  subst e2
  obtain ⟨⟨ref, cN, T, N, ts, hc, hin, hk, hlink, hsame, hpd, hfin, hts, hnm⟩, cN2, T2, N2, hc2, hdecl⟩ := F
  cases Option.some.inj (hc.symm.trans hc2)
  obtain ⟨q0, hq⟩ := hP.at ha
  refine va_putF (D := D) C.1 C.2.1 C.hts hin ts hts hnm C.ow C.K hP.P hP.D hS q0 hq hc k hk (C.hts _ hlink) ?_ hfin hin2 hdecl hpd hn hf hlt hd (fun H1 locs1 p1 d1 s1 => kk H1 locs1 ls (hP.set hq p1) s1 hl)
  intro x hx
  rcases hsame with z | z
  · rw [← z]; exact hx
  · exact u_same (C.hts _ z) x hx
/-- what 'new' of a class asks -/
def nw_ok (own : String) (index ci N : Nat) (fs : List Value) : Prop :=
  ∃ (cN : String) (T : u_T) (ts : Nat → FieldType), vwCl[ci]? = some (cN, T, N) ∧ (∀ w ∈ u_ws cN T N, w ∈ kw_L) ∧ (∀ j, j < N → parseFieldDescriptor (T j).2.2.1 = some (ts j)) ∧ Cond.classLink own index cN ∈ kw_L ∧ Cond.instantiable cN N ∈ kw_L ∧ Cond.initialized cN ∈ kw_L ∧ ∀ j, j < N → defaultValue (ts j) = vp_V fs j
theorem wk_new (C : wk_C p s m args meth c cc own nL ret hh D HB) {index ci N : Nat} {fs : List Value} (F : nw_ok own index ci N fs) (hc : cells + 1 ≤ R.cells) (hs : slots + N ≤ R.slots) (hd : decode cc pc = .ok (.new index, 3))
    (kk : ∀ q : Nat, h q = none → Wk p l e R s m args below meth c nL D HB Q (hp_up h q (.inr (ci, fs))) (cells + 1) (slots + N) (pc + 3) lv (.ref q :: rest)) : Wk p l e R s m args below meth c nL D HB Q h cells slots pc lv rest := by
  intro H locs ls hP hS hl
  obtain ⟨cN, T, ts, hcl, hin, hts, hlink, hinst, hini, hdef⟩ := F
  refine va_new (D := D) C.1 C.2.1 C.hts hin ts hts C.ow (C.hts _ hlink) (C.hts _ hinst) (C.hts _ hini) C.K hP.P hP.D hS (fun q z => z) hcl hdef hc hs hd (fun q H1 p1 d1 s1 => ?_)
  obtain ⟨p2, hn⟩ := hP.new p1 d1
  exact kk q hn H1 locs ls p2 s1 hl
/-! arrays -/
theorem wk_iald (C : wk_C p s m args meth c cc own nL ret hh D HB) {a n : Nat} {f : Nat → Int32} {i : Int32} (ha : h a = some (.inl (D.1 100, n, .inl f))) (hi : vp_in i n) (hd : decode cc pc = .ok (.iaload, 1))
    (kk : Wk p l e R s m args below meth c nL D HB Q h cells slots (pc + 1) lv (.int (f i.toNatClampNeg) :: rest)) : Wk p l e R s m args below meth c nL D HB Q h cells slots pc lv (.int i :: .ref a :: rest) :=
  fun H locs ls hP hS hl => va_iald (D := D) C.1 C.2.1 C.K (hP.one ha) 0 0 rfl rfl hi hd (kk H locs ls hP hS hl)
theorem wk_lald (C : wk_C p s m args meth c cc own nL ret hh D HB) {a n : Nat} {f : Nat → Int64} {i : Int32} (ha : h a = some (.inl (D.1 101, n, .inr (.inl f)))) (hi : vp_in i n) (hd : decode cc pc = .ok (.laload, 1))
    (kk : Wk p l e R s m args below meth c nL D HB Q h cells slots (pc + 1) lv (.long (f i.toNatClampNeg) :: rest)) : Wk p l e R s m args below meth c nL D HB Q h cells slots pc lv (.int i :: .ref a :: rest) :=
  fun H locs ls hP hS hl => va_lald (D := D) C.1 C.2.1 C.K (hP.one ha) 0 1 rfl rfl hi hd (kk H locs ls hP hS hl)
theorem wk_iast (C : wk_C p s m args meth c cc own nL ret hh D HB) {a n : Nat} {f : Nat → Int32} {i x : Int32} (ha : h a = some (.inl (D.1 100, n, .inl f))) (hi : vp_in i n) (hd : decode cc pc = .ok (.iastore, 1))
    (kk : Wk p l e R s m args below meth c nL D HB Q (hp_up h a (.inl (D.1 100, n, .inl (upd f i.toNatClampNeg x)))) cells slots (pc + 1) lv rest) : Wk p l e R s m args below meth c nL D HB Q h cells slots pc lv (.int x :: .int i :: .ref a :: rest) := by
  intro H locs ls hP hS hl
  obtain ⟨q0, hq⟩ := hP.at ha
  exact va_iast (D := D) C.1 C.2.1 C.K hP.P hP.D hS q0 0 hq rfl hi hd (fun H1 locs1 p1 d1 s1 => kk H1 locs1 ls (hP.set hq p1) s1 hl)
theorem wk_last (C : wk_C p s m args meth c cc own nL ret hh D HB) {a n : Nat} {f : Nat → Int64} {i : Int32} {x : Int64} (ha : h a = some (.inl (D.1 101, n, .inr (.inl f)))) (hi : vp_in i n) (hd : decode cc pc = .ok (.lastore, 1))
    (kk : Wk p l e R s m args below meth c nL D HB Q (hp_up h a (.inl (D.1 101, n, .inr (.inl (vp_updL f i.toNatClampNeg x))))) cells slots (pc + 1) lv rest) : Wk p l e R s m args below meth c nL D HB Q h cells slots pc lv (.long x :: .int i :: .ref a :: rest) := by
  intro H locs ls hP hS hl
  obtain ⟨q0, hq⟩ := hP.at ha
  exact va_last (D := D) C.1 C.2.1 C.K hP.P hP.D hS q0 1 hq rfl hi hd (fun H1 locs1 p1 d1 s1 => kk H1 locs1 ls (hP.set hq p1) s1 hl)
/-! ends of a method: the contract's own words -/
end WC
/-- how a method ends: with an answer, or by an exception of the class of that name -/
abbrev ct_O : Type := Option Value ⊕ String
def ct_E (D : va_G) (HB : Heap) (post : ct_O → hp_T → Prop) (s : State) (o : Outcome) (t : State) : Prop := match o with
  | .returned v => ∃ h2, post (.inl v) h2 ∧ hp_P D HB h2 t.heap ∧ va_S (hp_A HB) HB t.heap []
  | .threw x => ∃ (E : String) (ce : Cell) (h2 : hp_T), post (.inr E) h2 ∧ hp_P D HB h2 t.heap ∧ va_S (hp_A HB) HB t.heap [] ∧ t.heap[x]? = some ce ∧ ce.vm = .none ∧ s.vm.findClass E = some ce.cls
def ct_Q (below : List Frame) (D : va_G) (HB : Heap) (post : ct_O → hp_T → Prop) (s : State) (mc ms : Nat) : State → Prop := fun t =>
  ∃ o, t.status = .running ∧ Ended t below o ∧ ct_E D HB post s o t ∧ ∃ L : List Loc, s.WarmedH t.vm ∧ s.sameButNew ({ t with vm := s.vm } : State) L mc ms ∧ ∀ q ∈ L, HB.size ≤ q.base
/-- a method's contract: from every heap that holds h, by whatever caller: it ends, with 'post' of the outcome and the heap that there is then -/
def ct_M (l : Launch) (y : MethodName) (w0 : Cond) (rm : Room) (D : va_G) (HB : Heap) (av : List Value) (h : hp_T) (post : ct_O → hp_T → Prop) : Prop :=
  MetFree l y (headSpec (w0 :: kw_L) rm) (fun a U => a = av.toArray ∧ hp_P D HB h U.heap ∧ va_S (hp_A HB) HB U.heap [] ∧ va_K D vwCl (ty_L D) U ∧ ev_S D HB U) (fun _ _ _ _ _ => True)
    (fun _ st o t => ct_E D HB post st o t ∧ ∃ L : List Loc, st.WarmedH t.vm ∧ st.sameButNew ({ t with vm := st.vm } : State) L rm.cells rm.slots ∧ ∀ q ∈ L, HB.size ≤ q.base)
section WE
variable {p : Program} {l : Launch} {e : Env} {R : Room} {s : State} {m : MethodId} {args : Array Value} {below : List Frame} {meth : Method} {c : Code} {Q : State → Prop}
variable {cc : ByteArray} {own : String} {nL : Nat} {ret : Option FieldType} {hh : List (Nat × Nat × Nat × Nat)} {D : va_G} {HB : Heap}
variable {h : hp_T} {cells slots pc : Nat} {lv : List (Nat × Value)} {st rest : List Value} {post : ct_O → hp_T → Prop} {mc ms : Nat}
theorem va_S.nil {A : Nat → Prop} {H0 H : Heap} {locs : List Loc} (hS : va_S A H0 H locs) : va_S A H0 H [] := ⟨hS.1, hS.2.1, fun _ z => by cases z⟩
theorem wk_iret (C : wk_C p s m args meth c cc own nL (some .int) hh D HB) {v : Int32} (hp : post (.inl (some (.int v))) h) (hc : cells ≤ mc) (hs : slots ≤ ms) (hd : decode cc pc = .ok (.ireturn, 1)) : Wk p l e R s m args below meth c nL D HB (ct_Q below D HB post s mc ms) h cells slots pc lv [.int v] := by
  intro H locs ls hP hS hl
  refine W.widen hc hs ?_
  intro T hT X
  obtain ⟨t, a1, o, b1, b2, b3, L, ⟨-, b4, b5⟩, b6⟩ := W.iret (Qc := fun _ s o t => ct_E D HB post s o t) (free := fun q => HB.size ≤ q) C.1 C.2.1 C.rt (fun t ht _ => ⟨h, hp, by rw [ht]; exact hP, by rw [ht]; exact hS.nil⟩) hS.2.2 hd C.locks T hT X
  exact ⟨t, a1, o, b1, b2, b3, L, b4, b5, b6⟩
theorem wk_zret (C : wk_C p s m args meth c cc own nL (some .boolean) hh D HB) {v : Int32} (hn : narrow .boolean (.int v) = .int v) (hp : post (.inl (some (.int v))) h) (hc : cells ≤ mc) (hs : slots ≤ ms) (hd : decode cc pc = .ok (.ireturn, 1)) : Wk p l e R s m args below meth c nL D HB (ct_Q below D HB post s mc ms) h cells slots pc lv [.int v] := by
  intro H locs ls hP hS hl
  refine W.widen hc hs ?_
  intro T hT X
  obtain ⟨t, a1, o, b1, b2, b3, L, ⟨-, b4, b5⟩, b6⟩ := W.zret (Qc := fun _ s o t => ct_E D HB post s o t) (free := fun q => HB.size ≤ q) C.1 C.2.1 C.rt hn (fun t ht _ => ⟨h, hp, by rw [ht]; exact hP, by rw [ht]; exact hS.nil⟩) hS.2.2 hd C.locks T hT X
  exact ⟨t, a1, o, b1, b2, b3, L, b4, b5, b6⟩
theorem wk_vret (C : wk_C p s m args meth c cc own nL none hh D HB) (hp : post (.inl none) h) (hc : cells ≤ mc) (hs : slots ≤ ms) (hd : decode cc pc = .ok (.return_, 1)) : Wk p l e R s m args below meth c nL D HB (ct_Q below D HB post s mc ms) h cells slots pc lv [] := by
  intro H locs ls hP hS hl
  refine W.widen hc hs ?_
  intro T hT X
  obtain ⟨t, a1, o, b1, b2, b3, L, ⟨-, b4, b5⟩, b6⟩ := W.vret (Qc := fun _ s o t => ct_E D HB post s o t) (free := fun q => HB.size ≤ q) C.1 C.2.1 C.rt (fun t ht _ => ⟨h, hp, by rw [ht]; exact hP, by rw [ht]; exact hS.nil⟩) hS.2.2 hd C.locks T hT X
  exact ⟨t, a1, o, b1, b2, b3, L, b4, b5, b6⟩
theorem wk_aret (C : wk_C p s m args meth c cc own nL ret hh D HB) {v : Value} {rt : FieldType} (er : ret = some rt) (hrt : (∃ n, rt = .object n) ∨ ∃ t, rt = .array t) (hv : v = .null ∨ ∃ a, v = .ref a) (hp : post (.inl (some v)) h) (hc : cells ≤ mc) (hs : slots ≤ ms) (hd : decode cc pc = .ok (.areturn, 1)) : Wk p l e R s m args below meth c nL D HB (ct_Q below D HB post s mc ms) h cells slots pc lv [v] := by
  intro H locs ls hP hS hl
  refine W.widen hc hs ?_
  intro T hT X
  obtain ⟨t, a1, o, b1, b2, b3, L, ⟨-, b4, b5⟩, b6⟩ := W.aret (Qc := fun _ s o t => ct_E D HB post s o t) (free := fun q => HB.size ≤ q) C.1 C.2.1 (C.rt.trans er) hrt hv (fun t ht _ => ⟨h, hp, by rw [ht]; exact hP, by rw [ht]; exact hS.nil⟩) hS.2.2 hd C.locks T hT X
  exact ⟨t, a1, o, b1, b2, b3, L, b4, b5, b6⟩
/-- an exception x is under way at pc of the walked method -/
def Wx (p : Program) (l : Launch) (e : Env) (R : Room) (s : State) (m : MethodId) (args : Array Value) (below : List Frame) (meth : Method) (c : Code) (nL : Nat) (D : va_G) (HB : Heap) (Q : State → Prop) (h : hp_T) (cells slots pc : Nat) (lv : List (Nat × Value)) (E : String) : Prop :=
  ∀ (x : Addr) (ce : Cell) (T : State) (locs : List Loc) (ls : Array Slot) (st : List Value), T.heap[x]? = some ce → ce.vm = .none → s.vm.findClass E = some ce.cls → hp_P D HB h T.heap → va_S (hp_A HB) HB T.heap locs → lv_has ls nL lv → Stand p l e R s m args below meth c T locs cells slots → ∃ t, Steps p.tables e below ((T.setTop (F0 m pc ls st)).pushFrame (.throwing x)) t ∧ Q t
/-- no handler: the method throws it on -/
theorem wx_out (C : wk_C p s m args meth c cc own nL ret [] D HB) {E : String} (hp : post (.inr E) h) (hc : cells ≤ mc) (hs : slots ≤ ms) : Wx p l e R s m args below meth c nL D HB (ct_Q below D HB post s mc ms) h cells slots pc lv E := by
  intro x ce T locs ls st hx1 hx2 hx3 hP hS hl X
  have ht : c.exceptionTable.toList = [] := List.map_eq_nil_iff.mp C.tab
  obtain ⟨a1, a2, a3, a4, a5⟩ := (stand_widen X hc hs).leaveThrown x (g := F0 m pc ls st) rfl rfl rfl (by rw [ht]; intro y hy; cases hy) C.locks
  exact ⟨_, a1, .threw x, a2, a3, ⟨E, ce, h, hp, hP, hS.nil, hx1, hx2, hx3⟩, locs, a4, a5, hS.2.2⟩
/-- the contract out of the walk of the body -/
theorem ct_of {y : MethodName} {rm : Room} {av : List Value} (hy : plainName y.cls = true) (hlen : (lg_sl av).length ≤ nL) {lv : List (Nat × Value)} (elv : lv_args 0 av = lv)
    (body : ∀ (p : Program) (e : Env) (s : State) (m : MethodId) (args : Array Value) (below : List Frame) (meth : Method) (c : Code), wk_C p s m args meth c cc y.cls nL ret [] D HB → meth.name = y.name → Wk p l e rm s m args below meth c nL D HB (ct_Q below D HB post s rm.cells rm.slots) h 0 0 0 lv []) : ct_M l y (.code y cc nL ret) rm D HB av h post := by
  refine MetFree.of_bodyS (code := cc) (maxLocals := nL) (ret := ret) hy ?_ ?_
  · intro args s m hpre hn
    obtain ⟨meth, c, h1, h2, h3, h4, h5, h6, -, -⟩ := Cond.code_spec hn (atoms_spec (ws := .code y cc nL ret :: kw_L) hpre _ List.mem_cons_self)
    exact ⟨meth, c, h1, h2, h3, h4, h5, h6⟩
  · intro p e s m args below meth c s₁ B hml hP _
    obtain ⟨rfl, hPh, hS, hK, hE⟩ := hP
    have hts := atoms_spec (ws := .code y cc nL ret :: kw_L) B.pre
    have hh0 : s₁.heap = s.heap := by rw [B.state]; rfl
    have hex : c.exceptionTable.isEmpty = true := B.noHandlers (hts _ List.mem_cons_self)
    have htab : c.exceptionTable.toList.map (fun x => (x.startPc, x.endPc, x.handlerPc, x.catchType)) = [] := by
      have : c.exceptionTable = #[] := by simpa using hex
      rw [this]; rfl
    have C : wk_C p s m av.toArray meth c cc y.cls nL ret [] D HB := ⟨B.exec, B.bytes, hml, findClass_of_methodNamed B.named, fun w hw => hts w (List.mem_cons_of_mem _ hw), B.returns, B.notSynchronized, hK, htab, hS, hE⟩
    have hl := lv_entry av (n := nL) hlen
    rw [elv] at hl
    have K := body p e s m av.toArray below meth c C (name_of_methodNamed B.named B.method).1 s.heap [] _ hPh hS hl
    rw [← lg_entry_eq (m := m)] at K
    obtain ⟨t, a1, o, b1, b2, b3, L, b4, b5, b6⟩ := K s₁ hh0 (Stand.of_body B)
    exact ⟨t, o, a1, b1, b2, b3, L, b4, b5, b6⟩
/-- a call by contract: it comes back, or it throws -/
theorem ct_call (C : wk_C p s m args meth c cc own nL ret hh D HB) {T : State} {locs : List Loc} (X : Stand p l e R s m args below meth c T locs cells slots) {y : MethodName} {w0 : Cond} {rm : Room} {av : List Value} (M : ct_M l y w0 rm D HB av h post)
    {maxL : Nat} (hw0 : w0 ∈ kw_L) (hm0 : ∀ (a' : Array Value) (U : State) (mk : MethodId), w0.before a' U = true → U.methodNamed? y = some mk → ∃ methY cY, U.vm.method? mk = some methY ∧ methY.code = some cY ∧ cY.maxLocals = maxL) (hini : Cond.initialized y.cls ∈ kw_L)
    {g : JFrame} (hg : g.method = m) (hsize : g.locals.size = nL) {ig : Instr} {len : Nat} (hdg : decode c.code g.pc = .ok (ig, len)) (hWt : 2 * g.monitorRoom + (g.stack.map fun v => v.category).sum ≤ 8) {mk : MethodId} (hn : T.methodNamed? y = some mk)
    (hfr : rm.frames + 1 ≤ R.frames) (hlo : 8 + (maxL + 11) + rm.locals ≤ R.locals) (hc : cells + rm.cells ≤ R.cells) (hs : slots + rm.slots ≤ R.slots) (hP : hp_P D HB h T.heap) (hS : va_S (hp_A HB) HB T.heap locs) :
    (∃ (v : Option Value) (h2 : hp_T) (T2 : State) (locs2 : List Loc), post (.inl v) h2 ∧ hp_P D HB h2 T2.heap ∧ va_S (hp_A HB) HB T2.heap locs2 ∧ Stand p l e R s m args below meth c T2 locs2 (cells + rm.cells) (slots + rm.slots) ∧ Steps p.tables e below (doInvoke e (T.setTop g) [] mk av.toArray).1 (T2.setTop { g with pc := g.pc + len, stack := v.toList ++ g.stack })) ∨
    (∃ (x : Addr) (E : String) (ce : Cell) (h2 : hp_T) (T2 : State) (locs2 : List Loc), post (.inr E) h2 ∧ T2.heap[x]? = some ce ∧ ce.vm = .none ∧ s.vm.findClass E = some ce.cls ∧ hp_P D HB h2 T2.heap ∧ va_S (hp_A HB) HB T2.heap locs2 ∧ Stand p l e R s m args below meth c T2 locs2 (cells + rm.cells) (slots + rm.slots) ∧ Steps p.tables e below (doInvoke e (T.setTop g) [] mk av.toArray).1 ((T2.setTop g).pushFrame (.throwing x))) := by
  have hal := X.warmed.alike
  have hwd : ∀ w ∈ (w0 :: kw_L), w.before av.toArray T = true := by
    intro w hw
    have hw' : w ∈ kw_L := by
      rcases List.mem_cons.mp hw with z | z
      · rw [z]; exact hw0
      · exact z
    exact kw_at X.warmed (kw_ok hw') (C.hts w hw')
  obtain ⟨methY, cY, hmY, hcY, hlY⟩ := hm0 _ T mk (hwd _ List.mem_cons_self) hn
  obtain ⟨kY, hkY, -⟩ := className_of_methodNamed hn
  have hinitY : kY.init = .initialized := Cond.initialized_spec (findClass_of_methodNamed hn) hkY (hwd _ (List.mem_cons_of_mem _ hini))
  have hh1 : At T g.method c below := by rw [hg]; exact X.here
  have happ : (headSpec (w0 :: kw_L) rm).appliesLoose y e.platform (T.calling g mk av.toArray) = true :=
    Spec.appliesLoose_calling (g := g) hh1 hdg hn hkY hinitY
      (X.room_calling (g := g) (R' := rm) (hsize.trans C.2.2.1.symm) hmY hcY hfr (by rw [hlY]; omega) hc hs) (atoms_intro hwd)
  obtain ⟨mid, hmid⟩ := hh1.above
  have hfr2 : (T.setTop g).frames = (.java g :: mid) ++ below := by rw [State.frames_setTop' g hh1.top, hmid]; rfl
  have hev : ev_S D HB T := C.ev.moved X.warmed
  obtain ⟨o, s₂, hsteps, -, hend, hE, L, hW2, hsame, hL⟩ := Steps.callFree M p X.admits X.cas X.clock (acts := []) hfr2 happ ⟨rfl, hP, hS.nil, va_K.moved hal C.K, hev⟩ trivial
  rw [State.frames_setTop' g hh1.top, X.tail] at hend
  have hS3 : va_S (hp_A HB) HB s₂.heap [] → va_S (hp_A HB) HB s₂.heap (locs ++ L) := fun hS2 => ⟨hS2.1, hS2.2.1, fun q hq => by
    rcases List.mem_append.mp hq with z | z
    · exact hS.2.2 q z
    · exact hL q z⟩
  cases o with
  | returned v =>
    obtain ⟨h2, hpo, hP2, hS2⟩ := hE
    obtain ⟨T2, X2, -, -, rfl⟩ := X.outOf hg hdg hend hW2 hsame
    exact Or.inl ⟨v, h2, T2, locs ++ L, hpo, hP2, hS3 hS2, X2, hsteps⟩
  | threw x =>
    obtain ⟨E, ce, h2, hpo, hP2, hS2, hx1, hx2, hx3⟩ := hE
    have hx4 : s.vm.findClass E = some ce.cls := by rw [← hal.findClass]; exact hx3
    obtain ⟨T2, X2, -, -, rfl⟩ := X.outOfThrown hg hend hW2 hsame
    exact Or.inr ⟨x, E, ce, h2, T2, locs ++ L, hpo, hx1, hx2, hx4, hP2, hS3 hS2, X2, hsteps⟩
theorem ct_codeL {y : MethodName} {b : ByteArray} {n : Nat} {r : Option FieldType} (a' : Array Value) (U : State) (mk : MethodId) (hw : (Cond.code y b n r).before a' U = true) (hn : U.methodNamed? y = some mk) : ∃ methY cY, U.vm.method? mk = some methY ∧ methY.code = some cY ∧ cY.maxLocals = n := by
  obtain ⟨meth, c, h1, h2, -, h4, -⟩ := Cond.code_spec hn hw
  exact ⟨meth, c, h1, h2, h4⟩
/-- what a call's site says -/
def cs_V (own : String) (index : Nat) (cN : String) (y : MethodName) (n : Nat) : Prop := Cond.methodLink own index y ∈ kw_L ∧ Cond.instanceMethod y ∈ kw_L ∧ Cond.selects cN y y ∈ kw_L ∧ (y.cls ≠ "java/lang/invoke/MethodHandle" ∧ y.cls ≠ "java/lang/invoke/VarHandle") ∧ (parseMethodDescriptor y.desc).map (fun d => d.parameters.length) = some n
theorem cs_len {y : MethodName} {n : Nat} (h1 : (parseMethodDescriptor y.desc).map (fun d => d.parameters.length) = some n) (sig : MethodDescriptor) (h2 : parseMethodDescriptor y.desc = some sig) : n = sig.parameters.length := by
  rw [h2] at h1
  exact (Option.some.inj h1).symm
/-- invokevirtual of a method that the receiver's own class has -/
theorem wk_callV (C : wk_C p s m args meth c cc own nL ret hh D HB) {y : MethodName} {by2 : ByteArray} {maxL : Nat} {rt : Option FieldType} {rm : Room} {b : Nat} {As : List Value} {pst : ct_O → hp_T → Prop} (M : ct_M l y (.code y by2 maxL rt) rm D HB (.ref b :: As) h pst)
    {index n ci : Nat} {cl : vw_C} {fs : List Value} (Y : cs_V own index cl.1 y n) (hcd : Cond.code y by2 maxL rt ∈ kw_L) (hini : Cond.initialized y.cls ∈ kw_L) (hb : h b = some (.inr (ci, fs))) (hcl : vwCl[ci]? = some cl) (hAs : As.length = n) {st : List Value} (hst : st = As.reverse ++ .ref b :: rest) (hWt : (rest.map fun v => v.category).sum ≤ 8)
    (hfr : rm.frames + 1 ≤ R.frames) (hlo : 8 + (maxL + 11) + rm.locals ≤ R.locals) (hc : cells + rm.cells ≤ R.cells) (hs : slots + rm.slots ≤ R.slots) (hd : decode cc pc = .ok (.invokevirtual index, 3))
    (kr : ∀ (v : Option Value) (h2 : hp_T), pst (.inl v) h2 → Wk p l e R s m args below meth c nL D HB Q h2 (cells + rm.cells) (slots + rm.slots) (pc + 3) lv (v.toList ++ rest))
    (kx : ∀ (E : String) (h2 : hp_T), pst (.inr E) h2 → Wx p l e R s m args below meth c nL D HB Q h2 (cells + rm.cells) (slots + rm.slots) pc lv E) : Wk p l e R s m args below meth c nL D HB Q h cells slots pc lv st := by
  intro H locs ls hP hS hl T hT X
  obtain ⟨hlink, hinst, hsel, hy, hnp⟩ := Y
  obtain ⟨mk, methM, hnamed, hmethM, hstM, habM⟩ := Cond.instanceMethod_spec (C.hts _ hinst)
  obtain ⟨methM', cM, hmethM', -, -, -, -, -, -, hsigM⟩ := Cond.code_spec hnamed (C.hts _ hcd)
  cases hmethM.symm.trans hmethM'
  obtain ⟨cellB, hcB, hoB, hclB⟩ := va_recv C.K (hP.one hb) hcl (q0 := 0) rfl
  obtain ⟨c2, r2, m2, q1, q2, q3, q4, kP, hkP, hkPi⟩ := Cond.selects_spec (C.hts _ hsel)
  cases hclB.symm.trans q1
  cases (State.methodFound?_of_named hnamed hy).symm.trans q2
  cases hnamed.symm.trans q3
  have hselP : selectMethod e.platform s.vm cellB.cls mk = .method mk := by rw [Launch.admits_selectMethod X.admits]; exact q4
  subst hst
  subst hT
  have hbd : decode c.code pc = .ok (.invokevirtual index, 3) := by rw [C.2.1]; exact hd
  obtain ⟨vm₁, X₁, hstep₁⟩ := X.invokevirtual C.1 C.ow (C.hts _ hlink) hnamed hmethM hstM hkP hkPi hy (a := b) (cell := cellB) hcB
    (fun z hz => by rw [hz] at hoB; cases hoB) hselP hmethM habM hkP hkPi (g := F0 m pc ls (As.reverse ++ .ref b :: rest)) rfl (argsL := As) (rest := rest) (hAs.trans (cs_len hnp _ hsigM)) rfl hbd
  rcases ct_call C X₁ M hcd ct_codeL hini (g := F0 m pc ls rest) rfl hl.1 hbd (lv_room hWt) (X₁.named hnamed) hfr hlo hc hs hP hS with ⟨v, h2, T2, locs2, hpo, hP2, hS2, X2, hst2⟩ | ⟨x, E, ce, h2, T2, locs2, hpo, hx1, hx2, hx3, hP2, hS2, X2, hst2⟩
  · obtain ⟨t, a1, b1⟩ := kr v h2 hpo T2.heap locs2 ls hP2 hS2 hl T2 rfl X2
    exact ⟨t, hstep₁ _ fun acts => by rw [doInvoke_state]; exact hst2.trans a1, b1⟩
  · obtain ⟨t, a1, b1⟩ := kx E h2 hpo x ce T2 locs2 ls rest hx1 hx2 hx3 hP2 hS2 hl X2
    exact ⟨t, hstep₁ _ fun acts => by rw [doInvoke_state]; exact hst2.trans a1, b1⟩
def cs_S (own : String) (index : Nat) (y : MethodName) (n : Nat) : Prop := Cond.methodLink own index y ∈ kw_L ∧ Cond.static y ∈ kw_L ∧ (y.cls ≠ "java/lang/invoke/MethodHandle" ∧ y.cls ≠ "java/lang/invoke/VarHandle") ∧ (parseMethodDescriptor y.desc).map (fun d => d.parameters.length) = some n
theorem wk_callS (C : wk_C p s m args meth c cc own nL ret hh D HB) {y : MethodName} {by2 : ByteArray} {maxL : Nat} {rt : Option FieldType} {rm : Room} {As : List Value} {pst : ct_O → hp_T → Prop} (M : ct_M l y (.code y by2 maxL rt) rm D HB As h pst)
    {index n : Nat} (Y : cs_S own index y n) (hcd : Cond.code y by2 maxL rt ∈ kw_L) (hini : Cond.initialized y.cls ∈ kw_L) (hAs : As.length = n) {st : List Value} (hst : st = As.reverse ++ rest) (hWt : (rest.map fun v => v.category).sum ≤ 8)
    (hfr : rm.frames + 1 ≤ R.frames) (hlo : 8 + (maxL + 11) + rm.locals ≤ R.locals) (hc : cells + rm.cells ≤ R.cells) (hs : slots + rm.slots ≤ R.slots) (hd : decode cc pc = .ok (.invokestatic index, 3))
    (kr : ∀ (v : Option Value) (h2 : hp_T), pst (.inl v) h2 → Wk p l e R s m args below meth c nL D HB Q h2 (cells + rm.cells) (slots + rm.slots) (pc + 3) lv (v.toList ++ rest))
    (kx : ∀ (E : String) (h2 : hp_T), pst (.inr E) h2 → Wx p l e R s m args below meth c nL D HB Q h2 (cells + rm.cells) (slots + rm.slots) pc lv E) : Wk p l e R s m args below meth c nL D HB Q h cells slots pc lv st := by
  intro H locs ls hP hS hl T hT X
  obtain ⟨hlink, hstat, hy, hnp⟩ := Y
  obtain ⟨mk, hnamed⟩ := Cond.code_named (C.hts _ hcd)
  obtain ⟨methM, cM, hmethM, -, -, -, -, -, -, hsigM⟩ := Cond.code_spec hnamed (C.hts _ hcd)
  have hstatic : methM.isStatic = true := Cond.static_spec hnamed hmethM (C.hts _ hstat)
  obtain ⟨kP, hkP, -⟩ := className_of_methodNamed hnamed
  have hinitP : kP.init = .initialized := Cond.initialized_spec (findClass_of_methodNamed hnamed) hkP (C.hts _ hini)
  subst hst
  subst hT
  have hbd : decode c.code pc = .ok (.invokestatic index, 3) := by rw [C.2.1]; exact hd
  obtain ⟨vm₁, X₁, hstep₁⟩ := X.invokestatic C.1 C.ow (C.hts _ hlink) hnamed hmethM hstatic hkP hinitP hy (g := F0 m pc ls (As.reverse ++ rest)) rfl (argsL := As) (rest := rest) (hAs.trans (cs_len hnp _ hsigM)) rfl hbd
  rcases ct_call C X₁ M hcd ct_codeL hini (g := F0 m pc ls rest) rfl hl.1 hbd (lv_room hWt) (X₁.named hnamed) hfr hlo hc hs hP hS with ⟨v, h2, T2, locs2, hpo, hP2, hS2, X2, hst2⟩ | ⟨x, E, ce, h2, T2, locs2, hpo, hx1, hx2, hx3, hP2, hS2, X2, hst2⟩
  · obtain ⟨t, a1, b1⟩ := kr v h2 hpo T2.heap locs2 ls hP2 hS2 hl T2 rfl X2
    exact ⟨t, hstep₁ _ fun acts => by rw [doInvoke_state]; exact hst2.trans a1, b1⟩
  · obtain ⟨t, a1, b1⟩ := kx E h2 hpo x ce T2 locs2 ls rest hx1 hx2 hx3 hP2 hS2 hl X2
    exact ⟨t, hstep₁ _ fun acts => by rw [doInvoke_state]; exact hst2.trans a1, b1⟩
def cs_I (own : String) (index : Nat) (y : MethodName) (n : Nat) : Prop := Cond.methodLink own index y ∈ kw_L ∧ Cond.instanceMethod y ∈ kw_L ∧ y.name = "<init>" ∧ (y.cls ≠ "java/lang/invoke/MethodHandle" ∧ y.cls ≠ "java/lang/invoke/VarHandle") ∧ (parseMethodDescriptor y.desc).map (fun d => d.parameters.length) = some n
theorem wk_callI (C : wk_C p s m args meth c cc own nL ret hh D HB) {y : MethodName} {by2 : ByteArray} {maxL : Nat} {rm : Room} {b : Nat} {As : List Value} {pst : ct_O → hp_T → Prop} (M : ct_M l y (.code y by2 maxL none) rm D HB (.ref b :: As) h pst)
    {index n : Nat} (Y : cs_I own index y n) (hcd : Cond.code y by2 maxL none ∈ kw_L) (hini : Cond.initialized y.cls ∈ kw_L) (hAs : As.length = n) {st : List Value} (hst : st = As.reverse ++ .ref b :: rest) (hWt : (rest.map fun v => v.category).sum ≤ 8)
    (hfr : rm.frames + 1 ≤ R.frames) (hlo : 8 + (maxL + 11) + rm.locals ≤ R.locals) (hc : cells + rm.cells ≤ R.cells) (hs : slots + rm.slots ≤ R.slots) (hd : decode cc pc = .ok (.invokespecial index, 3))
    (kr : ∀ (v : Option Value) (h2 : hp_T), pst (.inl v) h2 → Wk p l e R s m args below meth c nL D HB Q h2 (cells + rm.cells) (slots + rm.slots) (pc + 3) lv (v.toList ++ rest))
    (kx : ∀ (E : String) (h2 : hp_T), pst (.inr E) h2 → Wx p l e R s m args below meth c nL D HB Q h2 (cells + rm.cells) (slots + rm.slots) pc lv E) : Wk p l e R s m args below meth c nL D HB Q h cells slots pc lv st := by
  intro H locs ls hP hS hl T hT X
  obtain ⟨hlink, hinst, hy1, hy, hnp⟩ := Y
  subst hst
  subst hT
  have hpl : e.platform.magicAccessors = ({} : Platform).magicAccessors := by rw [X.admits.platform]
  have hbd : decode c.code pc = .ok (.invokespecial index, 3) := by rw [C.2.1]; exact hd
  obtain ⟨mk, methM, cM, kP, vm₁, hnamed, hmethM, hcodeM, -, hlocalsM, -, hkP, -, hW₁, hstep₁⟩ := Steps.initColdArgs (e := e) X.here C.1 X.warmed hpl C.ow hy1 hy (C.hts _ hlink) (C.hts _ hinst) (C.hts _ hcd) (f := F0 m pc ls (As.reverse ++ .ref b :: rest)) rfl (argsL := As) (fun sig hsig => hAs.trans (cs_len hnp sig hsig)) rfl hbd
  have X₁ := X.noted hW₁
  rcases ct_call C X₁ M hcd ct_codeL hini (g := F0 m pc ls rest) rfl hl.1 hbd (lv_room hWt) (X₁.named hnamed) hfr hlo hc hs hP hS with ⟨v, h2, T2, locs2, hpo, hP2, hS2, X2, hst2⟩ | ⟨x, E, ce, h2, T2, locs2, hpo, hx1, hx2, hx3, hP2, hS2, X2, hst2⟩
  · obtain ⟨t, a1, b1⟩ := kr v h2 hpo T2.heap locs2 ls hP2 hS2 hl T2 rfl X2
    exact ⟨t, hstep₁ _ fun acts => by rw [doInvoke_state]; exact hst2.trans a1, b1⟩
  · obtain ⟨t, a1, b1⟩ := kx E h2 hpo x ce T2 locs2 ls rest hx1 hx2 hx3 hP2 hS2 hl X2
    exact ⟨t, hstep₁ _ fun acts => by rw [doInvoke_state]; exact hst2.trans a1, b1⟩
end WE
