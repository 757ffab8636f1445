section
-- ===== PART A: goes FIRST, ahead of the names: the tables' words, and 'selects' of the private methods out of them =====
/-- a private method of a class that the tables say can be made, by its rows of tables_1 -/
def lw_okq (q : MethodName × Nat) : Prop := (q.1.cls ≠ "java/lang/invoke/MethodHandle" ∧ q.1.cls ≠ "java/lang/invoke/VarHandle") ∧ Cond.instantiable q.1.cls q.2 ∈ tables_1 ∧ Cond.privateMethod q.1 ∈ tables_1 ∧ Cond.instanceMethod q.1 ∈ tables_1
theorem lw_p0 : lw_okq (⟨"ProfileRights", "countRevoked", "()I"⟩, 7) := ⟨⟨by decide +kernel, by decide +kernel⟩, List.mem_of_getElem? (i := 24) (by decide +kernel), List.mem_of_getElem? (i := 161) (by decide +kernel), List.mem_of_getElem? (i := 162) (by decide +kernel)⟩
theorem lw_p1 : lw_okq (⟨"ProfileRights", "countEntries", "()I"⟩, 7) := ⟨⟨by decide +kernel, by decide +kernel⟩, List.mem_of_getElem? (i := 24) (by decide +kernel), List.mem_of_getElem? (i := 180) (by decide +kernel), List.mem_of_getElem? (i := 181) (by decide +kernel)⟩
theorem lw_p2 : lw_okq (⟨"ProfileRights", "groupOrNone", "(I)LProfileRights$Group;"⟩, 7) := ⟨⟨by decide +kernel, by decide +kernel⟩, List.mem_of_getElem? (i := 24) (by decide +kernel), List.mem_of_getElem? (i := 194) (by decide +kernel), List.mem_of_getElem? (i := 195) (by decide +kernel)⟩
theorem lw_p3 : lw_okq (⟨"ProfileRights", "groupAt", "(I)LProfileRights$Group;"⟩, 7) := ⟨⟨by decide +kernel, by decide +kernel⟩, List.mem_of_getElem? (i := 24) (by decide +kernel), List.mem_of_getElem? (i := 198) (by decide +kernel), List.mem_of_getElem? (i := 199) (by decide +kernel)⟩
theorem lw_p4 : lw_okq (⟨"java/lang/Throwable", "fillInStackTrace", "(I)Ljava/lang/Throwable;"⟩, 6) := ⟨⟨by decide +kernel, by decide +kernel⟩, List.mem_of_getElem? (i := 239) (by decide +kernel), List.mem_of_getElem? (i := 237) (by decide +kernel), List.mem_of_getElem? (i := 238) (by decide +kernel)⟩
theorem lw_p5 : lw_okq (⟨"java/util/ArrayList", "add", "(Ljava/lang/Object;[Ljava/lang/Object;I)V"⟩, 3) := ⟨⟨by decide +kernel, by decide +kernel⟩, List.mem_of_getElem? (i := 32) (by decide +kernel), List.mem_of_getElem? (i := 305) (by decide +kernel), List.mem_of_getElem? (i := 306) (by decide +kernel)⟩
theorem lw_p6 : lw_okq (⟨"java/util/ArrayList", "grow", "()[Ljava/lang/Object;"⟩, 3) := ⟨⟨by decide +kernel, by decide +kernel⟩, List.mem_of_getElem? (i := 32) (by decide +kernel), List.mem_of_getElem? (i := 309) (by decide +kernel), List.mem_of_getElem? (i := 310) (by decide +kernel)⟩
theorem lw_p7 : lw_okq (⟨"java/util/ArrayList", "grow", "(I)[Ljava/lang/Object;"⟩, 3) := ⟨⟨by decide +kernel, by decide +kernel⟩, List.mem_of_getElem? (i := 32) (by decide +kernel), List.mem_of_getElem? (i := 313) (by decide +kernel), List.mem_of_getElem? (i := 314) (by decide +kernel)⟩
theorem lw_p8 : lw_okq (⟨"ProfileRights", "userAt", "(I)LProfileRights$User;"⟩, 7) := ⟨⟨by decide +kernel, by decide +kernel⟩, List.mem_of_getElem? (i := 24) (by decide +kernel), List.mem_of_getElem? (i := 414) (by decide +kernel), List.mem_of_getElem? (i := 415) (by decide +kernel)⟩
theorem lw_p9 : lw_okq (⟨"ProfileRights", "profileAt", "(I)LProfileRights$Profile;"⟩, 7) := ⟨⟨by decide +kernel, by decide +kernel⟩, List.mem_of_getElem? (i := 24) (by decide +kernel), List.mem_of_getElem? (i := 498) (by decide +kernel), List.mem_of_getElem? (i := 499) (by decide +kernel)⟩
theorem lw_p10 : lw_okq (⟨"ProfileRights", "testHolder", "(I)V"⟩, 7) := ⟨⟨by decide +kernel, by decide +kernel⟩, List.mem_of_getElem? (i := 24) (by decide +kernel), List.mem_of_getElem? (i := 525) (by decide +kernel), List.mem_of_getElem? (i := 526) (by decide +kernel)⟩
theorem lw_p11 : lw_okq (⟨"java/util/ArrayList", "fastRemove", "([Ljava/lang/Object;I)V"⟩, 3) := ⟨⟨by decide +kernel, by decide +kernel⟩, List.mem_of_getElem? (i := 32) (by decide +kernel), List.mem_of_getElem? (i := 544) (by decide +kernel), List.mem_of_getElem? (i := 545) (by decide +kernel)⟩
theorem lw_p12 : lw_okq (⟨"ProfileRights", "decide", "(LProfileRights$User;III)I"⟩, 7) := ⟨⟨by decide +kernel, by decide +kernel⟩, List.mem_of_getElem? (i := 24) (by decide +kernel), List.mem_of_getElem? (i := 598) (by decide +kernel), List.mem_of_getElem? (i := 599) (by decide +kernel)⟩
theorem lw_p13 : lw_okq (⟨"ProfileRights", "mostSpecial", "(IIZ)LProfileRights$Profile;"⟩, 7) := ⟨⟨by decide +kernel, by decide +kernel⟩, List.mem_of_getElem? (i := 24) (by decide +kernel), List.mem_of_getElem? (i := 602) (by decide +kernel), List.mem_of_getElem? (i := 603) (by decide +kernel)⟩
theorem lw_p14 : lw_okq (⟨"ProfileRights$Name", "placesOf", "(I)I"⟩, 4) := ⟨⟨by decide +kernel, by decide +kernel⟩, List.mem_of_getElem? (i := 58) (by decide +kernel), List.mem_of_getElem? (i := 621) (by decide +kernel), List.mem_of_getElem? (i := 622) (by decide +kernel)⟩
theorem lw_p15 : lw_okq (⟨"ProfileRights$Profile", "openEntryOf", "(ILProfileRights$User;I)LProfileRights$Entry;"⟩, 6) := ⟨⟨by decide +kernel, by decide +kernel⟩, List.mem_of_getElem? (i := 456) (by decide +kernel), List.mem_of_getElem? (i := 633) (by decide +kernel), List.mem_of_getElem? (i := 634) (by decide +kernel)⟩
def lw_privs_1 : List (MethodName × Nat) := [(⟨"ProfileRights", "countRevoked", "()I"⟩, 7), (⟨"ProfileRights", "countEntries", "()I"⟩, 7), (⟨"ProfileRights", "groupOrNone", "(I)LProfileRights$Group;"⟩, 7), (⟨"ProfileRights", "groupAt", "(I)LProfileRights$Group;"⟩, 7), (⟨"java/lang/Throwable", "fillInStackTrace", "(I)Ljava/lang/Throwable;"⟩, 6), (⟨"java/util/ArrayList", "add", "(Ljava/lang/Object;[Ljava/lang/Object;I)V"⟩, 3), (⟨"java/util/ArrayList", "grow", "()[Ljava/lang/Object;"⟩, 3), (⟨"java/util/ArrayList", "grow", "(I)[Ljava/lang/Object;"⟩, 3), (⟨"ProfileRights", "userAt", "(I)LProfileRights$User;"⟩, 7), (⟨"ProfileRights", "profileAt", "(I)LProfileRights$Profile;"⟩, 7), (⟨"ProfileRights", "testHolder", "(I)V"⟩, 7), (⟨"java/util/ArrayList", "fastRemove", "([Ljava/lang/Object;I)V"⟩, 3), (⟨"ProfileRights", "decide", "(LProfileRights$User;III)I"⟩, 7), (⟨"ProfileRights", "mostSpecial", "(IIZ)LProfileRights$Profile;"⟩, 7), (⟨"ProfileRights$Name", "placesOf", "(I)I"⟩, 4), (⟨"ProfileRights$Profile", "openEntryOf", "(ILProfileRights$User;I)LProfileRights$Entry;"⟩, 6)]
theorem lw_r1 : ∀ q ∈ lw_privs_1, lw_okq q := List.forall_mem_cons.mpr ⟨lw_p0, List.forall_mem_cons.mpr ⟨lw_p1, List.forall_mem_cons.mpr ⟨lw_p2, List.forall_mem_cons.mpr ⟨lw_p3, List.forall_mem_cons.mpr ⟨lw_p4, List.forall_mem_cons.mpr ⟨lw_p5, List.forall_mem_cons.mpr ⟨lw_p6, List.forall_mem_cons.mpr ⟨lw_p7, List.forall_mem_cons.mpr ⟨lw_p8, List.forall_mem_cons.mpr ⟨lw_p9, List.forall_mem_cons.mpr ⟨lw_p10, List.forall_mem_cons.mpr ⟨lw_p11, List.forall_mem_cons.mpr ⟨lw_p12, List.forall_mem_cons.mpr ⟨lw_p13, List.forall_mem_cons.mpr ⟨lw_p14, List.forall_mem_cons.mpr ⟨lw_p15, fun _ h => absurd h List.not_mem_nil⟩⟩⟩⟩⟩⟩⟩⟩⟩⟩⟩⟩⟩⟩⟩⟩
theorem lw_p16 : lw_okq (⟨"ProfileRightsModel", "isGroup", "(I)Z"⟩, 27) := ⟨⟨by decide +kernel, by decide +kernel⟩, List.mem_of_getElem? (i := 676) (by decide +kernel), List.mem_of_getElem? (i := 773) (by decide +kernel), List.mem_of_getElem? (i := 774) (by decide +kernel)⟩
theorem lw_p17 : lw_okq (⟨"ProfileRightsModel", "fails", "(ZZ)Z"⟩, 27) := ⟨⟨by decide +kernel, by decide +kernel⟩, List.mem_of_getElem? (i := 676) (by decide +kernel), List.mem_of_getElem? (i := 777) (by decide +kernel), List.mem_of_getElem? (i := 778) (by decide +kernel)⟩
theorem lw_p18 : lw_okq (⟨"ProfileRightsModel", "isUser", "(I)Z"⟩, 27) := ⟨⟨by decide +kernel, by decide +kernel⟩, List.mem_of_getElem? (i := 676) (by decide +kernel), List.mem_of_getElem? (i := 793) (by decide +kernel), List.mem_of_getElem? (i := 794) (by decide +kernel)⟩
theorem lw_p19 : lw_okq (⟨"ProfileRightsModel", "isProfile", "(I)Z"⟩, 27) := ⟨⟨by decide +kernel, by decide +kernel⟩, List.mem_of_getElem? (i := 676) (by decide +kernel), List.mem_of_getElem? (i := 831) (by decide +kernel), List.mem_of_getElem? (i := 832) (by decide +kernel)⟩
theorem lw_p20 : lw_okq (⟨"ProfileRightsModel", "isWho", "(I)Z"⟩, 27) := ⟨⟨by decide +kernel, by decide +kernel⟩, List.mem_of_getElem? (i := 676) (by decide +kernel), List.mem_of_getElem? (i := 846) (by decide +kernel), List.mem_of_getElem? (i := 847) (by decide +kernel)⟩
theorem lw_p21 : lw_okq (⟨"ProfileRightsModel", "entry", "(II)I"⟩, 27) := ⟨⟨by decide +kernel, by decide +kernel⟩, List.mem_of_getElem? (i := 676) (by decide +kernel), List.mem_of_getElem? (i := 850) (by decide +kernel), List.mem_of_getElem? (i := 851) (by decide +kernel)⟩
theorem lw_p22 : lw_okq (⟨"ProfileRightsModel", "answered", "(IIIIIZ)I"⟩, 27) := ⟨⟨by decide +kernel, by decide +kernel⟩, List.mem_of_getElem? (i := 676) (by decide +kernel), List.mem_of_getElem? (i := 871) (by decide +kernel), List.mem_of_getElem? (i := 872) (by decide +kernel)⟩
theorem lw_p23 : lw_okq (⟨"ProfileRightsModel", "found", "(II)I"⟩, 27) := ⟨⟨by decide +kernel, by decide +kernel⟩, List.mem_of_getElem? (i := 676) (by decide +kernel), List.mem_of_getElem? (i := 875) (by decide +kernel), List.mem_of_getElem? (i := 876) (by decide +kernel)⟩
theorem lw_p24 : lw_okq (⟨"ProfileRightsModel", "fits", "(I)Z"⟩, 27) := ⟨⟨by decide +kernel, by decide +kernel⟩, List.mem_of_getElem? (i := 676) (by decide +kernel), List.mem_of_getElem? (i := 879) (by decide +kernel), List.mem_of_getElem? (i := 880) (by decide +kernel)⟩
theorem lw_p25 : lw_okq (⟨"ProfileRightsModel", "isMore", "(II)Z"⟩, 27) := ⟨⟨by decide +kernel, by decide +kernel⟩, List.mem_of_getElem? (i := 676) (by decide +kernel), List.mem_of_getElem? (i := 883) (by decide +kernel), List.mem_of_getElem? (i := 884) (by decide +kernel)⟩
theorem lw_p26 : lw_okq (⟨"ProfileRightsModel", "special", "(IZ)I"⟩, 27) := ⟨⟨by decide +kernel, by decide +kernel⟩, List.mem_of_getElem? (i := 676) (by decide +kernel), List.mem_of_getElem? (i := 887) (by decide +kernel), List.mem_of_getElem? (i := 888) (by decide +kernel)⟩
theorem lw_p27 : lw_okq (⟨"ProfileRightsModel", "levelOf", "(IIJ)I"⟩, 27) := ⟨⟨by decide +kernel, by decide +kernel⟩, List.mem_of_getElem? (i := 676) (by decide +kernel), List.mem_of_getElem? (i := 894) (by decide +kernel), List.mem_of_getElem? (i := 895) (by decide +kernel)⟩
theorem lw_p28 : lw_okq (⟨"ProfileRightsModel", "isOpen", "(IIJ)Z"⟩, 27) := ⟨⟨by decide +kernel, by decide +kernel⟩, List.mem_of_getElem? (i := 676) (by decide +kernel), List.mem_of_getElem? (i := 898) (by decide +kernel), List.mem_of_getElem? (i := 899) (by decide +kernel)⟩
def lw_privs_2 : List (MethodName × Nat) := [(⟨"ProfileRightsModel", "isGroup", "(I)Z"⟩, 27), (⟨"ProfileRightsModel", "fails", "(ZZ)Z"⟩, 27), (⟨"ProfileRightsModel", "isUser", "(I)Z"⟩, 27), (⟨"ProfileRightsModel", "isProfile", "(I)Z"⟩, 27), (⟨"ProfileRightsModel", "isWho", "(I)Z"⟩, 27), (⟨"ProfileRightsModel", "entry", "(II)I"⟩, 27), (⟨"ProfileRightsModel", "answered", "(IIIIIZ)I"⟩, 27), (⟨"ProfileRightsModel", "found", "(II)I"⟩, 27), (⟨"ProfileRightsModel", "fits", "(I)Z"⟩, 27), (⟨"ProfileRightsModel", "isMore", "(II)Z"⟩, 27), (⟨"ProfileRightsModel", "special", "(IZ)I"⟩, 27), (⟨"ProfileRightsModel", "levelOf", "(IIJ)I"⟩, 27), (⟨"ProfileRightsModel", "isOpen", "(IIJ)Z"⟩, 27)]
theorem lw_r2 : ∀ q ∈ lw_privs_2, lw_okq q := List.forall_mem_cons.mpr ⟨lw_p16, List.forall_mem_cons.mpr ⟨lw_p17, List.forall_mem_cons.mpr ⟨lw_p18, List.forall_mem_cons.mpr ⟨lw_p19, List.forall_mem_cons.mpr ⟨lw_p20, List.forall_mem_cons.mpr ⟨lw_p21, List.forall_mem_cons.mpr ⟨lw_p22, List.forall_mem_cons.mpr ⟨lw_p23, List.forall_mem_cons.mpr ⟨lw_p24, List.forall_mem_cons.mpr ⟨lw_p25, List.forall_mem_cons.mpr ⟨lw_p26, List.forall_mem_cons.mpr ⟨lw_p27, List.forall_mem_cons.mpr ⟨lw_p28, fun _ h => absurd h List.not_mem_nil⟩⟩⟩⟩⟩⟩⟩⟩⟩⟩⟩⟩⟩
def lw_privs : List (MethodName × Nat) := lw_privs_1 ++ (lw_privs_2)
def lw_tbl : List Cond := k2_sels lw_privs ++ tables_1
theorem lw_privs_ok : ∀ q ∈ lw_privs, lw_okq q := by
  show ∀ q ∈ lw_privs_1 ++ (lw_privs_2), lw_okq q
  exact List.forall_mem_append.mpr ⟨lw_r1, lw_r2⟩
-- ===== end of PART A; then your names; then what follows =====
end
section
/-! ===== BEGIN words of one list among another's, by their places ===== -/
theorem goodIn_r {big : List Cond} (ws : List Cond) (ps : List Nat) (hp : ws = ps.filterMap (fun i => big[i]?)) (h : ws.all goodWord = true) : GoodIn big ws := by
  intro w hw
  have h1 := List.all_eq_true.mp h w hw
  rw [hp] at hw
  obtain ⟨i, -, hi⟩ := List.mem_filterMap.mp hw
  have hm : w ∈ big := by first | exact List.mem_of_getElem? hi | exact List.getElem?_mem hi
  exact ⟨hm, good_of_word h1⟩
theorem goodIn_app {big a b : List Cond} (ha : GoodIn big a) (hb : GoodIn big b) : GoodIn big (a ++ b) := fun w h => (List.mem_append.mp h).elim (ha w) (hb w)
theorem goodIn_ca {big a b : List Cond} {c : Cond} (ha : GoodIn big (c :: a)) (hb : GoodIn big b) : GoodIn big (c :: (a ++ b)) := fun w h => (List.mem_cons.mp h).elim (fun e => ha w (List.mem_cons.mpr (Or.inl e))) (fun h => (List.mem_append.mp h).elim (fun h => ha w (List.mem_cons.mpr (Or.inr h))) (hb w))
theorem goodIn_sub {big ws : List Cond} (hm : ∀ w ∈ ws, w ∈ big) (h : ws.all goodWord = true) : GoodIn big ws := fun w hw => ⟨hm w hw, good_of_word (List.all_eq_true.mp h w hw)⟩
/-! ===== END ===== -/

/-! ===== BEGIN exceptions that leave a method, and their catching by the caller (launches without stack traces) ===== -/
section VXA
/-! The laws vx_back, vx_callV, vx_callS, vx_callSW, vx_throw0, vx_throwS follow proofs of the library, with one case more: JvmDerived/Free/Laws.lean (Back.of_free), Shelf42/LK1.lean (callV, callS), Shelf/KitTraced.lean (throwNew0V, throwNewS). -/
/-- where a method has thrown q: the class by its name, the cell, what was written, the world -/
def vx_T (XC : String → State → State → Prop) (st : State) (q : Addr) (t : State) (mc ms : Nat) (free : Addr → Prop) : Prop :=
  ∃ (E : String) (ce : Cell) (L : List Loc), XC E st t ∧ t.heap[q]? = some ce ∧ ce.vm = .none ∧ st.vm.findClass E = some ce.cls ∧ st.WarmedH t.vm ∧ st.sameButNew ({ t with vm := st.vm } : State) L mc ms ∧ ∀ z ∈ L, free z.base
def vx_Q (Qc : Array Value → State → Outcome → State → Prop) (XC : String → State → State → Prop) (mc ms : Nat) (free : Addr → Prop) : Array Value → State → Outcome → State → Prop := fun a st o t =>
  (Qc a st o t ∧ ∃ L, FrameEnd st o t L mc ms ∧ ∀ q ∈ L, free q.base) ∨ ∃ q, o = .threw q ∧ vx_T XC st q t mc ms free
/-- a callee that returns or throws -/
def vx_Met (l : Launch) (y : MethodName) (ws : List Cond) (rm : Room) (Pc : Array Value → State → Prop) (Qc : Array Value → State → Outcome → State → Prop) (XC : String → State → State → Prop) (mc ms : Nat) (free : Addr → Prop) : Prop :=
  MetFree l y (headSpec ws rm) Pc (fun _ _ _ _ _ => True) (vx_Q Qc XC mc ms free)
def vx_Post (XC : String → State → State → Prop) (mc ms : Nat) (free : Addr → Prop) : Pt → Array Value → Addr → Pt → Prop := fun A a q B =>
  ∃ (g : JFrame) (mk : MethodId) (t : State) (L : List Loc) (E : String) (ce : Cell), B.U.heap = t.heap ∧ B.U.vm = t.vm ∧ XC E (A.U.calling g mk a) t ∧ t.heap[q]? = some ce ∧ ce.vm = .none ∧ A.U.vm.findClass E = some ce.cls ∧ B.locs = A.locs ++ L ∧ (∀ z ∈ L, free z.base) ∧ B.cells = A.cells + mc ∧ B.slots = A.slots + ms
def vx_Back (l : Launch) (R : Room) (p : Program) (e : Env) (below : List Frame) (s : State) (sargs : Array Value) (y : MethodName) (len W9 : Nat)
    (Pre : Pt → Array Value → Prop) (Post : Pt → Array Value → Option Value → Pt → Prop) (PostX : Pt → Array Value → Addr → Pt → Prop) : Prop :=
  ∀ (m : MethodId) (meth : Method) (c : Code) (A : Pt) (g : JFrame) (ig : Instr) (mk : MethodId) (a : Array Value),
    Stand p l e R s m sargs below meth c A.U A.locs A.cells A.slots → g.method = m → g.locals.size = c.maxLocals → decode c.code g.pc = .ok (ig, len) →
    2 * g.monitorRoom + (g.stack.map fun v => v.category).sum ≤ W9 → A.U.methodNamed? y = some mk → Pre A a →
    (∃ (v : Option Value) (B : Pt), Stand p l e R s m sargs below meth c B.U B.locs B.cells B.slots ∧ Post A a v B ∧
      Steps p.tables e below (doInvoke e (A.U.setTop g) [] mk a).1 (B.U.setTop { g with pc := g.pc + len, stack := v.toList ++ g.stack })) ∨
    (∃ (q : Addr) (B : Pt), Stand p l e R s m sargs below meth c B.U B.locs B.cells B.slots ∧ PostX A a q B ∧
      Steps p.tables e below (doInvoke e (A.U.setTop g) [] mk a).1 ((B.U.setTop g).pushFrame (.throwing q)))
section Payer
variable {l : Launch} {R : Room} {p : Program} {e : Env} {below : List Frame} {s : State} {sargs : Array Value} {y : MethodName} {len W9 : Nat}
theorem vx_back {ws : List Cond} {rm : Room} {Pc : Array Value → State → Prop} {Qc : Array Value → State → Outcome → State → Prop} {XC : String → State → State → Prop} {mc ms : Nat} {free : Addr → Prop} {bytes : ByteArray} {maxL : Nat} {ret : Option FieldType}
    (hM : vx_Met l y ws rm Pc Qc XC mc ms free) (hblind : FrameBlind Pc) (hrc : rm.cells = mc) (hrs : rm.slots = ms)
    (hframes : rm.frames + 1 ≤ R.frames) (hlocals : W9 + (maxL + 11) + rm.locals ≤ R.locals)
    (hws : ∀ w ∈ ws, ∀ a' U, s.WarmedH U.vm → w.before a' U = true) (hcode : Cond.code y bytes maxL ret ∈ ws) (hinit : ∀ a' U, s.WarmedH U.vm → (Cond.initialized y.cls).before a' U = true) :
    vx_Back l R p e below s sargs y len W9 (PreOf R mc ms Pc) (PostOf Qc mc ms free) (vx_Post XC mc ms free) := by
  intro m meth c A g ig mk a X hg hsize hdg hW hn hp
  have h1 : (headSpec ws rm).pre.before a A.U = true := atoms_intro fun w hw => hws w hw _ _ X.warmed
  have h2 : (Cond.code y bytes maxL ret).before a A.U = true := hws _ hcode _ _ X.warmed
  have h3 : (Cond.initialized y.cls).before a A.U = true := hinit _ _ X.warmed
  have h4 : A.cells + (headSpec ws rm).room.cells ≤ R.cells := by rw [show (headSpec ws rm).room.cells = mc from hrc]; exact hp.1
  have h5 : A.slots + (headSpec ws rm).room.slots ≤ R.slots := by rw [show (headSpec ws rm).room.slots = ms from hrs]; exact hp.2.1
  have hPc : Pc a (A.U.calling g mk a) := hblind _ _ _ _ hp.2.2
  obtain ⟨U, Ls, c0, s0⟩ := A
  dsimp only [Pt.U, Pt.locs, Pt.cells, Pt.slots] at h1 h2 h3 h4 h5 X hn hPc ⊢
  obtain ⟨methY, cY, hmY, hcY, -, hlY, -, -, -, -⟩ := Cond.code_spec hn h2
  obtain ⟨kY, hkY, -⟩ := className_of_methodNamed hn
  have hinitY : kY.init = .initialized := Cond.initialized_spec (findClass_of_methodNamed hn) hkY h3
  have h : At U g.method c below := by rw [hg]; exact X.here
  have hlocals9 : W9 + (maxL + 11) + (headSpec ws rm).room.locals ≤ R.locals := hlocals
  have happ : (headSpec ws rm).appliesLoose y e.platform (U.calling g mk a) = true :=
    Spec.appliesLoose_calling (g := g) h hdg hn hkY hinitY
      (X.room_calling (g := g) (R' := (headSpec ws rm).room) hsize hmY hcY hframes (by rw [hlY]; omega) h4 h5) h1
  obtain ⟨mid, hmid⟩ := h.above
  have hfr : (U.setTop g).frames = (.java g :: mid) ++ below := by rw [State.frames_setTop' g h.top, hmid]; rfl
  obtain ⟨o, s₂, hsteps, -, hend, hq⟩ := Steps.callFree hM p X.admits X.cas X.clock (acts := []) hfr happ hPc trivial
  have hq' : vx_Q Qc XC mc ms free a (U.calling g mk a) o s₂ := hq
  rw [State.frames_setTop' g h.top] at hend
  obtain ⟨g₀, hg0⟩ := Option.isSome_iff_exists.mp h.top
  obtain ⟨r, hr⟩ := State.topJava?_eq_some.mp hg0
  have hr' : (({ U with heap := s₂.heap, slotsUsed := s₂.slotsUsed } : State).setVm s₂.vm).frames = .java g₀ :: r := hr
  rcases hq' with ⟨hqc, L, hfe, hL⟩ | ⟨q, rfl, E, ce, L, hx, hce, hcv, hcl, hW₂, hsm, hL⟩
  · obtain ⟨⟨v, rfl⟩, hW₂, e2, q2, q3, q4, q5, q6⟩ := id hfe
    have e3 : s₂ = ({ (U.calling g mk a).setFrames s₂.frames with heap := s₂.heap, slotsUsed := s₂.slotsUsed } : State).setVm s₂.vm := by
      have : s₂ = ({ s₂ with vm := (U.calling g mk a).vm } : State).setVm s₂.vm := rfl
      rw [e2] at this
      exact this
    obtain ⟨c₂, i₂, len₂, hc₂, hd₂, hf₂⟩ := hend
    have hW' : U.WarmedH s₂.vm := hW₂
    have hcc : c₂ = c := by
      have h1 : s₂.code? g.method = U.code? g.method := by
        rw [State.code?_eq, State.code?_eq, hW'.alike.method?]
      exact Option.some.inj (hc₂.symm.trans (h1.trans h.code))
    subst hcc
    have hlen : len₂ = len := by rw [hdg] at hd₂; cases hd₂; rfl
    subst hlen
    have hs₂ : s₂ = (({ U with heap := s₂.heap, slotsUsed := s₂.slotsUsed } : State).setVm s₂.vm).setTop { g with pc := g.pc + len₂, stack := v.toList ++ g.stack } := by
      refine e3.trans ?_
      rw [hf₂, State.calling_eq h.top, State.setFrames_setFrames, State.setTop_of_frames _ hr', hr]
      rfl
    have hsame : U.sameButNew ({ U with heap := s₂.heap, slotsUsed := s₂.slotsUsed } : State) L mc ms := by
      refine ⟨?_, q2, q3, q4, q5, q6⟩
      obtain ⟨t, ht, -⟩ := State.frames_cons hr
      show ({ U with heap := s₂.heap, slotsUsed := s₂.slotsUsed } : State) = { U.setFrames U.frames with heap := s₂.heap, slotsUsed := s₂.slotsUsed }
      rw [State.setFrames_self ht]
    subst hg
    refine Or.inl ⟨v, ⟨(({ U with heap := s₂.heap, slotsUsed := s₂.slotsUsed } : State).setVm s₂.vm), Ls ++ L, c0 + mc, s0 + ms⟩,
      ⟨X.admits, X.cas, X.clock, X.frames, X.room, X.hears, X.method, X.code, (X.here.setHeapUsed s₂.heap s₂.slotsUsed).setVm hW'.alike, X.tail, State.WarmedH.trans X.warmed hW', X.limits, X.bytes, X.same.trans (hsame.setVm s.vm)⟩,
      ⟨g, mk, s₂, L, rfl, rfl, hqc, rfl, hL, rfl, rfl⟩, ?_⟩
    show Steps p.tables e below _ ((({ U with heap := s₂.heap, slotsUsed := s₂.slotsUsed } : State).setVm s₂.vm).setTop { g with pc := g.pc + len₂, stack := v.toList ++ g.stack })
    rw [← hs₂]
    exact hsteps
  · obtain ⟨e2, q2, q3, q4, q5, q6⟩ := id hsm
    have e3 : s₂ = ({ (U.calling g mk a).setFrames s₂.frames with heap := s₂.heap, slotsUsed := s₂.slotsUsed } : State).setVm s₂.vm := by
      have : s₂ = ({ s₂ with vm := (U.calling g mk a).vm } : State).setVm s₂.vm := rfl
      rw [e2] at this
      exact this
    have hf₂ : s₂.frames = .throwing q :: .java g :: U.frames.tail := hend
    have hW' : U.WarmedH s₂.vm := hW₂
    have hs₂ : s₂ = ((({ U with heap := s₂.heap, slotsUsed := s₂.slotsUsed } : State).setVm s₂.vm).setTop g).pushFrame (.throwing q) := by
      refine e3.trans ?_
      rw [hf₂, State.calling_eq h.top, State.setFrames_setFrames, State.pushFrame, State.frames_setTop _ hr', State.setTop_of_frames _ hr', State.setFrames_setFrames, hr]
      rfl
    have hsame : U.sameButNew ({ U with heap := s₂.heap, slotsUsed := s₂.slotsUsed } : State) L mc ms := by
      refine ⟨?_, q2, q3, q4, q5, q6⟩
      obtain ⟨t, ht, -⟩ := State.frames_cons hr
      show ({ U with heap := s₂.heap, slotsUsed := s₂.slotsUsed } : State) = { U.setFrames U.frames with heap := s₂.heap, slotsUsed := s₂.slotsUsed }
      rw [State.setFrames_self ht]
    subst hg
    refine Or.inr ⟨q, ⟨(({ U with heap := s₂.heap, slotsUsed := s₂.slotsUsed } : State).setVm s₂.vm), Ls ++ L, c0 + mc, s0 + ms⟩,
      ⟨X.admits, X.cas, X.clock, X.frames, X.room, X.hears, X.method, X.code, (X.here.setHeapUsed s₂.heap s₂.slotsUsed).setVm hW'.alike, X.tail, State.WarmedH.trans X.warmed hW', X.limits, X.bytes, X.same.trans (hsame.setVm s.vm)⟩,
      ⟨g, mk, s₂, L, E, ce, rfl, rfl, hx, hce, hcv, hcl, rfl, hL, rfl, rfl⟩, ?_⟩
    show Steps p.tables e below _ (((({ U with heap := s₂.heap, slotsUsed := s₂.slotsUsed } : State).setVm s₂.vm).setTop g).pushFrame (.throwing q))
    rw [← hs₂]
    exact hsteps
end Payer
section Calls
variable {p : Program} {l : Launch} {e : Env} {R : Room} {s : State} {m : MethodId} {args : Array Value} {below : List Frame} {meth : Method} {c : Code} {T : State} {locs : List Loc} {cells slots : Nat}
theorem vx_callV (X : Stand p l e R s m args below meth c T locs cells slots) (hexec : p.tables.exec = Jvm.exec) {own C : String} {index : Nat} {y : MethodName} {bytes : ByteArray} {maxL : Nat} {ret : Option FieldType}
    (hown : s.vm.findClass own = some m.cls) (hlink : (Cond.methodLink own index y).before args s = true) (hinst : (Cond.instanceMethod y).before args s = true) (hsel : (Cond.selects C y y).before args s = true)
    (hcode : (Cond.code y bytes maxL ret).before args s = true) (hy : y.cls ≠ "java/lang/invoke/MethodHandle" ∧ y.cls ≠ "java/lang/invoke/VarHandle")
    {W9 : Nat} {Pre : Pt → Array Value → Prop} {Post : Pt → Array Value → Option Value → Pt → Prop} {PostX : Pt → Array Value → Addr → Pt → Prop} (hK : vx_Back l R p e below s args y 3 W9 Pre Post PostX)
    {b : Addr} {cellB : Cell} (hcell : T.heap[b]? = some cellB) (hobj : cellB.vm.isStatics = false) (hcls : s.vm.findClass C = some cellB.cls)
    {g : JFrame} (hg : g.method = m) (hsize : g.locals.size = c.maxLocals) {argsL rest : List Value} (hlen : ∀ sig, parseMethodDescriptor y.desc = some sig → argsL.length = sig.parameters.length)
    (hstack : g.stack = argsL.reverse ++ .ref b :: rest) (hW : 2 * g.monitorRoom + (rest.map fun v => v.category).sum ≤ W9) (hdg : decode c.code g.pc = .ok (.invokevirtual index, 3))
    (hpre : ∀ vm₁, s.WarmedH vm₁ → Pre ⟨T.setVm vm₁, locs, cells, slots⟩ (Value.ref b :: argsL).toArray) :
    (∃ (v : Option Value) (vm₁ : Vm) (B : Pt), s.WarmedH vm₁ ∧ Stand p l e R s m args below meth c B.U B.locs B.cells B.slots ∧ Post ⟨T.setVm vm₁, locs, cells, slots⟩ (Value.ref b :: argsL).toArray v B ∧
      ∀ target, Steps p.tables e below (B.U.setTop { g with pc := g.pc + 3, stack := v.toList ++ rest }) target → Steps p.tables e below (T.setTop g) target) ∨
    (∃ (q : Addr) (vm₁ : Vm) (B : Pt), s.WarmedH vm₁ ∧ Stand p l e R s m args below meth c B.U B.locs B.cells B.slots ∧ PostX ⟨T.setVm vm₁, locs, cells, slots⟩ (Value.ref b :: argsL).toArray q B ∧
      Steps p.tables e below (T.setTop g) ((B.U.setTop { g with stack := rest }).pushFrame (.throwing q))) := by
  obtain ⟨mk, methM, hnamed, hmethM, hstM, habM⟩ := Cond.instanceMethod_spec hinst
  obtain ⟨methM', cM, hmethM', -, -, -, -, -, -, hsigM⟩ := Cond.code_spec hnamed hcode
  cases hmethM.symm.trans hmethM'
  obtain ⟨c2, r2, m2, q1, q2, q3, q4, kP, hkP, hkPi⟩ := Cond.selects_spec hsel
  cases hcls.symm.trans q1
  cases (State.methodFound?_of_named hnamed hy).symm.trans q2
  cases hnamed.symm.trans q3
  have hselP : selectMethod e.platform s.vm cellB.cls mk = .method mk := by rw [Launch.admits_selectMethod X.admits]; exact q4
  obtain ⟨vm₁, X₁, hstep₁⟩ := X.invokevirtual hexec hown hlink hnamed hmethM hstM hkP hkPi hy (a := b) (cell := cellB) hcell
    (fun z h => by rw [h] at hobj; cases hobj) hselP hmethM habM hkP hkPi (g := g) hg (argsL := argsL) (rest := rest) (hlen _ hsigM) hstack hdg
  rcases hK m meth c ⟨T.setVm vm₁, locs, cells, slots⟩ { g with stack := rest } (.invokevirtual index) mk (Value.ref b :: argsL).toArray X₁ hg hsize hdg hW (X₁.named hnamed) (hpre vm₁ X₁.warmed) with ⟨v, B, X', hpost, hsteps⟩ | ⟨q, B, X', hpost, hsteps⟩
  · exact Or.inl ⟨v, vm₁, B, X₁.warmed, X', hpost, fun target h => hstep₁ _ fun acts => by rw [doInvoke_state]; exact hsteps.trans h⟩
  · exact Or.inr ⟨q, vm₁, B, X₁.warmed, X', hpost, hstep₁ _ fun acts => by rw [doInvoke_state]; exact hsteps⟩
theorem vx_callS (X : Stand p l e R s m args below meth c T locs cells slots) (hexec : p.tables.exec = Jvm.exec) {own : String} {index : Nat} {y : MethodName} {bytes : ByteArray} {maxL : Nat} {ret : Option FieldType}
    (hown : s.vm.findClass own = some m.cls) (hlink : (Cond.methodLink own index y).before args s = true) (hstat : (Cond.static y).before args s = true) (hinit : (Cond.initialized y.cls).before args s = true)
    (hcode : (Cond.code y bytes maxL ret).before args s = true) (hy : y.cls ≠ "java/lang/invoke/MethodHandle" ∧ y.cls ≠ "java/lang/invoke/VarHandle")
    {W9 : Nat} {Pre : Pt → Array Value → Prop} {Post : Pt → Array Value → Option Value → Pt → Prop} {PostX : Pt → Array Value → Addr → Pt → Prop} (hK : vx_Back l R p e below s args y 3 W9 Pre Post PostX)
    {g : JFrame} (hg : g.method = m) (hsize : g.locals.size = c.maxLocals) {argsL rest : List Value} (hlen : ∀ sig, parseMethodDescriptor y.desc = some sig → argsL.length = sig.parameters.length)
    (hstack : g.stack = argsL.reverse ++ rest) (hW : 2 * g.monitorRoom + (rest.map fun v => v.category).sum ≤ W9) (hdg : decode c.code g.pc = .ok (.invokestatic index, 3))
    (hpre : ∀ vm₁, s.WarmedH vm₁ → Pre ⟨T.setVm vm₁, locs, cells, slots⟩ argsL.toArray) :
    (∃ (v : Option Value) (vm₁ : Vm) (B : Pt), s.WarmedH vm₁ ∧ Stand p l e R s m args below meth c B.U B.locs B.cells B.slots ∧ Post ⟨T.setVm vm₁, locs, cells, slots⟩ argsL.toArray v B ∧
      ∀ target, Steps p.tables e below (B.U.setTop { g with pc := g.pc + 3, stack := v.toList ++ rest }) target → Steps p.tables e below (T.setTop g) target) ∨
    (∃ (q : Addr) (vm₁ : Vm) (B : Pt), s.WarmedH vm₁ ∧ Stand p l e R s m args below meth c B.U B.locs B.cells B.slots ∧ PostX ⟨T.setVm vm₁, locs, cells, slots⟩ argsL.toArray q B ∧
      Steps p.tables e below (T.setTop g) ((B.U.setTop { g with stack := rest }).pushFrame (.throwing q))) := by
  obtain ⟨mk, hnamed⟩ := Cond.code_named hcode
  obtain ⟨methM, cM, hmethM, -, -, -, -, -, -, hsigM⟩ := Cond.code_spec hnamed hcode
  have hstatic : methM.isStatic = true := Cond.static_spec hnamed hmethM hstat
  obtain ⟨kP, hkP, -⟩ := className_of_methodNamed hnamed
  have hinitP : kP.init = .initialized := Cond.initialized_spec (findClass_of_methodNamed hnamed) hkP hinit
  obtain ⟨vm₁, X₁, hstep₁⟩ := X.invokestatic hexec hown hlink hnamed hmethM hstatic hkP hinitP hy (g := g) hg (argsL := argsL) (rest := rest) (hlen _ hsigM) hstack hdg
  rcases hK m meth c ⟨T.setVm vm₁, locs, cells, slots⟩ { g with stack := rest } (.invokestatic index) mk argsL.toArray X₁ hg hsize hdg hW (X₁.named hnamed) (hpre vm₁ X₁.warmed) with ⟨v, B, X', hpost, hsteps⟩ | ⟨q, B, X', hpost, hsteps⟩
  · exact Or.inl ⟨v, vm₁, B, X₁.warmed, X', hpost, fun target h => hstep₁ _ fun acts => by rw [doInvoke_state]; exact hsteps.trans h⟩
  · exact Or.inr ⟨q, vm₁, B, X₁.warmed, X', hpost, hstep₁ _ fun acts => by rw [doInvoke_state]; exact hsteps⟩
end Calls
theorem vx_cls {s : State} {T : State} {vm₁ : Vm} {E : String} {k : ClassId} (hW : s.WarmedH vm₁) (h : (T.setVm vm₁).vm.findClass E = some k) : s.vm.findClass E = some k := by
  have h1 : vm₁.findClass E = some k := h
  rw [hW.alike.findClass] at h1
  exact h1
/-- the method's frame g, with q thrown over it -/
def vx_W (p : Program) (l : Launch) (e : Env) (R : Room) (s : State) (m : MethodId) (args : Array Value) (below : List Frame) (meth : Method) (c : Code) (H : Heap) (locs : List Loc) (cells slots : Nat) (Q : State → Prop) (g : JFrame) (q : Addr) : Prop :=
  ∀ T : State, T.heap = H → Stand p l e R s m args below meth c T locs cells slots → ∃ t, Steps p.tables e below ((T.setTop g).pushFrame (.throwing q)) t ∧ Q t
def vx_Run (p : Program) (l : Launch) (e : Env) (R : Room) (s : State) (m : MethodId) (args : Array Value) (below : List Frame) (meth : Method) (c : Code) (H : Heap) (locs : List Loc) (cells slots mc ms : Nat) (g : JFrame) (rest : List Value) (Qa : State → Outcome → State → Prop) (XC : String → State → State → Prop) (free : Addr → Prop) : Prop :=
  ∀ T : State, T.heap = H → Stand p l e R s m args below meth c T locs cells slots →
    (∃ (v : Option Value) (st₀ t T' : State) (L : List Loc), st₀.heap = H ∧ Stand p l e R s m args below meth c T' (locs ++ L) (cells + mc) (slots + ms) ∧ (∀ q ∈ L, free q.base) ∧ T'.heap = t.heap ∧ T'.vm = t.vm ∧ Qa st₀ (.returned v) t ∧
      Goes p e below T g T' { g with pc := g.pc + 3, stack := v.toList ++ rest }) ∨
    (∃ (q : Addr) (st₀ t T' : State) (L : List Loc) (E : String) (ce : Cell), st₀.heap = H ∧ Stand p l e R s m args below meth c T' (locs ++ L) (cells + mc) (slots + ms) ∧ (∀ z ∈ L, free z.base) ∧ T'.heap = t.heap ∧ T'.vm = t.vm ∧ XC E st₀ t ∧ t.heap[q]? = some ce ∧ ce.vm = .none ∧ s.vm.findClass E = some ce.cls ∧
      Steps p.tables e below (T.setTop g) ((T'.setTop { g with stack := rest }).pushFrame (.throwing q)))
def vx_X {S : Type} (px : S → Prop) (B : String → S → State → Prop) (A : Nat → Prop) : String → State → State → Prop := fun E st t => ∃ u : S, px u ∧ B E u t ∧ va_F A st t
section Runs
variable {p : Program} {l : Launch} {e : Env} {R : Room} {s : State} {m : MethodId} {args : Array Value} {below : List Frame} {meth : Method} {c : Code} {H : Heap} {locs : List Loc} {cells slots : Nat}
variable {y : MethodName} {bytes cc : ByteArray} {maxL nL mc ms n index : Nat} {ret : Option FieldType} {ws : List Cond} {rm : Room} {Pc : Array Value → State → Prop} {Qc : Array Value → State → Outcome → State → Prop} {XC : String → State → State → Prop} {free : Addr → Prop} {Ts : List Cond} {own C : String} {b : Addr} {As rest : List Value} {g : JFrame}
theorem vx_callBack (cb : CallB R s args own index y bytes maxL ret ws rm mc ms n) (hM : vx_Met l y ws rm Pc Qc XC mc ms free) (hbl : FrameBlind Pc) : vx_Back l R p e below s args y 3 8 (PreOf R mc ms Pc) (PostOf Qc mc ms free) (vx_Post XC mc ms free) := by
  obtain ⟨hrc, hrs, hfr, hlo, hws, hcw, -, hini, -⟩ := cb
  exact vx_back (bytes := bytes) (maxL := maxL) (ret := ret) hM hbl hrc hrs hfr hlo hws hcw (fun a' U hW => word_at hW (Or.inl (by first | rfl | simp [Cond.onTables, Cond.keeps, Cond.steady])) hini)
theorem vx_runV (S : CallFix p m c cc nL s args Ts own) (hM : vx_Met l y ws rm Pc Qc XC mc ms free) (cw : CallW R s args own C index y bytes maxL ret ws rm mc ms n) (hp : PreV s H C b Pc As)
    (hg : g.method = m) (hn : As.length = n) (hsize : g.locals.size = nL) (hstack : g.stack = As.reverse ++ .ref b :: rest) (hW : 2 * g.monitorRoom + (rest.map fun v => v.category).sum ≤ 8) (hdg : decode cc g.pc = .ok (.invokevirtual index, 3)) (hf : cells + mc ≤ R.cells ∧ slots + ms ≤ R.slots) :
    vx_Run p l e R s m args below meth c H locs cells slots mc ms g rest (Qc (Value.ref b :: As).toArray) XC free := by
  have hK : vx_Back l R p e below s args y 3 8 (PreOf R mc ms Pc) (PostOf Qc mc ms free) (vx_Post XC mc ms free) := vx_callBack cw.1 hM hp.1
  obtain ⟨⟨-, -, -, -, -, -, hcode, -, hy, hlen, hl⟩, hin, hse⟩ := cw
  obtain ⟨hx, hb, hml, ho, -⟩ := S
  obtain ⟨-, ⟨cellB, hcB, hoB, hclB⟩, hPc⟩ := hp
  intro T hT X
  rcases vx_callV X hx (C := C) (bytes := bytes) (maxL := maxL) (ret := ret) ho hl hin hse hcode hy hK (by rw [hT]; exact hcB) hoB hclB hg (hsize.trans hml.symm) (argsL := As) (rest := rest) (fun sig h => hn.trans (hlen sig h)) hstack hW (by rw [hb]; exact hdg)
    (fun vm₁ hW₁ => ⟨hf.1, hf.2, hPc (T.setVm vm₁) hT hW₁⟩) with ⟨v, vm₁, ⟨U', l2, c2, s2⟩, hW₁, X', ⟨g', mk, t, L, e1, e2, hq, h1, hL, h2, h3⟩, st⟩ | ⟨q, vm₁, ⟨U', l2, c2, s2⟩, hW₁, X', ⟨g', mk, t, L, E, ce, e1, e2, hq, hce, hcv, hcl, h1, hL, h2, h3⟩, st⟩
  · dsimp only [Pt.U, Pt.locs, Pt.cells, Pt.slots] at X' e1 e2 h1 h2 h3 st
    subst h1; subst h2; subst h3
    exact Or.inl ⟨v, (T.setVm vm₁).calling g' mk (Value.ref b :: As).toArray, t, U', L, hT, X', hL, e1, e2, hq, st⟩
  · dsimp only [Pt.U, Pt.locs, Pt.cells, Pt.slots] at X' e1 e2 h1 h2 h3 st hcl
    subst h1; subst h2; subst h3
    exact Or.inr ⟨q, (T.setVm vm₁).calling g' mk (Value.ref b :: As).toArray, t, U', L, E, ce, hT, X', hL, e1, e2, hq, hce, hcv, vx_cls hW₁ hcl, st⟩
theorem vx_runS (S : CallFix p m c cc nL s args Ts own) (hM : vx_Met l y ws rm Pc Qc XC mc ms free) (cw : CallB R s args own index y bytes maxL ret ws rm mc ms n ∧ (Cond.static y).before args s = true) (hp : PreS s H Pc As)
    (hg : g.method = m) (hn : As.length = n) (hsize : g.locals.size = nL) (hstack : g.stack = As.reverse ++ rest) (hW : 2 * g.monitorRoom + (rest.map fun v => v.category).sum ≤ 8) (hdg : decode cc g.pc = .ok (.invokestatic index, 3)) (hf : cells + mc ≤ R.cells ∧ slots + ms ≤ R.slots) :
    vx_Run p l e R s m args below meth c H locs cells slots mc ms g rest (Qc As.toArray) XC free := by
  have hK : vx_Back l R p e below s args y 3 8 (PreOf R mc ms Pc) (PostOf Qc mc ms free) (vx_Post XC mc ms free) := vx_callBack cw.1 hM hp.1
  obtain ⟨⟨-, -, -, -, -, -, hcode, hini, hy, hlen, hl⟩, hstt⟩ := cw
  obtain ⟨hx, hb, hml, ho, -⟩ := S
  intro T hT X
  rcases vx_callS X hx (bytes := bytes) (maxL := maxL) (ret := ret) ho hl hstt hini hcode hy hK hg (hsize.trans hml.symm) (argsL := As) (rest := rest) (fun sig h => hn.trans (hlen sig h)) hstack hW (by rw [hb]; exact hdg)
    (fun vm₁ hW₁ => ⟨hf.1, hf.2, hp.2 (T.setVm vm₁) hT hW₁⟩) with ⟨v, vm₁, ⟨U', l2, c2, s2⟩, hW₁, X', ⟨g', mk, t, L, e1, e2, hq, h1, hL, h2, h3⟩, st⟩ | ⟨q, vm₁, ⟨U', l2, c2, s2⟩, hW₁, X', ⟨g', mk, t, L, E, ce, e1, e2, hq, hce, hcv, hcl, h1, hL, h2, h3⟩, st⟩
  · dsimp only [Pt.U, Pt.locs, Pt.cells, Pt.slots] at X' e1 e2 h1 h2 h3 st
    subst h1; subst h2; subst h3
    exact Or.inl ⟨v, (T.setVm vm₁).calling g' mk As.toArray, t, U', L, hT, X', hL, e1, e2, hq, st⟩
  · dsimp only [Pt.U, Pt.locs, Pt.cells, Pt.slots] at X' e1 e2 h1 h2 h3 st hcl
    subst h1; subst h2; subst h3
    exact Or.inr ⟨q, (T.setVm vm₁).calling g' mk As.toArray, t, U', L, E, ce, hT, X', hL, e1, e2, hq, hce, hcv, vx_cls hW₁ hcl, st⟩
end Runs
section Rows
variable {p : Program} {l : Launch} {e : Env} {R : Room} {s : State} {m : MethodId} {args : Array Value} {below : List Frame} {meth : Method} {c : Code} {H : Heap} {locs : List Loc} {cells slots : Nat} {Q : State → Prop}
variable {mc ms : Nat} {free : Addr → Prop} {A0 A1 : Nat → Prop} {H0 : Heap} {a : Array Value} {pc : Nat} {ls : Array Slot} {st0 rest : List Value}
theorem vx_keep {st₀ t T' : State} {L : List Loc} (h0 : st₀.heap = H) (e1 : T'.heap = t.heap) (hS : va_S A0 H0 H locs) (hA : ∀ q, q < H.size → A1 q → A0 q) (hf : ∀ q, free q → A0 q) (hL : ∀ q ∈ L, free q.base) (hF : va_F A1 st₀ t) :
    H.size ≤ T'.heap.size ∧ (∀ q : Nat, q < H.size → ¬ A1 q → T'.heap[q]? = H[q]?) ∧ va_S A0 H0 T'.heap (locs ++ L) := by
  obtain ⟨hz, hk⟩ := hF
  rw [h0] at hz hk
  exact ⟨by rw [e1]; exact hz, fun q h1 h2 => by rw [e1]; exact hk q h1 h2,
    ⟨Nat.le_trans hS.1 (by rw [e1]; exact hz), fun q h1 h2 => by rw [e1, hk q (Nat.lt_of_lt_of_le h1 hS.1) (fun z => h2 (hA q (Nat.lt_of_lt_of_le h1 hS.1) z))]; exact hS.2.1 q h1 h2, fun q hq => by
      rcases List.mem_append.mp hq with h | h
      · exact hS.2.2 q h
      · exact hf _ (hL q h)⟩⟩
theorem vx_calli {S SX : Type} {post : Int32 → S → Prop} {px : SX → Prop} {B : S → State → Prop} {BX : String → SX → State → Prop} {AX : Nat → Prop} (hr : vx_Run p l e R s m args below meth c H locs cells slots mc ms (F0 m pc ls st0) rest (va_Qi post B A1 a) (vx_X px BX AX) free) (hS : va_S A0 H0 H locs) (hA : ∀ q, q < H.size → A1 q → A0 q) (hf : ∀ q, free q → A0 q) (hAX : ∀ q, q < H.size → AX q → A0 q)
    (kx : ∀ (E : String) (ce : Cell) (q9 : Addr) (u : SX) (t : State) (H1 : Heap) (locs1 : List Loc), t.heap = H1 → s.vm.Alike t.vm → px u → BX E u t → H.size ≤ H1.size → (∀ q : Nat, q < H.size → ¬ AX q → H1[q]? = H[q]?) → va_S A0 H0 H1 locs1 → H1[q9]? = some ce → ce.vm = .none → s.vm.findClass E = some ce.cls → vx_W p l e R s m args below meth c H1 locs1 (cells + mc) (slots + ms) Q (F0 m pc ls rest) q9)
    (kk : ∀ (r : Int32) (u : S) (t : State) (H1 : Heap) (locs1 : List Loc), t.heap = H1 → s.vm.Alike t.vm → post r u → B u t → H.size ≤ H1.size → (∀ q : Nat, q < H.size → ¬ A1 q → H1[q]? = H[q]?) → va_S A0 H0 H1 locs1 → W p l e R s m args below meth c H1 locs1 (cells + mc) (slots + ms) Q (F0 m (pc + 3) ls (.int r :: rest))) : W p l e R s m args below meth c H locs cells slots Q (F0 m pc ls st0) := by
  intro T hT X
  rcases hr T hT X with ⟨v, st₀, t, T', L, h0, X', hL, e1, e2, ⟨⟨r, u, hv, hp, hb⟩, hF⟩, st⟩ | ⟨q, st₀, t, T', L, E, ce, h0, X', hL, e1, e2, ⟨u, hp, hb, hF⟩, hce, hcv, hcl, st⟩
  · cases hv
    obtain ⟨k1, k2, k3⟩ := vx_keep h0 e1 hS hA hf hL hF
    obtain ⟨t2, a1, b1⟩ := kk r u t T'.heap (locs ++ L) e1.symm (by rw [← e2]; exact X'.warmed.alike) hp hb k1 k2 k3 T' rfl X'
    exact ⟨t2, st t2 a1, b1⟩
  · obtain ⟨k1, k2, k3⟩ := vx_keep h0 e1 hS hAX hf hL hF
    obtain ⟨t2, a1, b1⟩ := kx E ce q u t T'.heap (locs ++ L) e1.symm (by rw [← e2]; exact X'.warmed.alike) hp hb k1 k2 k3 (by rw [e1]; exact hce) hcv hcl T' rfl X'
    exact ⟨t2, st.trans a1, b1⟩
theorem vx_calll {S SX : Type} {post : Int64 → S → Prop} {px : SX → Prop} {B : S → State → Prop} {BX : String → SX → State → Prop} {AX : Nat → Prop} (hr : vx_Run p l e R s m args below meth c H locs cells slots mc ms (F0 m pc ls st0) rest (va_Ql post B A1 a) (vx_X px BX AX) free) (hS : va_S A0 H0 H locs) (hA : ∀ q, q < H.size → A1 q → A0 q) (hf : ∀ q, free q → A0 q) (hAX : ∀ q, q < H.size → AX q → A0 q)
    (kx : ∀ (E : String) (ce : Cell) (q9 : Addr) (u : SX) (t : State) (H1 : Heap) (locs1 : List Loc), t.heap = H1 → s.vm.Alike t.vm → px u → BX E u t → H.size ≤ H1.size → (∀ q : Nat, q < H.size → ¬ AX q → H1[q]? = H[q]?) → va_S A0 H0 H1 locs1 → H1[q9]? = some ce → ce.vm = .none → s.vm.findClass E = some ce.cls → vx_W p l e R s m args below meth c H1 locs1 (cells + mc) (slots + ms) Q (F0 m pc ls rest) q9)
    (kk : ∀ (r : Int64) (u : S) (t : State) (H1 : Heap) (locs1 : List Loc), t.heap = H1 → s.vm.Alike t.vm → post r u → B u t → H.size ≤ H1.size → (∀ q : Nat, q < H.size → ¬ A1 q → H1[q]? = H[q]?) → va_S A0 H0 H1 locs1 → W p l e R s m args below meth c H1 locs1 (cells + mc) (slots + ms) Q (F0 m (pc + 3) ls (.long r :: rest))) : W p l e R s m args below meth c H locs cells slots Q (F0 m pc ls st0) := by
  intro T hT X
  rcases hr T hT X with ⟨v, st₀, t, T', L, h0, X', hL, e1, e2, ⟨⟨r, u, hv, hp, hb⟩, hF⟩, st⟩ | ⟨q, st₀, t, T', L, E, ce, h0, X', hL, e1, e2, ⟨u, hp, hb, hF⟩, hce, hcv, hcl, st⟩
  · cases hv
    obtain ⟨k1, k2, k3⟩ := vx_keep h0 e1 hS hA hf hL hF
    obtain ⟨t2, a1, b1⟩ := kk r u t T'.heap (locs ++ L) e1.symm (by rw [← e2]; exact X'.warmed.alike) hp hb k1 k2 k3 T' rfl X'
    exact ⟨t2, st t2 a1, b1⟩
  · obtain ⟨k1, k2, k3⟩ := vx_keep h0 e1 hS hAX hf hL hF
    obtain ⟨t2, a1, b1⟩ := kx E ce q u t T'.heap (locs ++ L) e1.symm (by rw [← e2]; exact X'.warmed.alike) hp hb k1 k2 k3 (by rw [e1]; exact hce) hcv hcl T' rfl X'
    exact ⟨t2, st.trans a1, b1⟩
theorem vx_callf {S SX : Type} {post : UInt32 → S → Prop} {px : SX → Prop} {B : S → State → Prop} {BX : String → SX → State → Prop} {AX : Nat → Prop} (hr : vx_Run p l e R s m args below meth c H locs cells slots mc ms (F0 m pc ls st0) rest (va_Qf post B A1 a) (vx_X px BX AX) free) (hS : va_S A0 H0 H locs) (hA : ∀ q, q < H.size → A1 q → A0 q) (hf : ∀ q, free q → A0 q) (hAX : ∀ q, q < H.size → AX q → A0 q)
    (kx : ∀ (E : String) (ce : Cell) (q9 : Addr) (u : SX) (t : State) (H1 : Heap) (locs1 : List Loc), t.heap = H1 → s.vm.Alike t.vm → px u → BX E u t → H.size ≤ H1.size → (∀ q : Nat, q < H.size → ¬ AX q → H1[q]? = H[q]?) → va_S A0 H0 H1 locs1 → H1[q9]? = some ce → ce.vm = .none → s.vm.findClass E = some ce.cls → vx_W p l e R s m args below meth c H1 locs1 (cells + mc) (slots + ms) Q (F0 m pc ls rest) q9)
    (kk : ∀ (r : UInt32) (u : S) (t : State) (H1 : Heap) (locs1 : List Loc), t.heap = H1 → s.vm.Alike t.vm → post r u → B u t → H.size ≤ H1.size → (∀ q : Nat, q < H.size → ¬ A1 q → H1[q]? = H[q]?) → va_S A0 H0 H1 locs1 → W p l e R s m args below meth c H1 locs1 (cells + mc) (slots + ms) Q (F0 m (pc + 3) ls (.float r :: rest))) : W p l e R s m args below meth c H locs cells slots Q (F0 m pc ls st0) := by
  intro T hT X
  rcases hr T hT X with ⟨v, st₀, t, T', L, h0, X', hL, e1, e2, ⟨⟨r, u, hv, hp, hb⟩, hF⟩, st⟩ | ⟨q, st₀, t, T', L, E, ce, h0, X', hL, e1, e2, ⟨u, hp, hb, hF⟩, hce, hcv, hcl, st⟩
  · cases hv
    obtain ⟨k1, k2, k3⟩ := vx_keep h0 e1 hS hA hf hL hF
    obtain ⟨t2, a1, b1⟩ := kk r u t T'.heap (locs ++ L) e1.symm (by rw [← e2]; exact X'.warmed.alike) hp hb k1 k2 k3 T' rfl X'
    exact ⟨t2, st t2 a1, b1⟩
  · obtain ⟨k1, k2, k3⟩ := vx_keep h0 e1 hS hAX hf hL hF
    obtain ⟨t2, a1, b1⟩ := kx E ce q u t T'.heap (locs ++ L) e1.symm (by rw [← e2]; exact X'.warmed.alike) hp hb k1 k2 k3 (by rw [e1]; exact hce) hcv hcl T' rfl X'
    exact ⟨t2, st.trans a1, b1⟩
theorem vx_calld {S SX : Type} {post : UInt64 → S → Prop} {px : SX → Prop} {B : S → State → Prop} {BX : String → SX → State → Prop} {AX : Nat → Prop} (hr : vx_Run p l e R s m args below meth c H locs cells slots mc ms (F0 m pc ls st0) rest (va_Qd post B A1 a) (vx_X px BX AX) free) (hS : va_S A0 H0 H locs) (hA : ∀ q, q < H.size → A1 q → A0 q) (hf : ∀ q, free q → A0 q) (hAX : ∀ q, q < H.size → AX q → A0 q)
    (kx : ∀ (E : String) (ce : Cell) (q9 : Addr) (u : SX) (t : State) (H1 : Heap) (locs1 : List Loc), t.heap = H1 → s.vm.Alike t.vm → px u → BX E u t → H.size ≤ H1.size → (∀ q : Nat, q < H.size → ¬ AX q → H1[q]? = H[q]?) → va_S A0 H0 H1 locs1 → H1[q9]? = some ce → ce.vm = .none → s.vm.findClass E = some ce.cls → vx_W p l e R s m args below meth c H1 locs1 (cells + mc) (slots + ms) Q (F0 m pc ls rest) q9)
    (kk : ∀ (r : UInt64) (u : S) (t : State) (H1 : Heap) (locs1 : List Loc), t.heap = H1 → s.vm.Alike t.vm → post r u → B u t → H.size ≤ H1.size → (∀ q : Nat, q < H.size → ¬ A1 q → H1[q]? = H[q]?) → va_S A0 H0 H1 locs1 → W p l e R s m args below meth c H1 locs1 (cells + mc) (slots + ms) Q (F0 m (pc + 3) ls (.double r :: rest))) : W p l e R s m args below meth c H locs cells slots Q (F0 m pc ls st0) := by
  intro T hT X
  rcases hr T hT X with ⟨v, st₀, t, T', L, h0, X', hL, e1, e2, ⟨⟨r, u, hv, hp, hb⟩, hF⟩, st⟩ | ⟨q, st₀, t, T', L, E, ce, h0, X', hL, e1, e2, ⟨u, hp, hb, hF⟩, hce, hcv, hcl, st⟩
  · cases hv
    obtain ⟨k1, k2, k3⟩ := vx_keep h0 e1 hS hA hf hL hF
    obtain ⟨t2, a1, b1⟩ := kk r u t T'.heap (locs ++ L) e1.symm (by rw [← e2]; exact X'.warmed.alike) hp hb k1 k2 k3 T' rfl X'
    exact ⟨t2, st t2 a1, b1⟩
  · obtain ⟨k1, k2, k3⟩ := vx_keep h0 e1 hS hAX hf hL hF
    obtain ⟨t2, a1, b1⟩ := kx E ce q u t T'.heap (locs ++ L) e1.symm (by rw [← e2]; exact X'.warmed.alike) hp hb k1 k2 k3 (by rw [e1]; exact hce) hcv hcl T' rfl X'
    exact ⟨t2, st.trans a1, b1⟩
theorem vx_callv {S SX : Type} {post : S → Prop} {px : SX → Prop} {B : S → State → Prop} {BX : String → SX → State → Prop} {AX : Nat → Prop} (hr : vx_Run p l e R s m args below meth c H locs cells slots mc ms (F0 m pc ls st0) rest (va_Qv post B A1 a) (vx_X px BX AX) free) (hS : va_S A0 H0 H locs) (hA : ∀ q, q < H.size → A1 q → A0 q) (hf : ∀ q, free q → A0 q) (hAX : ∀ q, q < H.size → AX q → A0 q)
    (kx : ∀ (E : String) (ce : Cell) (q9 : Addr) (u : SX) (t : State) (H1 : Heap) (locs1 : List Loc), t.heap = H1 → s.vm.Alike t.vm → px u → BX E u t → H.size ≤ H1.size → (∀ q : Nat, q < H.size → ¬ AX q → H1[q]? = H[q]?) → va_S A0 H0 H1 locs1 → H1[q9]? = some ce → ce.vm = .none → s.vm.findClass E = some ce.cls → vx_W p l e R s m args below meth c H1 locs1 (cells + mc) (slots + ms) Q (F0 m pc ls rest) q9)
    (kk : ∀ (u : S) (t : State) (H1 : Heap) (locs1 : List Loc), t.heap = H1 → s.vm.Alike t.vm → post u → B u t → H.size ≤ H1.size → (∀ q : Nat, q < H.size → ¬ A1 q → H1[q]? = H[q]?) → va_S A0 H0 H1 locs1 → W p l e R s m args below meth c H1 locs1 (cells + mc) (slots + ms) Q (F0 m (pc + 3) ls (rest))) : W p l e R s m args below meth c H locs cells slots Q (F0 m pc ls st0) := by
  intro T hT X
  rcases hr T hT X with ⟨v, st₀, t, T', L, h0, X', hL, e1, e2, ⟨⟨u, hv, hp, hb⟩, hF⟩, st⟩ | ⟨q, st₀, t, T', L, E, ce, h0, X', hL, e1, e2, ⟨u, hp, hb, hF⟩, hce, hcv, hcl, st⟩
  · cases hv
    obtain ⟨k1, k2, k3⟩ := vx_keep h0 e1 hS hA hf hL hF
    obtain ⟨t2, a1, b1⟩ := kk u t T'.heap (locs ++ L) e1.symm (by rw [← e2]; exact X'.warmed.alike) hp hb k1 k2 k3 T' rfl X'
    exact ⟨t2, st t2 a1, b1⟩
  · obtain ⟨k1, k2, k3⟩ := vx_keep h0 e1 hS hAX hf hL hF
    obtain ⟨t2, a1, b1⟩ := kx E ce q u t T'.heap (locs ++ L) e1.symm (by rw [← e2]; exact X'.warmed.alike) hp hb k1 k2 k3 (by rw [e1]; exact hce) hcv hcl T' rfl X'
    exact ⟨t2, st.trans a1, b1⟩
/-- caught by the row x of this method's table; the rows ahead don't take it -/
theorem vx_catch {own name : String} {E : String} {ce : Cell} {q : Addr} (hown : s.vm.findClass own = some m.cls) (pre : List ExceptionTableEntry) (x : ExceptionTableEntry) (suf : List ExceptionTableEntry) (hsplit : c.exceptionTable.toList = pre ++ x :: suf)
    (hpass : ∀ z ∈ pre, covers z pc = false ∨ (z.catchType ≠ 0 ∧ ∃ nm : String, (Cond.classLink own z.catchType nm).before args s = true ∧ va_Nc E nm s)) (hx : covers x pc = true) (h0 : x.catchType ≠ 0)
    (hlink : (Cond.classLink own x.catchType name).before args s = true) (hcast : (Cond.castable E name).before args s = true) (hcell : H[q]? = some ce) (hv : ce.vm = .none) (hcl : s.vm.findClass E = some ce.cls)
    (kk : W p l e R s m args below meth c H locs cells slots Q (F0 m x.handlerPc ls [.ref q])) : vx_W p l e R s m args below meth c H locs cells slots Q (F0 m pc ls rest) q := by
  intro T hT X
  have hpl : e.platform.magicAccessors = ({} : Platform).magicAccessors := by rw [X.admits.platform]
  obtain ⟨c3, c4, hc3, hc4, hasg⟩ := Cond.castable_spec hcast
  cases Option.some.inj (hc3.symm.trans hcl)
  obtain ⟨c5, hc5, hcl5⟩ := Cond.classLink_spec hown hlink e.platform hpl
  cases Option.some.inj (hc4.symm.trans hc5)
  obtain ⟨vm', X', st⟩ := X.thenCaughtThrough q (g := F0 m pc ls rest) rfl (Steps.refl _) (by rw [hT]; exact hcell) (by rw [hv]; rfl) (by obtain ⟨k9, h9, -⟩ := Vm.findClass_spec hcl; exact ⟨k9, h9⟩) pre x suf hsplit
    (fun z hz => by
      rcases hpass z hz with h | ⟨hz0, nm, hl1, hn1⟩
      · exact Or.inl h
      · obtain ⟨c6, hc6, hcl6⟩ := Cond.classLink_spec hown hl1 e.platform hpl
        obtain ⟨a8, b8, h1, h2, h3⟩ := hn1
        cases Option.some.inj (h1.symm.trans hcl)
        cases Option.some.inj (h2.symm.trans hc6)
        exact Or.inr ⟨hz0, _, hcl6, h3⟩) hx (Or.inr ⟨h0, c4, hcl5, hasg⟩)
  obtain ⟨t, a1, b1⟩ := kk (T.setVm vm') hT X'
  exact ⟨t, st.trans a1, b1⟩
end Rows
section Ends
variable {p : Program} {l : Launch} {e : Env} {R : Room} {s : State} {m : MethodId} {args : Array Value} {below : List Frame} {meth : Method} {c : Code} {H : Heap} {locs : List Loc} {cells slots : Nat} {Q : State → Prop}
variable {mc ms : Nat} {free : Addr → Prop} {A0 A1 : Nat → Prop} {H0 : Heap} {a : Array Value} {ls : Array Slot} {st0 rest : List Value}
variable {Qc : Array Value → State → Outcome → State → Prop} {XC : String → State → State → Prop}
/-- what a body that may throw owes at its end -/
def vx_MQ (below : List Frame) (Qc : Array Value → State → Outcome → State → Prop) (XC : String → State → State → Prop) (a : Array Value) (s : State) (mc ms : Nat) (free : Addr → Prop) : State → Prop := fun t =>
  ∃ o, t.status = .running ∧ Ended t below o ∧ vx_Q Qc XC mc ms free a s o t
theorem vx_ret {g : JFrame} {mc ms : Nat} (k : W p l e R s m args below meth c H locs cells slots (MQ below Qc args s mc ms free) g) : W p l e R s m args below meth c H locs cells slots (vx_MQ below Qc XC args s mc ms free) g := by
  intro T hT X
  obtain ⟨t, a1, o, b1, b2, b3, b4⟩ := k T hT X
  exact ⟨t, a1, o, b1, b2, Or.inl ⟨b3, b4⟩⟩
/-- not caught here: it goes on to the caller -/
theorem vx_widen {g : JFrame} {q : Addr} {k n : Nat} (h1 : cells ≤ k) (h2 : slots ≤ n) (kk : vx_W p l e R s m args below meth c H locs k n Q g q) : vx_W p l e R s m args below meth c H locs cells slots Q g q := fun T hT X => kk T hT (stand_widen X h1 h2)
theorem vx_out {pc : Nat} {E : String} {ce : Cell} {q : Addr} {mc ms : Nat} (hout : ∀ x ∈ c.exceptionTable.toList, covers x pc = false) (hlocks : meth.locks = false) (hcell : H[q]? = some ce) (hv : ce.vm = .none) (hcl : s.vm.findClass E = some ce.cls)
    (hx : ∀ t : State, t.heap = H → s.vm.Alike t.vm → XC E s t) (hf : ∀ z ∈ locs, free z.base) (hc : cells ≤ mc) (hs : slots ≤ ms) :
    vx_W p l e R s m args below meth c H locs cells slots (vx_MQ below Qc XC args s mc ms free) (F0 m pc ls rest) q := by
  intro T hT X
  obtain ⟨st1, hrun, hend, hW, hsm⟩ := X.leaveThrown q (g := F0 m pc ls rest) rfl rfl rfl hout hlocks
  have hcell9 : (T.setFrames (.throwing q :: below)).heap[q]? = some ce := by
    show T.heap[q]? = some ce
    rw [hT]; exact hcell
  exact ⟨_, st1, .threw q, hrun, hend, Or.inr ⟨q, rfl, E, ce, locs, hx _ hT hW.alike, hcell9, hv, hcl, hW, hsm.mono hc hs, hf⟩⟩
theorem vx_frame {U : State} {k n : Nat} (h : s.sameButNew ({ U with vm := s.vm } : State) locs k n) : s.heap.size ≤ U.heap.size ∧ ∀ q : Nat, q < s.heap.size → (∀ z ∈ locs, z.base ≠ q) → U.heap[q]? = s.heap[q]? := by
  obtain ⟨-, h2, -, -, -, h6⟩ := h
  refine ⟨h2, fun q hq hz => ?_⟩
  obtain ⟨c9, e1, e2, e3, e4⟩ := h6 q _ (Array.getElem?_eq_getElem hq)
  have hs : c9.slots = (s.heap[q]).slots := Array.ext_getElem? fun i => e4 i fun hm => hz _ hm rfl
  have h9 : c9 = s.heap[q] := by
    rw [hs] at e2
    exact e2
  have e5 : U.heap[q]? = some c9 := e1
  rw [e5, h9, Array.getElem?_eq_getElem hq]
/-- the words of a throw but the four that speak of the heap -/
def vx_no (w : Cond) : Bool := decide (w ≠ .isRef (.static Bundle.tN "UNASSIGNED_STACK" Bundle.steD)) && decide (w ≠ .isRef (.static Bundle.tN "SUPPRESSED_SENTINEL" Bundle.listD)) && decide (w ≠ .laysStatic Bundle.tN "UNASSIGNED_STACK" Bundle.steD) && decide (w ≠ .laysStatic Bundle.tN "SUPPRESSED_SENTINEL" Bundle.listD)
def vx_at0 (own : String) (ic : Nat) (X : String) (names : List String) : List Cond := (Bundle.ownAtoms0 own ic X names).filter vx_no
def vx_atS (own : String) (ic : Nat) (X : String) (names : List String) : List Cond := (Bundle.ownAtoms own ic X names).filter vx_no
/-- a word that the tables alone decide, or a good one -/
def vx_ot (w : Cond) : Bool := w.onTables || goodWord w
theorem vx_ot_at {args a' : Array Value} {s U : State} {w : Cond} (hW : s.WarmedH U.vm) (hvm : s.vm = U.vm) (hg : vx_ot w = true) (h : w.before args s = true) : w.before a' U = true := by
  simp only [vx_ot, Bool.or_eq_true] at hg
  rcases hg with hg | hg
  · exact va_tabs hg hvm h
  · exact word_at hW (good_of_word hg) h
/-- a list's words: the good ones out of the method's own list, the others by premises of their own -/
theorem vx_hat {args : Array Value} {s : State} {L B : List Cond} (h1 : ∀ w ∈ L.filter goodWord, w.before args s = true) (h2 : ∀ w ∈ L.filter (fun w => !goodWord w), w ∈ B) (h3 : ∀ w ∈ B, w.before args s = true) : ∀ w ∈ L, w.before args s = true := by
  intro w hw
  by_cases g : goodWord w = true
  · exact h1 w (List.mem_filter.mpr ⟨hw, g⟩)
  · refine h3 w (h2 w (List.mem_filter.mpr ⟨hw, ?_⟩))
    show (!goodWord w) = true
    cases hgw : goodWord w
    · rfl
    · exact absurd hgw g
theorem vx_c {args : Array Value} {s : State} {w : Cond} {B : List Cond} (h : w.before args s = true) (t : ∀ w ∈ B, w.before args s = true) : ∀ w' ∈ w :: B, w'.before args s = true := fun w' h' => (List.mem_cons.mp h').elim (fun e => by rw [e]; exact h) (t w')
theorem vx_n {args : Array Value} {s : State} : ∀ w ∈ ([] : List Cond), w.before args s = true := fun _ h => nomatch h
theorem vx_own {args : Array Value} {s : State} {L : List Cond} (h1 : ∀ w ∈ L.filter vx_no, w.before args s = true)
    (hU : (Cond.isRef (.static Bundle.tN "UNASSIGNED_STACK" Bundle.steD)).before args s = true) (hN : (Cond.isRef (.static Bundle.tN "SUPPRESSED_SENTINEL" Bundle.listD)).before args s = true)
    (lU : (Cond.laysStatic Bundle.tN "UNASSIGNED_STACK" Bundle.steD).before args s = true) (lN : (Cond.laysStatic Bundle.tN "SUPPRESSED_SENTINEL" Bundle.listD).before args s = true) : ∀ w ∈ L, w.before args s = true := by
  intro w hw
  by_cases e1 : w = .isRef (.static Bundle.tN "UNASSIGNED_STACK" Bundle.steD)
  · rw [e1]; exact hU
  · by_cases e2 : w = .isRef (.static Bundle.tN "SUPPRESSED_SENTINEL" Bundle.listD)
    · rw [e2]; exact hN
    · by_cases e3 : w = .laysStatic Bundle.tN "UNASSIGNED_STACK" Bundle.steD
      · rw [e3]; exact lU
      · by_cases e4 : w = .laysStatic Bundle.tN "SUPPRESSED_SENTINEL" Bundle.listD
        · rw [e4]; exact lN
        · exact h1 w (List.mem_filter.mpr ⟨hw, by unfold vx_no; rw [decide_eq_true e1, decide_eq_true e2, decide_eq_true e3, decide_eq_true e4]; rfl⟩)
/-- where a static field lies, its class's statics cell in H -/
def vx_L (C n d : String) (A : Nat → Prop) (U : State) (H : Heap) : Prop := ∃ (c : ClassId) (k : Class) (i : Nat) (f : Field) (a : Nat) (cell : Cell), U.vm.findClass C = some c ∧ U.fieldFound? C n d = some (c, k, i, f) ∧ f.isStatic = true ∧ k.statics = some a ∧ H[a]? = some cell ∧ cell.vm.isStatics = true ∧ cell.cls = c ∧ f.slot < cell.slots.size ∧ k.staticTypes[f.slot]? = some f.type ∧ ¬ A a
theorem vx_L.moved {C n d : String} {A : Nat → Prop} {u U : State} {H : Heap} (hvm : u.vm.Alike U.vm) (h : vx_L C n d A u H) : vx_L C n d A U H := by
  obtain ⟨c, k, i, f, a, cell, h1, h2, h3, h4, h5, h6, h7, h8, h9, h10⟩ := h
  obtain ⟨k', hi', he⟩ := State.fieldFound?_setVm hvm h2
  exact ⟨c, k', i, f, a, cell, by rw [hvm.findClass]; exact h1, hi', h3, by rw [he]; exact h4, h5, h6, h7, h8, by rw [he]; exact h9, h10⟩
theorem vx_L.kept {C n d : String} {A : Nat → Prop} {U : State} {H H1 : Heap} (h : vx_L C n d A U H) (hq : ∀ a : Nat, a < H.size → ¬ A a → H1[a]? = H[a]?) : vx_L C n d A U H1 := by
  obtain ⟨c, k, i, f, a, cell, h1, h2, h3, h4, h5, h6, h7, h8, h9, h10⟩ := h
  exact ⟨c, k, i, f, a, cell, h1, h2, h3, h4, by rw [hq a (Array.getElem?_eq_some_iff.mp h5).1 h10]; exact h5, h6, h7, h8, h9, h10⟩
theorem vx_L.narrow {C n d : String} {A B : Nat → Prop} {U : State} {H : Heap} (h : vx_L C n d A U H) (hAB : ∀ q, B q → A q) : vx_L C n d B U H := by
  obtain ⟨c, k, i, f, a, cell, h1, h2, h3, h4, h5, h6, h7, h8, h9, h10⟩ := h
  exact ⟨c, k, i, f, a, cell, h1, h2, h3, h4, h5, h6, h7, h8, h9, fun z => h10 (hAB _ z)⟩
theorem vx_L.word {C n d : String} {A : Nat → Prop} {s : State} {args : Array Value} (h : vx_L C n d A s s.heap) : (Cond.laysStatic C n d).before args s = true := by
  obtain ⟨c, k, i, f, a, cell, h1, h2, h3, h4, h5, h6, h7, h8, h9, -⟩ := h
  show (Cond.laysStatic C n d).holds args s none s [] = true
  exact Cond.laysStatic_of h1 h2 h3 h4 h5 h6 h7 h8 h9
/-- .. and what it holds: null or some reference -/
def vx_Zq (C n d : String) (A : Nat → Prop) (U : State) (H : Heap) : Prop := va_Zq C n d A U H ∧ vx_L C n d A U H
theorem vx_Zq.moved {C n d : String} {A : Nat → Prop} {u U : State} {H : Heap} (hvm : u.vm.Alike U.vm) (h : vx_Zq C n d A u H) : vx_Zq C n d A U H := ⟨va_Zq.moved hvm h.1, vx_L.moved hvm h.2⟩
theorem vx_Zq.kept {C n d : String} {A : Nat → Prop} {U : State} {H H1 : Heap} (h : vx_Zq C n d A U H) (hq : ∀ a : Nat, a < H.size → ¬ A a → H1[a]? = H[a]?) : vx_Zq C n d A U H1 := ⟨va_Zq.kept h.1 hq, vx_L.kept h.2 hq⟩
theorem vx_Zq.narrow {C n d : String} {A B : Nat → Prop} {U : State} {H : Heap} (h : vx_Zq C n d A U H) (hAB : ∀ q, B q → A q) : vx_Zq C n d B U H := ⟨va_Zq.narrow h.1 hAB, vx_L.narrow h.2 hAB⟩
theorem vx_Zqof {args : Array Value} {s : State} {C n d : String} {A : Nat → Prop} (hl : (Cond.laysStatic C n d).before args s = true) (hini : (Cond.initialized C).before args s = true) (h : (Cond.isRef (.static C n d)).before args s = true) (hA : ∀ a : Nat, a < s.heap.size → ¬ A a) : vx_Zq C n d A s s.heap := by
  refine ⟨va_Zqof hl hini h hA, ?_⟩
  obtain ⟨c, k, i, f, a, cell, h1, h2, h3, h4, h5, h6, h7, h8, h9⟩ := Cond.laysStatic_spec hl
  exact ⟨c, k, i, f, a, cell, h1, h2, h3, h4, h5, h6, h7, h8, h9, hA a (Array.getElem?_eq_some_iff.mp h5).1⟩
theorem vx_isRef {C n d : String} {v : Value} {A : Nat → Prop} {s : State} {args : Array Value} (h : va_Z C n d v A s s.heap) (hv : v.isRef = true) : (Cond.isRef (.static C n d)).before args s = true := by
  obtain ⟨cf, kf, fi, f, a, cell, h1, h2, h3, h4, h5, h6, h7, -⟩ := h
  have he : (Term.static C n d).eval args s none [] s = some v := by
    simp [Term.eval, State.fieldNamed?, h1, h2, h4, h5, h6, h7]
  simp only [Cond.before, Cond.holds, Cond.value, he]
  cases v <;> simp_all [Value.isRef]
theorem vx_isRefq {C n d : String} {A : Nat → Prop} {s : State} {args : Array Value} (h : va_Zq C n d A s s.heap) : (Cond.isRef (.static C n d)).before args s = true := by
  rcases h with h | ⟨t, h⟩
  · exact vx_isRef h rfl
  · exact vx_isRef h rfl
/-- the same frame, seen from here: as if the method were called anew in this heap -/
theorem vx_rebase {T : State} (X : Stand p l e R s m args below meth c T locs cells slots) {R' : Room} (hf : R'.frames ≤ R.frames) (hl : R'.locals ≤ R.locals) (hc : cells + R'.cells ≤ R.cells) (hs : slots + R'.slots ≤ R.slots) :
    Stand p l e R' ((T.setVm s.vm).setFrames (.invoking m args :: below)) m args below meth c T [] 0 0 := by
  have htop : (T.setVm s.vm).topJava?.isSome := X.here.top
  have hF : ((T.setVm s.vm).setFrames (.invoking m args :: below)).frames = .invoking m args :: below := State.frames_setFrames _ (State.cur_lt_of_top htop)
  obtain ⟨g₀, hg0⟩ := Option.isSome_iff_exists.mp htop
  obtain ⟨r, hr⟩ := State.topJava?_eq_some.mp hg0
  have hl9 : e.platform.stackLimits (T.setVm s.vm).me = e.platform.stackLimits s.me := X.limits
  have hb9 : (T.setVm s.vm).me.stackBytes = s.me.stackBytes := X.bytes
  refine ⟨X.admits, X.cas, X.clock, hF, ?_, X.hears, X.method, X.code, X.here, X.tail, X.warmed, ?_, ?_, ?_⟩
  · have h := X.room
    have hU : ((T.setVm s.vm).setFrames (.invoking m args :: below)).localsInUse = s.localsInUse := by
      rw [State.localsInUse_invoking hF (meth := meth) (c := c) X.method X.code, State.localsInUse_invoking X.frames X.method X.code]
    simp only [State.hasRoom, Bool.and_eq_true, decide_eq_true_eq] at h ⊢
    obtain ⟨⟨⟨⟨h1, h2, h3, h4, h5, h6⟩, h7⟩, h8⟩, h9⟩ := h
    rw [X.frames, List.length_cons] at h2 h3
    have q1 := X.heapSize
    have q2 := X.used
    simp only [hF, hU, List.length_cons, State.stackLimits_setFrames, State.stackBytes_setFrames, hl9, hb9]
    refine ⟨⟨⟨⟨by omega, by omega, by omega, by omega, by omega, h6⟩, ?_⟩, ?_⟩, X.book⟩
    · show T.heap.size + R'.cells ≤ e.platform.maxCells
      omega
    · show T.slotsUsed + R'.slots ≤ e.platform.maxSlots
      omega
  · rw [State.stackLimits_setFrames]; rfl
  · rw [State.stackBytes_setFrames]; rfl
  · refine ⟨?_, Nat.le_refl _, Nat.le_refl _, ?_, ?_, fun a c9 h9 => ⟨c9, h9, rfl, rfl, fun _ _ => rfl⟩⟩
    · obtain ⟨t, ht, -⟩ := State.frames_cons hr
      show T.setVm s.vm = { ((T.setVm s.vm).setFrames (.invoking m args :: below)).setFrames (T.setVm s.vm).frames with heap := T.heap, slotsUsed := T.slotsUsed }
      rw [State.setFrames_setFrames, State.setFrames_self ht]
      rfl
    · show T.slotsUsed = T.slotsUsed + ((T.heap.toList.drop T.heap.size).map (·.slots.size)).sum
      rw [List.drop_eq_nil_of_le (Nat.le_of_eq Array.length_toList)]
      rfl
    · show ((T.heap.toList.drop T.heap.size).map (·.slots.size)).sum ≤ 0
      rw [List.drop_eq_nil_of_le (Nat.le_of_eq Array.length_toList)]
      exact Nat.le_refl _
/-- 'throw new E()': new; dup; invokespecial; athrow -/
theorem vx_throw0 {cc : ByteArray} {pc : Nat} (hexec : p.tables.exec = Jvm.exec) (hb : c.code = cc) (hl : l.stackTraces = false) {own cls : String} {names : List String} {ik ic mc ms : Nat} {A : Nat → Prop}
    (hown : s.vm.findClass own = some m.cls) (hcls : Bundle.fit cls = true) (hnames : ∀ n ∈ names, Bundle.fit n = true)
    (hk : (Cond.classLink own ik cls).before args s = true) (hini : (Cond.initialized cls).before args s = true) (hat : ∀ w ∈ vx_at0 own ic cls names, w.before args s = true)
    (hgood : ∀ w ∈ Cond.classLink own ik cls :: Cond.initialized cls :: vx_at0 own ic cls names, vx_ot w = true)
    (hU : vx_Zq Bundle.tN "UNASSIGNED_STACK" Bundle.steD A s s.heap) (hN : vx_Zq Bundle.tN "SUPPRESSED_SENTINEL" Bundle.listD A s s.heap) (hS : va_S A s.heap H locs) (hsize : ls.size = c.maxLocals)
    (d0 : decode cc pc = .ok (.new ik, 3)) (d3 : decode cc (pc + 3) = .ok (.dup, 1)) (d4 : decode cc (pc + 4) = .ok (.invokespecial ic, 3)) (d7 : decode cc (pc + 7) = .ok (.athrow, 1))
    (hout : ∀ x ∈ c.exceptionTable.toList, covers x (pc + 7) = false)
    (hRframes : names.length + 3 < R.frames) (hRlocals : (rest.map fun v => v.category).sum + (13 * (names.length + 1) + 42) ≤ R.locals) (hRcells : cells + 1 ≤ R.cells) (hRslots : slots + 6 ≤ R.slots) (hlocks : meth.locks = false)
    (hx : ∀ t : State, s.vm.Alike t.vm → H.size ≤ t.heap.size → (∀ q : Nat, q < H.size → t.heap[q]? = H[q]?) → XC cls s t)
    (hf : ∀ z ∈ locs, free z.base) (hc : cells + 1 ≤ mc) (hs : slots + 6 ≤ ms) :
    W p l e R s m args below meth c H locs cells slots (vx_MQ below Qc XC args s mc ms free) (F0 m pc ls rest) := by
  intro T hT X
  have htr : e.platform.stackTraces = false := (show e.platform.stackTraces = l.stackTraces by rw [X.admits.platform]).trans hl
  have Y := vx_rebase X (R' := { frames := R.frames, locals := R.locals, cells := 1, slots := 6 }) (Nat.le_refl _) (Nat.le_refl _) hRcells hRslots
  obtain ⟨s', hA⟩ : ∃ z, z = (T.setVm s.vm).setFrames (.invoking m args :: below) := ⟨_, rfl⟩
  rw [← hA] at Y
  have hvm : s'.vm = s.vm := by rw [hA]; rfl
  have hhp : s'.heap = H := by rw [hA]; exact hT
  have hW0 : s.WarmedH s'.vm := by rw [hvm]; exact State.WarmedH.refl s
  have hat' : ∀ w ∈ vx_at0 own ic cls names, w.before args s' = true := fun w hw => vx_ot_at hW0 hvm.symm (hgood w (List.mem_cons_of_mem _ (List.mem_cons_of_mem _ hw))) (hat w hw)
  have hk' : (Cond.classLink own ik cls).before args s' = true := vx_ot_at hW0 hvm.symm (hgood _ List.mem_cons_self) hk
  have hini' : (Cond.initialized cls).before args s' = true := vx_ot_at hW0 hvm.symm (hgood _ (List.mem_cons_of_mem _ List.mem_cons_self)) hini
  have hU' : vx_Zq Bundle.tN "UNASSIGNED_STACK" Bundle.steD A s' s'.heap := by rw [hhp]; exact vx_Zq.moved hW0.alike (hU.kept hS.2.1)
  have hN' : vx_Zq Bundle.tN "SUPPRESSED_SENTINEL" Bundle.listD A s' s'.heap := by rw [hhp]; exact vx_Zq.moved hW0.alike (hN.kept hS.2.1)
  have h : ∀ w ∈ Bundle.ownAtoms0 own ic cls names, w.before args s' = true := vx_own hat' (vx_isRefq hU'.1) (vx_isRefq hN'.1) hU'.2.word hN'.2.word
  have hown' : s'.vm.findClass own = some m.cls := by rw [hvm]; exact hown
  have hins : (Cond.instantiable cls 6).before args s' = true := h _ (by simp [Bundle.ownAtoms0])
  obtain ⟨vm₁, cX, kX, hfX, hkX, -, -, X₁, st1⟩ := Y.newCold hexec (own := own) (C := cls) (index := ik) (n := 6) hown' hk' hins hini'
    (g := F0 m pc ls rest) rfl (by rw [hb]; exact d0) (Nat.le_refl _) (Nat.le_refl _)
  generalize hT1 : (T.setVm vm₁).pushCell { cls := cX, slots := kX.instanceTypes.map defaultValue, vm := .none } = T1 at X₁ st1
  have hcat : (Value.ref T.heap.size).category = 1 := rfl
  have hcellA : T1.heap[T.heap.size]? = some (freshCell cX kX) := by rw [← hT1]; exact State.heap_pushCell_size _ _
  have d3' : decode c.code (pc + 3) = .ok (.dup, 1) := by rw [hb]; exact d3
  obtain ⟨U, hsteps, hrun, hend, hW, hsame, ce, hce, hO⟩ := X₁.ctorThrow0 hexec htr (own := own) (cls := cls) (names := names) (ic := ic) hown' hcls hnames h (fun x hx => nomatch hx) hfX hkX hcellA (by rw [hhp, hT]; exact Nat.le_refl _)
    (g := { method := m, pc := pc + 4, locals := ls, stack := .ref T.heap.size :: .ref T.heap.size :: rest, locked := none }) rfl hsize rfl rfl (rest := rest) rfl
    (by rw [hb]; exact d4) (by rw [hb]; exact d7) hout hRframes (by simp only [List.map_cons, List.sum_cons, hcat]; omega) hlocks
  obtain ⟨f1, f2⟩ := vx_frame hsame
  rw [hhp] at f1 f2
  have hWs : s.WarmedH U.vm := State.WarmedH.trans hW0 hW
  have hcl : s.vm.findClass cls = some ce.cls := by
    have h9 := hO.cls
    rw [hvm] at h9
    exact h9
  have hall : s.sameButNew ({ U with vm := s.vm } : State) locs mc ms := by
    subst hA
    obtain ⟨e1, e2⟩ := hsame
    rw [State.setFrames_setFrames] at e1
    have h2 : (T.setVm s.vm).sameButNew ({ U with vm := s.vm } : State) [] (0 + 1) (0 + 6) := ⟨e1, e2⟩
    have h3 := X.same.trans h2
    rw [List.append_nil] at h3
    exact h3.mono hc hs
  refine ⟨U, ?_, .threw T.heap.size, hrun, hend, Or.inr ⟨T.heap.size, rfl, cls, ce, locs, hx U hWs.alike f1 (fun q hq => f2 q hq (fun z hz => nomatch hz)), hce, hO.vm, hcl, hWs, hall, hf⟩⟩
  refine st1 _ ?_
  show Steps p.tables e below (T1.setTop { method := m, pc := pc + 3, locals := ls, stack := .ref T.heap.size :: rest, locked := none }) _
  jvm_step X₁.here [X₁.here.top, hexec, d3', Value.category]
  exact hsteps
/-- 'throw new E("text")': new; dup; ldc; invokespecial; athrow -/
theorem vx_throwS {cc : ByteArray} {pc : Nat} (hexec : p.tables.exec = Jvm.exec) (hb : c.code = cc) (hl : l.stackTraces = false) {own cls text : String} {names : List String} {ik is ic mc ms sa : Nat} {A : Nat → Prop}
    (hown : s.vm.findClass own = some m.cls) (hcls : Bundle.fit cls = true) (hnames : ∀ n ∈ names, Bundle.fit n = true)
    (hk : (Cond.classLink own ik cls).before args s = true) (hini : (Cond.initialized cls).before args s = true) (hstr : vk_R own is text sa s) (hat : ∀ w ∈ vx_atS own ic cls names, w.before args s = true)
    (hgood : ∀ w ∈ Cond.classLink own ik cls :: Cond.initialized cls :: vx_atS own ic cls names, vx_ot w = true)
    (hU : vx_Zq Bundle.tN "UNASSIGNED_STACK" Bundle.steD A s s.heap) (hN : vx_Zq Bundle.tN "SUPPRESSED_SENTINEL" Bundle.listD A s s.heap) (hS : va_S A s.heap H locs) (hsize : ls.size = c.maxLocals)
    (d0 : decode cc pc = .ok (.new ik, 3)) (d3 : decode cc (pc + 3) = .ok (.dup, 1)) (d4 : decode cc (pc + 4) = .ok (.ldc is, 2)) (d6 : decode cc (pc + 6) = .ok (.invokespecial ic, 3)) (d9 : decode cc (pc + 9) = .ok (.athrow, 1))
    (hout : ∀ x ∈ c.exceptionTable.toList, covers x (pc + 9) = false)
    (hRframes : names.length + 3 < R.frames) (hRlocals : (rest.map fun v => v.category).sum + (13 * (names.length + 1) + 43) ≤ R.locals) (hRcells : cells + 1 ≤ R.cells) (hRslots : slots + 6 ≤ R.slots) (hlocks : meth.locks = false)
    (hx : ∀ t : State, s.vm.Alike t.vm → H.size ≤ t.heap.size → (∀ q : Nat, q < H.size → t.heap[q]? = H[q]?) → XC cls s t)
    (hf : ∀ z ∈ locs, free z.base) (hc : cells + 1 ≤ mc) (hs : slots + 6 ≤ ms) :
    W p l e R s m args below meth c H locs cells slots (vx_MQ below Qc XC args s mc ms free) (F0 m pc ls rest) := by
  intro T hT X
  have htr : e.platform.stackTraces = false := (show e.platform.stackTraces = l.stackTraces by rw [X.admits.platform]).trans hl
  have Y := vx_rebase X (R' := { frames := R.frames, locals := R.locals, cells := 1, slots := 6 }) (Nat.le_refl _) (Nat.le_refl _) hRcells hRslots
  obtain ⟨s', hA⟩ : ∃ z, z = (T.setVm s.vm).setFrames (.invoking m args :: below) := ⟨_, rfl⟩
  rw [← hA] at Y
  have hvm : s'.vm = s.vm := by rw [hA]; rfl
  have hhp : s'.heap = H := by rw [hA]; exact hT
  have hW0 : s.WarmedH s'.vm := by rw [hvm]; exact State.WarmedH.refl s
  have hat' : ∀ w ∈ vx_atS own ic cls names, w.before args s' = true := fun w hw => vx_ot_at hW0 hvm.symm (hgood w (List.mem_cons_of_mem _ (List.mem_cons_of_mem _ hw))) (hat w hw)
  have hk' : (Cond.classLink own ik cls).before args s' = true := vx_ot_at hW0 hvm.symm (hgood _ List.mem_cons_self) hk
  have hini' : (Cond.initialized cls).before args s' = true := vx_ot_at hW0 hvm.symm (hgood _ (List.mem_cons_of_mem _ List.mem_cons_self)) hini
  have hU' : vx_Zq Bundle.tN "UNASSIGNED_STACK" Bundle.steD A s' s'.heap := by rw [hhp]; exact vx_Zq.moved hW0.alike (hU.kept hS.2.1)
  have hN' : vx_Zq Bundle.tN "SUPPRESSED_SENTINEL" Bundle.listD A s' s'.heap := by rw [hhp]; exact vx_Zq.moved hW0.alike (hN.kept hS.2.1)
  have h : ∀ w ∈ Bundle.ownAtoms own ic cls names, w.before args s' = true := vx_own hat' (vx_isRefq hU'.1) (vx_isRefq hN'.1) hU'.2.word hN'.2.word
  have hown' : s'.vm.findClass own = some m.cls := by rw [hvm]; exact hown
  have hins : (Cond.instantiable cls 6).before args s' = true := h _ (by simp [Bundle.ownAtoms])
  obtain ⟨vm₁, cX, kX, hfX, hkX, -, -, X₁, st1⟩ := Y.newCold hexec (own := own) (C := cls) (index := ik) (n := 6) hown' hk' hins hini'
    (g := F0 m pc ls rest) rfl (by rw [hb]; exact d0) (Nat.le_refl _) (Nat.le_refl _)
  generalize hT1 : (T.setVm vm₁).pushCell { cls := cX, slots := kX.instanceTypes.map defaultValue, vm := .none } = T1 at X₁ st1
  have hcat : (Value.ref T.heap.size).category = 1 := rfl
  have hcellA : T1.heap[T.heap.size]? = some (freshCell cX kX) := by rw [← hT1]; exact State.heap_pushCell_size _ _
  have d3' : decode c.code (pc + 3) = .ok (.dup, 1) := by rw [hb]; exact d3
  have d4' : decode c.code (pc + 4) = .ok (.ldc is, 2) := by rw [hb]; exact d4
  have hstr' : vk_R own is text sa s' := vk_R.warm hW0 hstr
  obtain ⟨U, hsteps, hrun, hend, hW, hsame, ce, hce, hO⟩ := X₁.ctorThrowS hexec htr (own := own) (cls := cls) (names := names) (ic := ic) hown' hcls hnames h (fun x hx => nomatch hx) hfX hkX hcellA (by rw [hhp, hT]; exact Nat.le_refl _) (msg := .ref sa) rfl
    (g := { method := m, pc := pc + 6, locals := ls, stack := .ref sa :: .ref T.heap.size :: .ref T.heap.size :: rest, locked := none }) rfl hsize rfl rfl (rest := rest) rfl
    (by rw [hb]; exact d6) (by rw [hb]; exact d9) hout hRframes (by simp only [List.map_cons, List.sum_cons, hcat]; omega) hlocks
  obtain ⟨f1, f2⟩ := vx_frame hsame
  rw [hhp] at f1 f2
  have hWs : s.WarmedH U.vm := State.WarmedH.trans hW0 hW
  have hcl : s.vm.findClass cls = some ce.cls := by
    have h9 := hO.cls
    rw [hvm] at h9
    exact h9
  have hall : s.sameButNew ({ U with vm := s.vm } : State) locs mc ms := by
    subst hA
    obtain ⟨e1, e2⟩ := hsame
    rw [State.setFrames_setFrames] at e1
    have h2 : (T.setVm s.vm).sameButNew ({ U with vm := s.vm } : State) [] (0 + 1) (0 + 6) := ⟨e1, e2⟩
    have h3 := X.same.trans h2
    rw [List.append_nil] at h3
    exact h3.mono hc hs
  refine ⟨U, ?_, .threw T.heap.size, hrun, hend, Or.inr ⟨T.heap.size, rfl, cls, ce, locs, hx U hWs.alike f1 (fun q hq => f2 q hq (fun z hz => nomatch hz)), hce, hO.vm, hcl, hWs, hall, hf⟩⟩
  refine st1 _ ?_
  show Steps p.tables e below (T1.setTop { method := m, pc := pc + 3, locals := ls, stack := .ref T.heap.size :: rest, locked := none }) _
  jvm_step X₁.here [X₁.here.top, hexec, d3', Value.category]
  exact X₁.ldcString hexec (own := own) (text := text) (index := is) (a := sa) hown' hstr'.1 hstr'.2
    (g := { method := m, pc := pc + 4, locals := ls, stack := .ref T.heap.size :: .ref T.heap.size :: rest, locked := none }) rfl d4' _ hsteps
/-- 'throw new E("text")', the text by a wide index -/
theorem vx_throwSW {cc : ByteArray} {pc : Nat} (hexec : p.tables.exec = Jvm.exec) (hb : c.code = cc) (hl : l.stackTraces = false) {own cls text : String} {names : List String} {ik is ic mc ms sa : Nat} {A : Nat → Prop}
    (hown : s.vm.findClass own = some m.cls) (hcls : Bundle.fit cls = true) (hnames : ∀ n ∈ names, Bundle.fit n = true)
    (hk : (Cond.classLink own ik cls).before args s = true) (hini : (Cond.initialized cls).before args s = true) (hstr : vk_R own is text sa s) (hat : ∀ w ∈ vx_atS own ic cls names, w.before args s = true)
    (hgood : ∀ w ∈ Cond.classLink own ik cls :: Cond.initialized cls :: vx_atS own ic cls names, vx_ot w = true)
    (hU : vx_Zq Bundle.tN "UNASSIGNED_STACK" Bundle.steD A s s.heap) (hN : vx_Zq Bundle.tN "SUPPRESSED_SENTINEL" Bundle.listD A s s.heap) (hS : va_S A s.heap H locs) (hsize : ls.size = c.maxLocals)
    (d0 : decode cc pc = .ok (.new ik, 3)) (d3 : decode cc (pc + 3) = .ok (.dup, 1)) (d4 : decode cc (pc + 4) = .ok (.ldc_w is, 3)) (d7 : decode cc (pc + 7) = .ok (.invokespecial ic, 3)) (d10 : decode cc (pc + 10) = .ok (.athrow, 1))
    (hout : ∀ x ∈ c.exceptionTable.toList, covers x (pc + 10) = false)
    (hRframes : names.length + 3 < R.frames) (hRlocals : (rest.map fun v => v.category).sum + (13 * (names.length + 1) + 43) ≤ R.locals) (hRcells : cells + 1 ≤ R.cells) (hRslots : slots + 6 ≤ R.slots) (hlocks : meth.locks = false)
    (hx : ∀ t : State, s.vm.Alike t.vm → H.size ≤ t.heap.size → (∀ q : Nat, q < H.size → t.heap[q]? = H[q]?) → XC cls s t)
    (hf : ∀ z ∈ locs, free z.base) (hc : cells + 1 ≤ mc) (hs : slots + 6 ≤ ms) :
    W p l e R s m args below meth c H locs cells slots (vx_MQ below Qc XC args s mc ms free) (F0 m pc ls rest) := by
  intro T hT X
  have htr : e.platform.stackTraces = false := (show e.platform.stackTraces = l.stackTraces by rw [X.admits.platform]).trans hl
  have Y := vx_rebase X (R' := { frames := R.frames, locals := R.locals, cells := 1, slots := 6 }) (Nat.le_refl _) (Nat.le_refl _) hRcells hRslots
  obtain ⟨s', hA⟩ : ∃ z, z = (T.setVm s.vm).setFrames (.invoking m args :: below) := ⟨_, rfl⟩
  rw [← hA] at Y
  have hvm : s'.vm = s.vm := by rw [hA]; rfl
  have hhp : s'.heap = H := by rw [hA]; exact hT
  have hW0 : s.WarmedH s'.vm := by rw [hvm]; exact State.WarmedH.refl s
  have hat' : ∀ w ∈ vx_atS own ic cls names, w.before args s' = true := fun w hw => vx_ot_at hW0 hvm.symm (hgood w (List.mem_cons_of_mem _ (List.mem_cons_of_mem _ hw))) (hat w hw)
  have hk' : (Cond.classLink own ik cls).before args s' = true := vx_ot_at hW0 hvm.symm (hgood _ List.mem_cons_self) hk
  have hini' : (Cond.initialized cls).before args s' = true := vx_ot_at hW0 hvm.symm (hgood _ (List.mem_cons_of_mem _ List.mem_cons_self)) hini
  have hU' : vx_Zq Bundle.tN "UNASSIGNED_STACK" Bundle.steD A s' s'.heap := by rw [hhp]; exact vx_Zq.moved hW0.alike (hU.kept hS.2.1)
  have hN' : vx_Zq Bundle.tN "SUPPRESSED_SENTINEL" Bundle.listD A s' s'.heap := by rw [hhp]; exact vx_Zq.moved hW0.alike (hN.kept hS.2.1)
  have h : ∀ w ∈ Bundle.ownAtoms own ic cls names, w.before args s' = true := vx_own hat' (vx_isRefq hU'.1) (vx_isRefq hN'.1) hU'.2.word hN'.2.word
  have hown' : s'.vm.findClass own = some m.cls := by rw [hvm]; exact hown
  have hins : (Cond.instantiable cls 6).before args s' = true := h _ (by simp [Bundle.ownAtoms])
  obtain ⟨vm₁, cX, kX, hfX, hkX, -, -, X₁, st1⟩ := Y.newCold hexec (own := own) (C := cls) (index := ik) (n := 6) hown' hk' hins hini'
    (g := F0 m pc ls rest) rfl (by rw [hb]; exact d0) (Nat.le_refl _) (Nat.le_refl _)
  generalize hT1 : (T.setVm vm₁).pushCell { cls := cX, slots := kX.instanceTypes.map defaultValue, vm := .none } = T1 at X₁ st1
  have hcat : (Value.ref T.heap.size).category = 1 := rfl
  have hcellA : T1.heap[T.heap.size]? = some (freshCell cX kX) := by rw [← hT1]; exact State.heap_pushCell_size _ _
  have d3' : decode c.code (pc + 3) = .ok (.dup, 1) := by rw [hb]; exact d3
  have d4' : decode c.code (pc + 4) = .ok (.ldc_w is, 3) := by rw [hb]; exact d4
  have hstr' : vk_R own is text sa s' := vk_R.warm hW0 hstr
  obtain ⟨U, hsteps, hrun, hend, hW, hsame, ce, hce, hO⟩ := X₁.ctorThrowS hexec htr (own := own) (cls := cls) (names := names) (ic := ic) hown' hcls hnames h (fun x hx => nomatch hx) hfX hkX hcellA (by rw [hhp, hT]; exact Nat.le_refl _) (msg := .ref sa) rfl
    (g := { method := m, pc := pc + 7, locals := ls, stack := .ref sa :: .ref T.heap.size :: .ref T.heap.size :: rest, locked := none }) rfl hsize rfl rfl (rest := rest) rfl
    (by rw [hb]; exact d7) (by rw [hb]; exact d10) hout hRframes (by simp only [List.map_cons, List.sum_cons, hcat]; omega) hlocks
  obtain ⟨f1, f2⟩ := vx_frame hsame
  rw [hhp] at f1 f2
  have hWs : s.WarmedH U.vm := State.WarmedH.trans hW0 hW
  have hcl : s.vm.findClass cls = some ce.cls := by
    have h9 := hO.cls
    rw [hvm] at h9
    exact h9
  have hall : s.sameButNew ({ U with vm := s.vm } : State) locs mc ms := by
    subst hA
    obtain ⟨e1, e2⟩ := hsame
    rw [State.setFrames_setFrames] at e1
    have h2 : (T.setVm s.vm).sameButNew ({ U with vm := s.vm } : State) [] (0 + 1) (0 + 6) := ⟨e1, e2⟩
    have h3 := X.same.trans h2
    rw [List.append_nil] at h3
    exact h3.mono hc hs
  refine ⟨U, ?_, .threw T.heap.size, hrun, hend, Or.inr ⟨T.heap.size, rfl, cls, ce, locs, hx U hWs.alike f1 (fun q hq => f2 q hq (fun z hz => nomatch hz)), hce, hO.vm, hcl, hWs, hall, hf⟩⟩
  refine st1 _ ?_
  show Steps p.tables e below (T1.setTop { method := m, pc := pc + 3, locals := ls, stack := .ref T.heap.size :: rest, locked := none }) _
  jvm_step X₁.here [X₁.here.top, hexec, d3', Value.category]
  exact X₁.ldcStringW hexec (own := own) (text := text) (index := is) (a := sa) hown' hstr'.1 hstr'.2
    (g := { method := m, pc := pc + 4, locals := ls, stack := .ref T.heap.size :: .ref T.heap.size :: rest, locked := none }) rfl d4' _ hsteps
end Ends
section Bodies
variable {l : Launch}
theorem vx_ofW {y : MethodName} {ws ws' : List Cond} {rm : Room} {Pc : Array Value → State → Prop} {Qc : Array Value → State → Outcome → State → Prop} {XC : String → State → State → Prop} {mc ms : Nat} {free : Addr → Prop} {cc : ByteArray} {maxL : Nat} {ret : Option FieldType}
    (hy : plainName y.cls = true) (hw : ws = Cond.code y cc maxL ret :: ws')
    (body : ∀ p e s m args below meth c s₁, BodyLoose p l y (headSpec ws rm) cc maxL ret e s m args below meth c s₁ → c.maxLocals = maxL → (∀ x ∈ c.exceptionTable.toList, False) → Pc args s →
      W p l e (headSpec ws rm).room s m args below meth c s.heap [] 0 0 (vx_MQ below Qc XC args s mc ms free) (entryFrame m args maxL)) : vx_Met l y ws rm Pc Qc XC mc ms free := by
  refine MetFree.of_bodyS (code := cc) (maxLocals := maxL) (ret := ret) hy ?_ ?_
  · intro args s m h hn
    obtain ⟨meth, c, h1, h2, h3, h4, h5, h6, -, -⟩ := Cond.code_spec hn (atoms_spec (ws := ws) h _ (by rw [hw]; exact List.mem_cons_self))
    exact ⟨meth, c, h1, h2, h3, h4, h5, h6⟩
  · intro p e s m args below meth c s₁ B hml hP _
    have hh0 : s₁.heap = s.heap := by rw [B.state]; rfl
    have ht : ∀ x ∈ c.exceptionTable.toList, False := by
      obtain ⟨meth9, c9, h1, h2, -, -, -, -, h7, -⟩ := Cond.code_spec B.named (atoms_spec (ws := ws) B.pre _ (by rw [hw]; exact List.mem_cons_self))
      cases Option.some.inj (h1.symm.trans B.method)
      cases Option.some.inj (h2.symm.trans (Stand.of_body B).code)
      intro x hx
      rw [Array.isEmpty_iff.mp h7] at hx
      cases hx
    obtain ⟨t, a1, o, b1, b2, b3⟩ := body p e s m args below meth c s₁ B hml ht hP s₁ hh0 (Stand.of_body B)
    exact ⟨t, o, a1, b1, b2, b3⟩
/-- the table of a body with handlers -/
theorem vx_table {p : Program} {x y : MethodName} {S : Spec} {cc bytes : ByteArray} {maxL maxL' : Nat} {ret ret' : Option FieldType} {e : Env} {s s₁ : State} {m : MethodId} {args : Array Value} {below : List Frame} {meth : Method} {c : Code} {hh : List (Nat × Nat × Nat × Nat)}
    (B : BodyLoose p l y S cc maxL ret e s m args below meth c s₁) (h : (Cond.codeWith y bytes maxL' ret' hh).before args s = true) : c.exceptionTable.toList = tableOf hh := by
  obtain ⟨m9, meth9, c9, hn9, h1, h2, -, -, h6, -⟩ := Cond.codeWith_spec h
  cases Option.some.inj (hn9.symm.trans B.named)
  cases Option.some.inj (h1.symm.trans B.method)
  cases Option.some.inj (h2.symm.trans (Stand.of_body B).code)
  rw [← h6, table_eq]
end Bodies
end VXA
/-! ===== END ===== -/
/-! ===== BEGIN a static call of a method with an exception table ===== -/
section VXS
variable {p : Program} {l : Launch} {e : Env} {R : Room} {s : State} {m : MethodId} {args : Array Value} {below : List Frame} {meth : Method} {c : Code} {T : State} {H : Heap} {locs : List Loc} {cells slots : Nat}
abbrev vx_CSW (R : Room) (s : State) (args : Array Value) (own : String) (index : Nat) (y : MethodName) (bytes : ByteArray) (maxL : Nat) (ret : Option FieldType) (hh : List (Nat × Nat × Nat × Nat)) (ws : List Cond) (rm : Room) (mc ms n : Nat) : Prop :=
  (rm.cells = mc ∧ rm.slots = ms ∧ rm.frames + 1 ≤ R.frames ∧ 8 + (maxL + 11) + rm.locals ≤ R.locals ∧ (∀ w ∈ ws, ∀ (a' : Array Value) (U : State), s.WarmedH U.vm → w.before a' U = true) ∧ Cond.codeWith y bytes maxL ret hh ∈ ws) ∧
  (Cond.codeWith y bytes maxL ret hh).before args s = true ∧ (Cond.initialized y.cls).before args s = true ∧ (y.cls ≠ "java/lang/invoke/MethodHandle" ∧ y.cls ≠ "java/lang/invoke/VarHandle") ∧
  (∀ sig, parseMethodDescriptor y.desc = some sig → n = sig.parameters.length) ∧ (Cond.methodLink own index y).before args s = true ∧ (Cond.static y).before args s = true
theorem vx_cwSW {own : String} {index maxL mc ms : Nat} {y : MethodName} {bytes : ByteArray} {ret : Option FieldType} {hh : List (Nat × Nat × Nat × Nat)} {Ts ws ws' : List Cond} {rm : Room} (n : Nat) (ht : ∀ w ∈ Ts, w.before args s = true) (hT : GoodIn Ts (va_wsS own index y ws)) (hw : ws = Cond.codeWith y bytes maxL ret hh :: ws') (hrc : rm.cells = mc) (hrs : rm.slots = ms)
    (hd : y.cls ≠ "java/lang/invoke/MethodHandle" ∧ y.cls ≠ "java/lang/invoke/VarHandle" ∧ (parseMethodDescriptor y.desc).map (fun d => d.parameters.length) = some n) (hR : rm.frames + 1 ≤ R.frames ∧ 8 + (maxL + 11) + rm.locals ≤ R.locals) :
    vx_CSW R s args own index y bytes maxL ret hh ws rm mc ms n := by
  have ok : ∀ w ∈ va_wsS own index y ws, w.before args s = true := fun w h => ht w (hT w h).1
  have hG : GoodIn Ts ws := fun w h => hT w (by unfold va_wsS; exact List.mem_append_right _ h)
  have hc : Cond.codeWith y bytes maxL ret hh ∈ ws := by rw [hw]; exact List.mem_cons_self
  refine ⟨⟨hrc, hrs, hR.1, hR.2, pay_in ht hG, hc⟩, ht _ (hG _ hc).1, ok _ (by simp [va_wsS]), ⟨hd.1, hd.2.1⟩, fun sig h => ?_, ok _ (by simp [va_wsS]), ok _ (by simp [va_wsS])⟩
  have h2 := hd.2.2
  rw [h] at h2
  exact (Option.some.inj h2).symm
theorem vx_callSW (X : Stand p l e R s m args below meth c T locs cells slots) (hexec : p.tables.exec = Jvm.exec) {own : String} {index : Nat} {y : MethodName} {bytes : ByteArray} {maxL : Nat} {ret : Option FieldType} {hh : List (Nat × Nat × Nat × Nat)}
    (hown : s.vm.findClass own = some m.cls) (hlink : (Cond.methodLink own index y).before args s = true) (hstat : (Cond.static y).before args s = true) (hinit : (Cond.initialized y.cls).before args s = true)
    (hcode : (Cond.codeWith y bytes maxL ret hh).before args s = true) (hy : y.cls ≠ "java/lang/invoke/MethodHandle" ∧ y.cls ≠ "java/lang/invoke/VarHandle")
    {W9 : Nat} {Pre : Pt → Array Value → Prop} {Post : Pt → Array Value → Option Value → Pt → Prop} (hK : Back l R p e below s args y 3 W9 Pre Post)
    {g : JFrame} (hg : g.method = m) (hsize : g.locals.size = c.maxLocals) {argsL rest : List Value} (hlen : ∀ sig, parseMethodDescriptor y.desc = some sig → argsL.length = sig.parameters.length)
    (hstack : g.stack = argsL.reverse ++ rest) (hW : 2 * g.monitorRoom + (rest.map fun v => v.category).sum ≤ W9) (hdg : decode c.code g.pc = .ok (.invokestatic index, 3))
    (hpre : ∀ vm₁, s.WarmedH vm₁ → Pre ⟨T.setVm vm₁, locs, cells, slots⟩ argsL.toArray) :
    ∃ (v : Option Value) (vm₁ : Vm) (B : Pt), s.WarmedH vm₁ ∧ Stand p l e R s m args below meth c B.U B.locs B.cells B.slots ∧ Post ⟨T.setVm vm₁, locs, cells, slots⟩ argsL.toArray v B ∧
      ∀ target, Steps p.tables e below (B.U.setTop { g with pc := g.pc + 3, stack := v.toList ++ rest }) target → Steps p.tables e below (T.setTop g) target := by
  obtain ⟨mk, methM, cM, hnamed, hmethM, -, -, -, -, -, -, hsigM⟩ := Cond.codeWith_spec hcode
  have hstatic : methM.isStatic = true := Cond.static_spec hnamed hmethM hstat
  obtain ⟨kP, hkP, -⟩ := className_of_methodNamed hnamed
  have hinitP : kP.init = .initialized := Cond.initialized_spec (findClass_of_methodNamed hnamed) hkP hinit
  obtain ⟨vm₁, X₁, hstep₁⟩ := X.invokestatic hexec hown hlink hnamed hmethM hstatic hkP hinitP hy (g := g) hg (argsL := argsL) (rest := rest) (hlen _ hsigM) hstack hdg
  obtain ⟨v, B, X', hpost, hsteps⟩ := hK m meth c ⟨T.setVm vm₁, locs, cells, slots⟩ { g with stack := rest } (.invokestatic index) mk argsL.toArray X₁ hg hsize hdg hW (X₁.named hnamed) (hpre vm₁ X₁.warmed)
  exact ⟨v, vm₁, B, X₁.warmed, X', hpost, fun target h => hstep₁ _ fun acts => by rw [doInvoke_state]; exact hsteps.trans h⟩
theorem vx_runSW {y : MethodName} {bytes cc : ByteArray} {maxL nL mc ms n index : Nat} {ret : Option FieldType} {hh : List (Nat × Nat × Nat × Nat)} {ws : List Cond} {rm : Room} {Pc : Array Value → State → Prop} {Qc : Array Value → State → Outcome → State → Prop} {free : Addr → Prop} {Ts : List Cond} {own : String} {As rest : List Value} {g : JFrame}
    (S : CallFix p m c cc nL s args Ts own) (hM : Met l y ws rm Pc Qc mc ms free) (cw : vx_CSW R s args own index y bytes maxL ret hh ws rm mc ms n) (hp : PreS s H Pc As)
    (hg : g.method = m) (hn : As.length = n) (hsize : g.locals.size = nL) (hstack : g.stack = As.reverse ++ rest) (hW : 2 * g.monitorRoom + (rest.map fun v => v.category).sum ≤ 8) (hdg : decode cc g.pc = .ok (.invokestatic index, 3)) (hf : cells + mc ≤ R.cells ∧ slots + ms ≤ R.slots) :
    va_Run p l e R s m args below meth c H locs cells slots mc ms g rest (Qc As.toArray) (free) := by
  obtain ⟨⟨hrc, hrs, hfr, hlo, hws, hcw⟩, hcode, hini, hy, hlen, hl, hstt⟩ := cw
  have hK : Back l R p e below s args y 3 8 (PreOf R mc ms Pc) (PostOf Qc mc ms free) := va_backW (hh := hh) (bytes := bytes) (maxL := maxL) (ret := ret) hM hp.1 hrc hrs hfr hlo hws hcw (fun a' U hW => word_at hW (Or.inl (by first | rfl | simp [Cond.onTables, Cond.keeps, Cond.steady])) hini)
  obtain ⟨hx, hb, hml, ho, -⟩ := S
  intro T hT X
  obtain ⟨v, vm₁, ⟨U', l2, c2, s2⟩, hW₁, X', ⟨g', mk, t, L, e1, e2, hq, h1, hL, h2, h3⟩, st⟩ := vx_callSW X hx (hh := hh) (bytes := bytes) (maxL := maxL) (ret := ret) ho hl hstt hini hcode hy hK hg (hsize.trans hml.symm) (argsL := As) (rest := rest) (fun sig h => hn.trans (hlen sig h)) hstack hW (by rw [hb]; exact hdg)
    (fun vm₁ hW₁ => ⟨hf.1, hf.2, hp.2 (T.setVm vm₁) hT hW₁⟩)
  dsimp only [Pt.U, Pt.locs, Pt.cells, Pt.slots] at X' e1 e2 h1 h2 h3 st
  subst h1; subst h2; subst h3
  exact ⟨v, (T.setVm vm₁).calling g' mk As.toArray, t, U', L, hT, X', hL, e1, e2, hq, st⟩
/-- not caught here, past rows that name other classes: it goes on to the caller -/
theorem vx_outP {p : Program} {l : Launch} {e : Env} {R : Room} {s : State} {m : MethodId} {args : Array Value} {below : List Frame} {meth : Method} {c : Code} {H : Heap} {locs : List Loc} {cells slots : Nat} {free : Addr → Prop} {ls : Array Slot} {rest : List Value} {Qc : Array Value → State → Outcome → State → Prop} {XC : String → State → State → Prop}
    {pc : Nat} {own E : String} {ce : Cell} {q : Addr} {mc ms : Nat} (hown : s.vm.findClass own = some m.cls) (hlocks : meth.locks = false)
    (hpass : ∀ z ∈ c.exceptionTable.toList, covers z pc = false ∨ (z.catchType ≠ 0 ∧ ∃ nm : String, (Cond.classLink own z.catchType nm).before args s = true ∧ va_Nc E nm s)) (hcell : H[q]? = some ce) (hv : ce.vm = .none) (hcl : s.vm.findClass E = some ce.cls)
    (hx : ∀ t : State, t.heap = H → s.vm.Alike t.vm → XC E s t) (hf : ∀ z ∈ locs, free z.base) (hc : cells ≤ mc) (hs : slots ≤ ms) :
    vx_W p l e R s m args below meth c H locs cells slots (vx_MQ below Qc XC args s mc ms free) (F0 m pc ls rest) q := by
  intro T hT X
  have hpl : e.platform.magicAccessors = ({} : Platform).magicAccessors := by rw [X.admits.platform]
  obtain ⟨vm', hW', X', st⟩ := X.outThrough hlocks q (g := F0 m pc ls rest) rfl rfl rfl (cell := ce) (by rw [hT]; exact hcell) (by rw [hv]; rfl)
    (by obtain ⟨k9, h9, -⟩ := Vm.findClass_spec hcl; exact ⟨k9, h9⟩) (fun z hz => by
      rcases hpass z hz with h | ⟨hz0, nm, hl1, hn1⟩
      · exact Or.inl h
      · obtain ⟨c6, hc6, hcl6⟩ := Cond.classLink_spec hown hl1 e.platform hpl
        obtain ⟨a8, b8, h1, h2, h3⟩ := hn1
        cases Option.some.inj (h1.symm.trans hcl)
        cases Option.some.inj (h2.symm.trans hc6)
        exact Or.inr ⟨hz0, _, hcl6, h3⟩)
  obtain ⟨g₀, hfr⟩ := X'.frames_eq
  have hcell9 : ((T.setVm vm').setFrames (.throwing q :: below)).heap[q]? = some ce := by
    show T.heap[q]? = some ce
    rw [hT]; exact hcell
  have hend : Ended ((T.setVm vm').setFrames (.throwing q :: below)) below (.threw q) := State.frames_setFrames _ (State.cur_lt_of_frames hfr)
  refine ⟨(T.setVm vm').setFrames (.throwing q :: below), ?_, .threw q, X'.here.running, hend, Or.inr ⟨q, rfl, E, ce, locs, hx _ hT (X'.ends _).1.alike, hcell9, hv, hcl, (X'.ends _).1, (X'.ends _).2.mono hc hs, hf⟩⟩
  rw [X.pushThrowing_eq]
  exact st
/-- a thing of a world lies in the heap -/
theorem vx_lt {D : va_G} {cl : List vw_C} {ws : va_W} {H1 : Heap} (h : va_P D cl ws H1) {k : Nat} {q : Nat × va_E} (hk : ws[k]? = some q) : q.1 < H1.size := (h k q hk).lt
end VXS
/-! ===== END ===== -/
/-! ===== BEGIN methods with a table of their own: called by a name, returning or throwing ===== -/
section VXH
/-! vx_backW, vx_callVX, vx_callSX, vx_callVW, vx_runVW, vx_runVX, vx_runSX, vx_ofWH follow the same proofs as their sisters above (Free/Laws.lean, Shelf42/LK1.lean); vx_outP calls Shelf42/NT130.lean (outThrough). -/
section
variable {l : Launch} {R : Room} {p : Program} {e : Env} {below : List Frame} {s : State} {sargs : Array Value} {y : MethodName} {len W9 : Nat}
theorem vx_backW {ws : List Cond} {rm : Room} {Pc : Array Value → State → Prop} {Qc : Array Value → State → Outcome → State → Prop} {XC : String → State → State → Prop} {mc ms : Nat} {free : Addr → Prop} {bytes : ByteArray} {maxL : Nat} {ret : Option FieldType} {hh : List (Nat × Nat × Nat × Nat)}
    (hM : vx_Met l y ws rm Pc Qc XC mc ms free) (hblind : FrameBlind Pc) (hrc : rm.cells = mc) (hrs : rm.slots = ms)
    (hframes : rm.frames + 1 ≤ R.frames) (hlocals : W9 + (maxL + 11) + rm.locals ≤ R.locals)
    (hws : ∀ w ∈ ws, ∀ a' U, s.WarmedH U.vm → w.before a' U = true) (hcode : Cond.codeWith y bytes maxL ret hh ∈ ws) (hinit : ∀ a' U, s.WarmedH U.vm → (Cond.initialized y.cls).before a' U = true) :
    vx_Back l R p e below s sargs y len W9 (PreOf R mc ms Pc) (PostOf Qc mc ms free) (vx_Post XC mc ms free) := by
  intro m meth c A g ig mk a X hg hsize hdg hW hn hp
  have h1 : (headSpec ws rm).pre.before a A.U = true := atoms_intro fun w hw => hws w hw _ _ X.warmed
  have h2 : (Cond.codeWith y bytes maxL ret hh).before a A.U = true := hws _ hcode _ _ X.warmed
  have h3 : (Cond.initialized y.cls).before a A.U = true := hinit _ _ X.warmed
  have h4 : A.cells + (headSpec ws rm).room.cells ≤ R.cells := by rw [show (headSpec ws rm).room.cells = mc from hrc]; exact hp.1
  have h5 : A.slots + (headSpec ws rm).room.slots ≤ R.slots := by rw [show (headSpec ws rm).room.slots = ms from hrs]; exact hp.2.1
  have hPc : Pc a (A.U.calling g mk a) := hblind _ _ _ _ hp.2.2
  obtain ⟨U, Ls, c0, s0⟩ := A
  dsimp only [Pt.U, Pt.locs, Pt.cells, Pt.slots] at h1 h2 h3 h4 h5 X hn hPc ⊢
  obtain ⟨m9, methY, cY, hn9, hmY, hcY, -, hlY, -⟩ := Cond.codeWith_spec h2
  cases Option.some.inj (hn9.symm.trans hn)
  obtain ⟨kY, hkY, -⟩ := className_of_methodNamed hn
  have hinitY : kY.init = .initialized := Cond.initialized_spec (findClass_of_methodNamed hn) hkY h3
  have h : At U g.method c below := by rw [hg]; exact X.here
  have hlocals9 : W9 + (maxL + 11) + (headSpec ws rm).room.locals ≤ R.locals := hlocals
  have happ : (headSpec ws rm).appliesLoose y e.platform (U.calling g mk a) = true :=
    Spec.appliesLoose_calling (g := g) h hdg hn hkY hinitY
      (X.room_calling (g := g) (R' := (headSpec ws rm).room) hsize hmY hcY hframes (by rw [hlY]; omega) h4 h5) h1
  obtain ⟨mid, hmid⟩ := h.above
  have hfr : (U.setTop g).frames = (.java g :: mid) ++ below := by rw [State.frames_setTop' g h.top, hmid]; rfl
  obtain ⟨o, s₂, hsteps, -, hend, hq⟩ := Steps.callFree hM p X.admits X.cas X.clock (acts := []) hfr happ hPc trivial
  have hq' : vx_Q Qc XC mc ms free a (U.calling g mk a) o s₂ := hq
  rw [State.frames_setTop' g h.top] at hend
  obtain ⟨g₀, hg0⟩ := Option.isSome_iff_exists.mp h.top
  obtain ⟨r, hr⟩ := State.topJava?_eq_some.mp hg0
  have hr' : (({ U with heap := s₂.heap, slotsUsed := s₂.slotsUsed } : State).setVm s₂.vm).frames = .java g₀ :: r := hr
  rcases hq' with ⟨hqc, L, hfe, hL⟩ | ⟨q, rfl, E, ce, L, hx, hce, hcv, hcl, hW₂, hsm, hL⟩
  · obtain ⟨⟨v, rfl⟩, hW₂, e2, q2, q3, q4, q5, q6⟩ := id hfe
    have e3 : s₂ = ({ (U.calling g mk a).setFrames s₂.frames with heap := s₂.heap, slotsUsed := s₂.slotsUsed } : State).setVm s₂.vm := by
      have : s₂ = ({ s₂ with vm := (U.calling g mk a).vm } : State).setVm s₂.vm := rfl
      rw [e2] at this
      exact this
    obtain ⟨c₂, i₂, len₂, hc₂, hd₂, hf₂⟩ := hend
    have hW' : U.WarmedH s₂.vm := hW₂
    have hcc : c₂ = c := by
      have h1 : s₂.code? g.method = U.code? g.method := by
        rw [State.code?_eq, State.code?_eq, hW'.alike.method?]
      exact Option.some.inj (hc₂.symm.trans (h1.trans h.code))
    subst hcc
    have hlen : len₂ = len := by rw [hdg] at hd₂; cases hd₂; rfl
    subst hlen
    have hs₂ : s₂ = (({ U with heap := s₂.heap, slotsUsed := s₂.slotsUsed } : State).setVm s₂.vm).setTop { g with pc := g.pc + len₂, stack := v.toList ++ g.stack } := by
      refine e3.trans ?_
      rw [hf₂, State.calling_eq h.top, State.setFrames_setFrames, State.setTop_of_frames _ hr', hr]
      rfl
    have hsame : U.sameButNew ({ U with heap := s₂.heap, slotsUsed := s₂.slotsUsed } : State) L mc ms := by
      refine ⟨?_, q2, q3, q4, q5, q6⟩
      obtain ⟨t, ht, -⟩ := State.frames_cons hr
      show ({ U with heap := s₂.heap, slotsUsed := s₂.slotsUsed } : State) = { U.setFrames U.frames with heap := s₂.heap, slotsUsed := s₂.slotsUsed }
      rw [State.setFrames_self ht]
    subst hg
    refine Or.inl ⟨v, ⟨(({ U with heap := s₂.heap, slotsUsed := s₂.slotsUsed } : State).setVm s₂.vm), Ls ++ L, c0 + mc, s0 + ms⟩,
      ⟨X.admits, X.cas, X.clock, X.frames, X.room, X.hears, X.method, X.code, (X.here.setHeapUsed s₂.heap s₂.slotsUsed).setVm hW'.alike, X.tail, State.WarmedH.trans X.warmed hW', X.limits, X.bytes, X.same.trans (hsame.setVm s.vm)⟩,
      ⟨g, mk, s₂, L, rfl, rfl, hqc, rfl, hL, rfl, rfl⟩, ?_⟩
    show Steps p.tables e below _ ((({ U with heap := s₂.heap, slotsUsed := s₂.slotsUsed } : State).setVm s₂.vm).setTop { g with pc := g.pc + len₂, stack := v.toList ++ g.stack })
    rw [← hs₂]
    exact hsteps
  · obtain ⟨e2, q2, q3, q4, q5, q6⟩ := id hsm
    have e3 : s₂ = ({ (U.calling g mk a).setFrames s₂.frames with heap := s₂.heap, slotsUsed := s₂.slotsUsed } : State).setVm s₂.vm := by
      have : s₂ = ({ s₂ with vm := (U.calling g mk a).vm } : State).setVm s₂.vm := rfl
      rw [e2] at this
      exact this
    have hf₂ : s₂.frames = .throwing q :: .java g :: U.frames.tail := hend
    have hW' : U.WarmedH s₂.vm := hW₂
    have hs₂ : s₂ = ((({ U with heap := s₂.heap, slotsUsed := s₂.slotsUsed } : State).setVm s₂.vm).setTop g).pushFrame (.throwing q) := by
      refine e3.trans ?_
      rw [hf₂, State.calling_eq h.top, State.setFrames_setFrames, State.pushFrame, State.frames_setTop _ hr', State.setTop_of_frames _ hr', State.setFrames_setFrames, hr]
      rfl
    have hsame : U.sameButNew ({ U with heap := s₂.heap, slotsUsed := s₂.slotsUsed } : State) L mc ms := by
      refine ⟨?_, q2, q3, q4, q5, q6⟩
      obtain ⟨t, ht, -⟩ := State.frames_cons hr
      show ({ U with heap := s₂.heap, slotsUsed := s₂.slotsUsed } : State) = { U.setFrames U.frames with heap := s₂.heap, slotsUsed := s₂.slotsUsed }
      rw [State.setFrames_self ht]
    subst hg
    refine Or.inr ⟨q, ⟨(({ U with heap := s₂.heap, slotsUsed := s₂.slotsUsed } : State).setVm s₂.vm), Ls ++ L, c0 + mc, s0 + ms⟩,
      ⟨X.admits, X.cas, X.clock, X.frames, X.room, X.hears, X.method, X.code, (X.here.setHeapUsed s₂.heap s₂.slotsUsed).setVm hW'.alike, X.tail, State.WarmedH.trans X.warmed hW', X.limits, X.bytes, X.same.trans (hsame.setVm s.vm)⟩,
      ⟨g, mk, s₂, L, E, ce, rfl, rfl, hx, hce, hcv, hcl, rfl, hL, rfl, rfl⟩, ?_⟩
    show Steps p.tables e below _ (((({ U with heap := s₂.heap, slotsUsed := s₂.slotsUsed } : State).setVm s₂.vm).setTop g).pushFrame (.throwing q))
    rw [← hs₂]
    exact hsteps
end
variable {p : Program} {l : Launch} {e : Env} {R : Room} {s : State} {m : MethodId} {args : Array Value} {below : List Frame} {meth : Method} {c : Code} {T : State} {H : Heap} {locs : List Loc} {cells slots : Nat}
theorem vx_callVX (X : Stand p l e R s m args below meth c T locs cells slots) (hexec : p.tables.exec = Jvm.exec) {own C : String} {index : Nat} {y : MethodName} {bytes : ByteArray} {maxL : Nat} {ret : Option FieldType} {hh : List (Nat × Nat × Nat × Nat)}
    (hown : s.vm.findClass own = some m.cls) (hlink : (Cond.methodLink own index y).before args s = true) (hinst : (Cond.instanceMethod y).before args s = true) (hsel : (Cond.selects C y y).before args s = true)
    (hcode : (Cond.codeWith y bytes maxL ret hh).before args s = true) (hy : y.cls ≠ "java/lang/invoke/MethodHandle" ∧ y.cls ≠ "java/lang/invoke/VarHandle")
    {W9 : Nat} {Pre : Pt → Array Value → Prop} {Post : Pt → Array Value → Option Value → Pt → Prop} {PostX : Pt → Array Value → Addr → Pt → Prop} (hK : vx_Back l R p e below s args y 3 W9 Pre Post PostX)
    {b : Addr} {cellB : Cell} (hcell : T.heap[b]? = some cellB) (hobj : cellB.vm.isStatics = false) (hcls : s.vm.findClass C = some cellB.cls)
    {g : JFrame} (hg : g.method = m) (hsize : g.locals.size = c.maxLocals) {argsL rest : List Value} (hlen : ∀ sig, parseMethodDescriptor y.desc = some sig → argsL.length = sig.parameters.length)
    (hstack : g.stack = argsL.reverse ++ .ref b :: rest) (hW : 2 * g.monitorRoom + (rest.map fun v => v.category).sum ≤ W9) (hdg : decode c.code g.pc = .ok (.invokevirtual index, 3))
    (hpre : ∀ vm₁, s.WarmedH vm₁ → Pre ⟨T.setVm vm₁, locs, cells, slots⟩ (Value.ref b :: argsL).toArray) :
    (∃ (v : Option Value) (vm₁ : Vm) (B : Pt), s.WarmedH vm₁ ∧ Stand p l e R s m args below meth c B.U B.locs B.cells B.slots ∧ Post ⟨T.setVm vm₁, locs, cells, slots⟩ (Value.ref b :: argsL).toArray v B ∧
      ∀ target, Steps p.tables e below (B.U.setTop { g with pc := g.pc + 3, stack := v.toList ++ rest }) target → Steps p.tables e below (T.setTop g) target) ∨
    (∃ (q : Addr) (vm₁ : Vm) (B : Pt), s.WarmedH vm₁ ∧ Stand p l e R s m args below meth c B.U B.locs B.cells B.slots ∧ PostX ⟨T.setVm vm₁, locs, cells, slots⟩ (Value.ref b :: argsL).toArray q B ∧
      Steps p.tables e below (T.setTop g) ((B.U.setTop { g with stack := rest }).pushFrame (.throwing q))) := by
  obtain ⟨mk, methM, hnamed, hmethM, hstM, habM⟩ := Cond.instanceMethod_spec hinst
  obtain ⟨m8, methM', cM, hn8, hmethM', -, -, -, -, -, -, hsigM⟩ := Cond.codeWith_spec hcode
  cases Option.some.inj (hn8.symm.trans hnamed)
  cases hmethM.symm.trans hmethM'
  obtain ⟨c2, r2, m2, q1, q2, q3, q4, kP, hkP, hkPi⟩ := Cond.selects_spec hsel
  cases hcls.symm.trans q1
  cases (State.methodFound?_of_named hnamed hy).symm.trans q2
  cases hnamed.symm.trans q3
  have hselP : selectMethod e.platform s.vm cellB.cls mk = .method mk := by rw [Launch.admits_selectMethod X.admits]; exact q4
  obtain ⟨vm₁, X₁, hstep₁⟩ := X.invokevirtual hexec hown hlink hnamed hmethM hstM hkP hkPi hy (a := b) (cell := cellB) hcell
    (fun z h => by rw [h] at hobj; cases hobj) hselP hmethM habM hkP hkPi (g := g) hg (argsL := argsL) (rest := rest) (hlen _ hsigM) hstack hdg
  rcases hK m meth c ⟨T.setVm vm₁, locs, cells, slots⟩ { g with stack := rest } (.invokevirtual index) mk (Value.ref b :: argsL).toArray X₁ hg hsize hdg hW (X₁.named hnamed) (hpre vm₁ X₁.warmed) with ⟨v, B, X', hpost, hsteps⟩ | ⟨q, B, X', hpost, hsteps⟩
  · exact Or.inl ⟨v, vm₁, B, X₁.warmed, X', hpost, fun target h => hstep₁ _ fun acts => by rw [doInvoke_state]; exact hsteps.trans h⟩
  · exact Or.inr ⟨q, vm₁, B, X₁.warmed, X', hpost, hstep₁ _ fun acts => by rw [doInvoke_state]; exact hsteps⟩
theorem vx_callSX (X : Stand p l e R s m args below meth c T locs cells slots) (hexec : p.tables.exec = Jvm.exec) {own : String} {index : Nat} {y : MethodName} {bytes : ByteArray} {maxL : Nat} {ret : Option FieldType} {hh : List (Nat × Nat × Nat × Nat)}
    (hown : s.vm.findClass own = some m.cls) (hlink : (Cond.methodLink own index y).before args s = true) (hstat : (Cond.static y).before args s = true) (hinit : (Cond.initialized y.cls).before args s = true)
    (hcode : (Cond.codeWith y bytes maxL ret hh).before args s = true) (hy : y.cls ≠ "java/lang/invoke/MethodHandle" ∧ y.cls ≠ "java/lang/invoke/VarHandle")
    {W9 : Nat} {Pre : Pt → Array Value → Prop} {Post : Pt → Array Value → Option Value → Pt → Prop} {PostX : Pt → Array Value → Addr → Pt → Prop} (hK : vx_Back l R p e below s args y 3 W9 Pre Post PostX)
    {g : JFrame} (hg : g.method = m) (hsize : g.locals.size = c.maxLocals) {argsL rest : List Value} (hlen : ∀ sig, parseMethodDescriptor y.desc = some sig → argsL.length = sig.parameters.length)
    (hstack : g.stack = argsL.reverse ++ rest) (hW : 2 * g.monitorRoom + (rest.map fun v => v.category).sum ≤ W9) (hdg : decode c.code g.pc = .ok (.invokestatic index, 3))
    (hpre : ∀ vm₁, s.WarmedH vm₁ → Pre ⟨T.setVm vm₁, locs, cells, slots⟩ argsL.toArray) :
    (∃ (v : Option Value) (vm₁ : Vm) (B : Pt), s.WarmedH vm₁ ∧ Stand p l e R s m args below meth c B.U B.locs B.cells B.slots ∧ Post ⟨T.setVm vm₁, locs, cells, slots⟩ argsL.toArray v B ∧
      ∀ target, Steps p.tables e below (B.U.setTop { g with pc := g.pc + 3, stack := v.toList ++ rest }) target → Steps p.tables e below (T.setTop g) target) ∨
    (∃ (q : Addr) (vm₁ : Vm) (B : Pt), s.WarmedH vm₁ ∧ Stand p l e R s m args below meth c B.U B.locs B.cells B.slots ∧ PostX ⟨T.setVm vm₁, locs, cells, slots⟩ argsL.toArray q B ∧
      Steps p.tables e below (T.setTop g) ((B.U.setTop { g with stack := rest }).pushFrame (.throwing q))) := by
  obtain ⟨mk, methM, cM, hnamed, hmethM, -, -, -, -, -, -, hsigM⟩ := Cond.codeWith_spec hcode
  have hstatic : methM.isStatic = true := Cond.static_spec hnamed hmethM hstat
  obtain ⟨kP, hkP, -⟩ := className_of_methodNamed hnamed
  have hinitP : kP.init = .initialized := Cond.initialized_spec (findClass_of_methodNamed hnamed) hkP hinit
  obtain ⟨vm₁, X₁, hstep₁⟩ := X.invokestatic hexec hown hlink hnamed hmethM hstatic hkP hinitP hy (g := g) hg (argsL := argsL) (rest := rest) (hlen _ hsigM) hstack hdg
  rcases hK m meth c ⟨T.setVm vm₁, locs, cells, slots⟩ { g with stack := rest } (.invokestatic index) mk argsL.toArray X₁ hg hsize hdg hW (X₁.named hnamed) (hpre vm₁ X₁.warmed) with ⟨v, B, X', hpost, hsteps⟩ | ⟨q, B, X', hpost, hsteps⟩
  · exact Or.inl ⟨v, vm₁, B, X₁.warmed, X', hpost, fun target h => hstep₁ _ fun acts => by rw [doInvoke_state]; exact hsteps.trans h⟩
  · exact Or.inr ⟨q, vm₁, B, X₁.warmed, X', hpost, hstep₁ _ fun acts => by rw [doInvoke_state]; exact hsteps⟩
theorem vx_callVW (X : Stand p l e R s m args below meth c T locs cells slots) (hexec : p.tables.exec = Jvm.exec) {own C : String} {index : Nat} {y : MethodName} {bytes : ByteArray} {maxL : Nat} {ret : Option FieldType} {hh : List (Nat × Nat × Nat × Nat)}
    (hown : s.vm.findClass own = some m.cls) (hlink : (Cond.methodLink own index y).before args s = true) (hinst : (Cond.instanceMethod y).before args s = true) (hsel : (Cond.selects C y y).before args s = true)
    (hcode : (Cond.codeWith y bytes maxL ret hh).before args s = true) (hy : y.cls ≠ "java/lang/invoke/MethodHandle" ∧ y.cls ≠ "java/lang/invoke/VarHandle")
    {W9 : Nat} {Pre : Pt → Array Value → Prop} {Post : Pt → Array Value → Option Value → Pt → Prop} (hK : Back l R p e below s args y 3 W9 Pre Post)
    {b : Addr} {cellB : Cell} (hcell : T.heap[b]? = some cellB) (hobj : cellB.vm.isStatics = false) (hcls : s.vm.findClass C = some cellB.cls)
    {g : JFrame} (hg : g.method = m) (hsize : g.locals.size = c.maxLocals) {argsL rest : List Value} (hlen : ∀ sig, parseMethodDescriptor y.desc = some sig → argsL.length = sig.parameters.length)
    (hstack : g.stack = argsL.reverse ++ .ref b :: rest) (hW : 2 * g.monitorRoom + (rest.map fun v => v.category).sum ≤ W9) (hdg : decode c.code g.pc = .ok (.invokevirtual index, 3))
    (hpre : ∀ vm₁, s.WarmedH vm₁ → Pre ⟨T.setVm vm₁, locs, cells, slots⟩ (Value.ref b :: argsL).toArray) :
    ∃ (v : Option Value) (vm₁ : Vm) (B : Pt), s.WarmedH vm₁ ∧ Stand p l e R s m args below meth c B.U B.locs B.cells B.slots ∧ Post ⟨T.setVm vm₁, locs, cells, slots⟩ (Value.ref b :: argsL).toArray v B ∧
      ∀ target, Steps p.tables e below (B.U.setTop { g with pc := g.pc + 3, stack := v.toList ++ rest }) target → Steps p.tables e below (T.setTop g) target := by
  obtain ⟨mk, methM, hnamed, hmethM, hstM, habM⟩ := Cond.instanceMethod_spec hinst
  obtain ⟨m8, methM', cM, hn8, hmethM', -, -, -, -, -, -, hsigM⟩ := Cond.codeWith_spec hcode
  cases Option.some.inj (hn8.symm.trans hnamed)
  cases hmethM.symm.trans hmethM'
  obtain ⟨c2, r2, m2, q1, q2, q3, q4, kP, hkP, hkPi⟩ := Cond.selects_spec hsel
  cases hcls.symm.trans q1
  cases (State.methodFound?_of_named hnamed hy).symm.trans q2
  cases hnamed.symm.trans q3
  have hselP : selectMethod e.platform s.vm cellB.cls mk = .method mk := by rw [Launch.admits_selectMethod X.admits]; exact q4
  obtain ⟨vm₁, X₁, hstep₁⟩ := X.invokevirtual hexec hown hlink hnamed hmethM hstM hkP hkPi hy (a := b) (cell := cellB) hcell
    (fun z h => by rw [h] at hobj; cases hobj) hselP hmethM habM hkP hkPi (g := g) hg (argsL := argsL) (rest := rest) (hlen _ hsigM) hstack hdg
  obtain ⟨v, B, X', hpost, hsteps⟩ := hK m meth c ⟨T.setVm vm₁, locs, cells, slots⟩ { g with stack := rest } (.invokevirtual index) mk (Value.ref b :: argsL).toArray X₁ hg hsize hdg hW (X₁.named hnamed) (hpre vm₁ X₁.warmed)
  exact ⟨v, vm₁, B, X₁.warmed, X', hpost, fun target h => hstep₁ _ fun acts => by rw [doInvoke_state]; exact hsteps.trans h⟩
abbrev vx_CVW (R : Room) (s : State) (args : Array Value) (own C : String) (index : Nat) (y : MethodName) (bytes : ByteArray) (maxL : Nat) (ret : Option FieldType) (hh : List (Nat × Nat × Nat × Nat)) (ws : List Cond) (rm : Room) (mc ms n : Nat) : Prop :=
  (rm.cells = mc ∧ rm.slots = ms ∧ rm.frames + 1 ≤ R.frames ∧ 8 + (maxL + 11) + rm.locals ≤ R.locals ∧ (∀ w ∈ ws, ∀ (a' : Array Value) (U : State), s.WarmedH U.vm → w.before a' U = true) ∧ Cond.codeWith y bytes maxL ret hh ∈ ws) ∧
  (Cond.codeWith y bytes maxL ret hh).before args s = true ∧ (Cond.initialized y.cls).before args s = true ∧ (y.cls ≠ "java/lang/invoke/MethodHandle" ∧ y.cls ≠ "java/lang/invoke/VarHandle") ∧
  (∀ sig, parseMethodDescriptor y.desc = some sig → n = sig.parameters.length) ∧ (Cond.methodLink own index y).before args s = true ∧ (Cond.instanceMethod y).before args s = true ∧ (Cond.selects C y y).before args s = true
theorem vx_cwVW {own C : String} {index maxL mc ms : Nat} {y : MethodName} {bytes : ByteArray} {ret : Option FieldType} {hh : List (Nat × Nat × Nat × Nat)} {Ts ws ws' : List Cond} {rm : Room} (n : Nat) (ht : ∀ w ∈ Ts, w.before args s = true) (hT : GoodIn Ts (wsV own index C y ws)) (hw : ws = Cond.codeWith y bytes maxL ret hh :: ws') (hrc : rm.cells = mc) (hrs : rm.slots = ms)
    (hd : y.cls = C ∧ y.cls ≠ "java/lang/invoke/MethodHandle" ∧ y.cls ≠ "java/lang/invoke/VarHandle" ∧ (parseMethodDescriptor y.desc).map (fun d => d.parameters.length) = some n) (hR : rm.frames + 1 ≤ R.frames ∧ 8 + (maxL + 11) + rm.locals ≤ R.locals) :
    vx_CVW R s args own C index y bytes maxL ret hh ws rm mc ms n := by
  obtain ⟨hC, hd⟩ := hd
  subst hC
  have ok : ∀ w ∈ wsV own index y.cls y ws, w.before args s = true := fun w h => ht w (hT w h).1
  have hG : GoodIn Ts ws := fun w h => hT w (by unfold wsV; exact List.mem_append_right _ h)
  have hc : Cond.codeWith y bytes maxL ret hh ∈ ws := by rw [hw]; exact List.mem_cons_self
  refine ⟨⟨hrc, hrs, hR.1, hR.2, pay_in ht hG, hc⟩, ht _ (hG _ hc).1, ok _ (by simp [wsV]), ⟨hd.1, hd.2.1⟩, fun sig h => ?_, ok _ (by simp [wsV]), ok _ (by simp [wsV]), ok _ (by simp [wsV])⟩
  have h2 := hd.2.2
  rw [h] at h2
  exact (Option.some.inj h2).symm
theorem vx_runVW {y : MethodName} {bytes cc : ByteArray} {maxL nL mc ms n index : Nat} {ret : Option FieldType} {hh : List (Nat × Nat × Nat × Nat)} {ws : List Cond} {rm : Room} {Pc : Array Value → State → Prop} {Qc : Array Value → State → Outcome → State → Prop} {free : Addr → Prop} {Ts : List Cond} {own C : String} {b : Addr} {As rest : List Value} {g : JFrame}
    (S : CallFix p m c cc nL s args Ts own) (hM : Met l y ws rm Pc Qc mc ms free) (cw : vx_CVW R s args own C index y bytes maxL ret hh ws rm mc ms n) (hp : PreV s H C b Pc As)
    (hg : g.method = m) (hn : As.length = n) (hsize : g.locals.size = nL) (hstack : g.stack = As.reverse ++ .ref b :: rest) (hW : 2 * g.monitorRoom + (rest.map fun v => v.category).sum ≤ 8) (hdg : decode cc g.pc = .ok (.invokevirtual index, 3)) (hf : cells + mc ≤ R.cells ∧ slots + ms ≤ R.slots) :
    va_Run p l e R s m args below meth c H locs cells slots mc ms g rest (Qc (Value.ref b :: As).toArray) free := by
  obtain ⟨⟨hrc, hrs, hfr, hlo, hws, hcw⟩, hcode, hini, hy, hlen, hl, hin, hse⟩ := cw
  have hK : Back l R p e below s args y 3 8 (PreOf R mc ms Pc) (PostOf Qc mc ms free) := va_backW (hh := hh) (bytes := bytes) (maxL := maxL) (ret := ret) hM hp.1 hrc hrs hfr hlo hws hcw (fun a' U hW => word_at hW (Or.inl (by first | rfl | simp [Cond.onTables, Cond.keeps, Cond.steady])) hini)
  obtain ⟨hx, hb, hml, ho, -⟩ := S
  obtain ⟨-, ⟨cellB, hcB, hoB, hclB⟩, hPc⟩ := hp
  intro T hT X
  obtain ⟨v, vm₁, ⟨U', l2, c2, s2⟩, hW₁, X', ⟨g', mk, t, L, e1, e2, hq, h1, hL, h2, h3⟩, st⟩ := vx_callVW X hx (C := C) (hh := hh) (bytes := bytes) (maxL := maxL) (ret := ret) ho hl hin hse hcode hy hK (by rw [hT]; exact hcB) hoB hclB hg (hsize.trans hml.symm) (argsL := As) (rest := rest) (fun sig h => hn.trans (hlen sig h)) hstack hW (by rw [hb]; exact hdg)
    (fun vm₁ hW₁ => ⟨hf.1, hf.2, hPc (T.setVm vm₁) hT hW₁⟩)
  dsimp only [Pt.U, Pt.locs, Pt.cells, Pt.slots] at X' e1 e2 h1 h2 h3 st
  subst h1; subst h2; subst h3
  exact ⟨v, (T.setVm vm₁).calling g' mk (Value.ref b :: As).toArray, t, U', L, hT, X', hL, e1, e2, hq, st⟩
section
variable {y : MethodName} {bytes cc : ByteArray} {maxL nL mc ms n index : Nat} {ret : Option FieldType} {ws : List Cond} {rm : Room} {Pc : Array Value → State → Prop} {Qc : Array Value → State → Outcome → State → Prop} {XC : String → State → State → Prop} {free : Addr → Prop} {Ts : List Cond} {own C : String} {b : Addr} {As rest : List Value} {g : JFrame}
theorem vx_runVX {hh : List (Nat × Nat × Nat × Nat)} (S : CallFix p m c cc nL s args Ts own) (hM : vx_Met l y ws rm Pc Qc XC mc ms free) (cw : vx_CVW R s args own C index y bytes maxL ret hh ws rm mc ms n) (hp : PreV s H C b Pc As)
    (hg : g.method = m) (hn : As.length = n) (hsize : g.locals.size = nL) (hstack : g.stack = As.reverse ++ .ref b :: rest) (hW : 2 * g.monitorRoom + (rest.map fun v => v.category).sum ≤ 8) (hdg : decode cc g.pc = .ok (.invokevirtual index, 3)) (hf : cells + mc ≤ R.cells ∧ slots + ms ≤ R.slots) :
    vx_Run p l e R s m args below meth c H locs cells slots mc ms g rest (Qc (Value.ref b :: As).toArray) XC free := by
  obtain ⟨⟨hrc, hrs, hfr, hlo, hws, hcw⟩, hcode, hini, hy, hlen, hl, hin, hse⟩ := cw
  have hK : vx_Back l R p e below s args y 3 8 (PreOf R mc ms Pc) (PostOf Qc mc ms free) (vx_Post XC mc ms free) := vx_backW (hh := hh) (bytes := bytes) (maxL := maxL) (ret := ret) hM hp.1 hrc hrs hfr hlo hws hcw (fun a' U hW => word_at hW (Or.inl (by first | rfl | simp [Cond.onTables, Cond.keeps, Cond.steady])) hini)
  obtain ⟨hx, hb, hml, ho, -⟩ := S
  obtain ⟨-, ⟨cellB, hcB, hoB, hclB⟩, hPc⟩ := hp
  intro T hT X
  rcases vx_callVX X hx (C := C) (hh := hh) (bytes := bytes) (maxL := maxL) (ret := ret) ho hl hin hse hcode hy hK (by rw [hT]; exact hcB) hoB hclB hg (hsize.trans hml.symm) (argsL := As) (rest := rest) (fun sig h => hn.trans (hlen sig h)) hstack hW (by rw [hb]; exact hdg)
    (fun vm₁ hW₁ => ⟨hf.1, hf.2, hPc (T.setVm vm₁) hT hW₁⟩) with ⟨v, vm₁, ⟨U', l2, c2, s2⟩, hW₁, X', ⟨g', mk, t, L, e1, e2, hq, h1, hL, h2, h3⟩, st⟩ | ⟨q, vm₁, ⟨U', l2, c2, s2⟩, hW₁, X', ⟨g', mk, t, L, E, ce, e1, e2, hq, hce, hcv, hcl, h1, hL, h2, h3⟩, st⟩
  · dsimp only [Pt.U, Pt.locs, Pt.cells, Pt.slots] at X' e1 e2 h1 h2 h3 st
    subst h1; subst h2; subst h3
    exact Or.inl ⟨v, (T.setVm vm₁).calling g' mk (Value.ref b :: As).toArray, t, U', L, hT, X', hL, e1, e2, hq, st⟩
  · dsimp only [Pt.U, Pt.locs, Pt.cells, Pt.slots] at X' e1 e2 h1 h2 h3 st hcl
    subst h1; subst h2; subst h3
    exact Or.inr ⟨q, (T.setVm vm₁).calling g' mk (Value.ref b :: As).toArray, t, U', L, E, ce, hT, X', hL, e1, e2, hq, hce, hcv, vx_cls hW₁ hcl, st⟩
theorem vx_runSX {hh : List (Nat × Nat × Nat × Nat)} (S : CallFix p m c cc nL s args Ts own) (hM : vx_Met l y ws rm Pc Qc XC mc ms free) (cw : vx_CSW R s args own index y bytes maxL ret hh ws rm mc ms n) (hp : PreS s H Pc As)
    (hg : g.method = m) (hn : As.length = n) (hsize : g.locals.size = nL) (hstack : g.stack = As.reverse ++ rest) (hW : 2 * g.monitorRoom + (rest.map fun v => v.category).sum ≤ 8) (hdg : decode cc g.pc = .ok (.invokestatic index, 3)) (hf : cells + mc ≤ R.cells ∧ slots + ms ≤ R.slots) :
    vx_Run p l e R s m args below meth c H locs cells slots mc ms g rest (Qc As.toArray) XC free := by
  obtain ⟨⟨hrc, hrs, hfr, hlo, hws, hcw⟩, hcode, hini, hy, hlen, hl, hstt⟩ := cw
  have hK : vx_Back l R p e below s args y 3 8 (PreOf R mc ms Pc) (PostOf Qc mc ms free) (vx_Post XC mc ms free) := vx_backW (hh := hh) (bytes := bytes) (maxL := maxL) (ret := ret) hM hp.1 hrc hrs hfr hlo hws hcw (fun a' U hW => word_at hW (Or.inl (by first | rfl | simp [Cond.onTables, Cond.keeps, Cond.steady])) hini)
  obtain ⟨hx, hb, hml, ho, -⟩ := S
  intro T hT X
  rcases vx_callSX X hx (hh := hh) (bytes := bytes) (maxL := maxL) (ret := ret) ho hl hstt hini hcode hy hK hg (hsize.trans hml.symm) (argsL := As) (rest := rest) (fun sig h => hn.trans (hlen sig h)) hstack hW (by rw [hb]; exact hdg)
    (fun vm₁ hW₁ => ⟨hf.1, hf.2, hp.2 (T.setVm vm₁) hT hW₁⟩) with ⟨v, vm₁, ⟨U', l2, c2, s2⟩, hW₁, X', ⟨g', mk, t, L, e1, e2, hq, h1, hL, h2, h3⟩, st⟩ | ⟨q, vm₁, ⟨U', l2, c2, s2⟩, hW₁, X', ⟨g', mk, t, L, E, ce, e1, e2, hq, hce, hcv, hcl, h1, hL, h2, h3⟩, st⟩
  · dsimp only [Pt.U, Pt.locs, Pt.cells, Pt.slots] at X' e1 e2 h1 h2 h3 st
    subst h1; subst h2; subst h3
    exact Or.inl ⟨v, (T.setVm vm₁).calling g' mk As.toArray, t, U', L, hT, X', hL, e1, e2, hq, st⟩
  · dsimp only [Pt.U, Pt.locs, Pt.cells, Pt.slots] at X' e1 e2 h1 h2 h3 st hcl
    subst h1; subst h2; subst h3
    exact Or.inr ⟨q, (T.setVm vm₁).calling g' mk As.toArray, t, U', L, E, ce, hT, X', hL, e1, e2, hq, hce, hcv, vx_cls hW₁ hcl, st⟩
end
end VXH
theorem vx_ofWH {l : Launch} {y : MethodName} {ws ws' : List Cond} {rm : Room} {Pc : Array Value → State → Prop} {Qc : Array Value → State → Outcome → State → Prop} {XC : String → State → State → Prop} {mc ms : Nat} {free : Addr → Prop} {cc : ByteArray} {maxL : Nat} {ret : Option FieldType} {hh : List (Nat × Nat × Nat × Nat)}
    (hy : plainName y.cls = true) (hw : ws = Cond.codeWith y cc maxL ret hh :: ws')
    (body : ∀ p e s m args below meth c s₁, BodyLoose p l y (headSpec ws rm) cc maxL ret e s m args below meth c s₁ → c.maxLocals = maxL → Pc args s →
      W p l e (headSpec ws rm).room s m args below meth c s.heap [] 0 0 (vx_MQ below Qc XC args s mc ms free) (entryFrame m args maxL)) : vx_Met l y ws rm Pc Qc XC mc ms free := by
  refine MetFree.of_bodyS (code := cc) (maxLocals := maxL) (ret := ret) hy ?_ ?_
  · intro args s m h hn
    obtain ⟨m9, meth, c, hn9, h1, h2, h3, h4, -, h5, h6, -⟩ := Cond.codeWith_spec (atoms_spec (ws := ws) h _ (by rw [hw]; exact List.mem_cons_self))
    cases hn.symm.trans hn9
    exact ⟨meth, c, h1, h2, h3, h4, h5, h6⟩
  · intro p e s m args below meth c s₁ B hml hP _
    have hh0 : s₁.heap = s.heap := by rw [B.state]; rfl
    obtain ⟨t, a1, o, b1, b2, b3⟩ := body p e s m args below meth c s₁ B hml hP s₁ hh0 (Stand.of_body B)
    exact ⟨t, o, a1, b1, b2, b3⟩
/-! ===== END ===== -/
end
section
/-- a word that stays true when the tables get warmer -/
def kw_G (w : Cond) : Bool := goodWord w || (w.onTables && w.keepsFace)
theorem kw_at {args a2 : Array Value} {s U : State} (hW : s.WarmedH U.vm) {w : Cond} (hg : kw_G w = true) (h : w.before args s = true) : w.before a2 U = true := by
  unfold kw_G at hg
  rw [Bool.or_eq_true] at hg
  rcases hg with hg | hg
  · exact word_at hW (good_of_word hg) h
  · rw [Bool.and_eq_true] at hg
    have h1 : w.before args (s.setVm U.vm) = true := Cond.before_shiftedFace (State.Shifted.of_warmed hW) w hg.2 h
    have h2 := Cond.onTables_vm (A := args) (A' := a2) (U := s) (U' := U) U.vm w hg.1
    rw [h2, State.setVm_self] at h1
    exact h1
/-- all words that the walks use -/
def kw_L : List Cond := lw_tbl.filter kw_G
theorem kw_in {w : Cond} (i : Nat) (h : tables_1[i]? = some w) (g : kw_G w = true) : w ∈ kw_L := List.mem_filter.mpr ⟨List.mem_append_right _ (List.mem_of_getElem? h), g⟩
theorem kw_pr {w : Cond} (h : w ∈ k2_sels lw_privs) (g : kw_G w = true) : w ∈ kw_L := List.mem_filter.mpr ⟨List.mem_append_left _ h, g⟩
theorem kw_ok {w : Cond} (h : w ∈ kw_L) : kw_G w = true := (List.mem_filter.mp h).2
theorem kw_hts {args : Array Value} {s : State} (h : ∀ w ∈ lw_tbl, w.before args s = true) : ∀ w ∈ kw_L, w.before args s = true := fun w hw => h w (List.mem_filter.mp hw).1

def T_PR : u_T := fun k => match k with
  | 0 => ("ProfileRights", "groups", "Ljava/util/ArrayList;", true)
  | 1 => ("ProfileRights", "users", "Ljava/util/ArrayList;", true)
  | 2 => ("ProfileRights", "profiles", "Ljava/util/ArrayList;", true)
  | 3 => ("ProfileRights", "modes", "[I", true)
  | 4 => ("ProfileRights", "asked", "LProfileRights$Name;", true)
  | 5 => ("ProfileRights", "trail", "LProfileRights$Trail;", true)
  | _ => ("ProfileRights", "latestProfile", "I", false)
def t_PR : Nat → FieldType := fun k => match k with
  | 0 => .object "java/util/ArrayList"
  | 1 => .object "java/util/ArrayList"
  | 2 => .object "java/util/ArrayList"
  | 3 => .array .int
  | 4 => .object "ProfileRights$Name"
  | 5 => .object "ProfileRights$Trail"
  | _ => .int
theorem n_PR : ∀ a, a < 7 → ∀ b, b < 7 → a ≠ b → (T_PR a).2.1 ≠ (T_PR b).2.1 := by decide +kernel
theorem o_PR : ∀ k, k < 7 → parseFieldDescriptor (T_PR k).2.2.1 = some (t_PR k) := by decide +kernel
theorem i_PR_0 : u_lay "ProfileRights" T_PR 0 ∈ kw_L := kw_in 102 (by decide +kernel) (by decide +kernel)
theorem i_PR_1 : u_lay "ProfileRights" T_PR 1 ∈ kw_L := kw_in 104 (by decide +kernel) (by decide +kernel)
theorem i_PR_2 : u_lay "ProfileRights" T_PR 2 ∈ kw_L := kw_in 106 (by decide +kernel) (by decide +kernel)
theorem i_PR_3 : u_lay "ProfileRights" T_PR 3 ∈ kw_L := kw_in 108 (by decide +kernel) (by decide +kernel)
theorem i_PR_4 : u_lay "ProfileRights" T_PR 4 ∈ kw_L := kw_in 110 (by decide +kernel) (by decide +kernel)
theorem i_PR_5 : u_lay "ProfileRights" T_PR 5 ∈ kw_L := kw_in 112 (by decide +kernel) (by decide +kernel)
theorem i_PR_6 : u_lay "ProfileRights" T_PR 6 ∈ kw_L := kw_in 114 (by decide +kernel) (by decide +kernel)
theorem i_PR : ∀ w ∈ u_ws "ProfileRights" T_PR 7, w ∈ kw_L := by
  intro w hw
  have h1 : w ∈ [u_lay "ProfileRights" T_PR 0, u_lay "ProfileRights" T_PR 1, u_lay "ProfileRights" T_PR 2, u_lay "ProfileRights" T_PR 3, u_lay "ProfileRights" T_PR 4, u_lay "ProfileRights" T_PR 5, u_lay "ProfileRights" T_PR 6] := hw
  simp only [List.mem_cons, List.not_mem_nil, or_false] at h1
  rcases h1 with h1 | h1 | h1 | h1 | h1 | h1 | h1
  · rw [h1]; exact i_PR_0
  · rw [h1]; exact i_PR_1
  · rw [h1]; exact i_PR_2
  · rw [h1]; exact i_PR_3
  · rw [h1]; exact i_PR_4
  · rw [h1]; exact i_PR_5
  · rw [h1]; exact i_PR_6
def T_GR : u_T := fun k => match k with
  | 0 => ("ProfileRights$Group", "number", "I", true)
  | _ => ("ProfileRights$Group", "upper", "LProfileRights$Group;", false)
def t_GR : Nat → FieldType := fun k => match k with
  | 0 => .int
  | _ => .object "ProfileRights$Group"
theorem n_GR : ∀ a, a < 2 → ∀ b, b < 2 → a ≠ b → (T_GR a).2.1 ≠ (T_GR b).2.1 := by decide +kernel
theorem o_GR : ∀ k, k < 2 → parseFieldDescriptor (T_GR k).2.2.1 = some (t_GR k) := by decide +kernel
theorem i_GR_0 : u_lay "ProfileRights$Group" T_GR 0 ∈ kw_L := kw_in 295 (by decide +kernel) (by decide +kernel)
theorem i_GR_1 : u_lay "ProfileRights$Group" T_GR 1 ∈ kw_L := kw_in 297 (by decide +kernel) (by decide +kernel)
theorem i_GR : ∀ w ∈ u_ws "ProfileRights$Group" T_GR 2, w ∈ kw_L := by
  intro w hw
  have h1 : w ∈ [u_lay "ProfileRights$Group" T_GR 0, u_lay "ProfileRights$Group" T_GR 1] := hw
  simp only [List.mem_cons, List.not_mem_nil, or_false] at h1
  rcases h1 with h1 | h1
  · rw [h1]; exact i_GR_0
  · rw [h1]; exact i_GR_1
def T_US : u_T := fun k => match k with
  | 0 => ("ProfileRights$User", "number", "I", true)
  | 1 => ("ProfileRights$User", "home", "LProfileRights$Group;", true)
  | 2 => ("ProfileRights$User", "place", "I", false)
  | 3 => ("ProfileRights$User", "tries", "I", false)
  | 4 => ("ProfileRights$User", "revoked", "Z", false)
  | _ => ("ProfileRights$User", "stoodFor", "J", false)
def t_US : Nat → FieldType := fun k => match k with
  | 0 => .int
  | 1 => .object "ProfileRights$Group"
  | 2 => .int
  | 3 => .int
  | 4 => .boolean
  | _ => .long
theorem n_US : ∀ a, a < 6 → ∀ b, b < 6 → a ≠ b → (T_US a).2.1 ≠ (T_US b).2.1 := by decide +kernel
theorem o_US : ∀ k, k < 6 → parseFieldDescriptor (T_US k).2.2.1 = some (t_US k) := by decide +kernel
theorem i_US_0 : u_lay "ProfileRights$User" T_US 0 ∈ kw_L := kw_in 393 (by decide +kernel) (by decide +kernel)
theorem i_US_1 : u_lay "ProfileRights$User" T_US 1 ∈ kw_L := kw_in 395 (by decide +kernel) (by decide +kernel)
theorem i_US_2 : u_lay "ProfileRights$User" T_US 2 ∈ kw_L := kw_in 397 (by decide +kernel) (by decide +kernel)
theorem i_US_3 : u_lay "ProfileRights$User" T_US 3 ∈ kw_L := kw_in 399 (by decide +kernel) (by decide +kernel)
theorem i_US_4 : u_lay "ProfileRights$User" T_US 4 ∈ kw_L := kw_in 401 (by decide +kernel) (by decide +kernel)
theorem i_US_5 : u_lay "ProfileRights$User" T_US 5 ∈ kw_L := kw_in 403 (by decide +kernel) (by decide +kernel)
theorem i_US : ∀ w ∈ u_ws "ProfileRights$User" T_US 6, w ∈ kw_L := by
  intro w hw
  have h1 : w ∈ [u_lay "ProfileRights$User" T_US 0, u_lay "ProfileRights$User" T_US 1, u_lay "ProfileRights$User" T_US 2, u_lay "ProfileRights$User" T_US 3, u_lay "ProfileRights$User" T_US 4, u_lay "ProfileRights$User" T_US 5] := hw
  simp only [List.mem_cons, List.not_mem_nil, or_false] at h1
  rcases h1 with h1 | h1 | h1 | h1 | h1 | h1
  · rw [h1]; exact i_US_0
  · rw [h1]; exact i_US_1
  · rw [h1]; exact i_US_2
  · rw [h1]; exact i_US_3
  · rw [h1]; exact i_US_4
  · rw [h1]; exact i_US_5
def T_NM : u_T := fun k => match k with
  | 0 => ("ProfileRights$Name", "characters", "[I", true)
  | 1 => ("ProfileRights$Name", "length", "I", false)
  | 2 => ("ProfileRights$Name", "special", "I", false)
  | _ => ("ProfileRights$Name", "ahead", "I", false)
def t_NM : Nat → FieldType := fun k => match k with
  | 0 => .array .int
  | 1 => .int
  | 2 => .int
  | _ => .int
theorem n_NM : ∀ a, a < 4 → ∀ b, b < 4 → a ≠ b → (T_NM a).2.1 ≠ (T_NM b).2.1 := by decide +kernel
theorem o_NM : ∀ k, k < 4 → parseFieldDescriptor (T_NM k).2.2.1 = some (t_NM k) := by decide +kernel
theorem i_NM_0 : u_lay "ProfileRights$Name" T_NM 0 ∈ kw_L := kw_in 68 (by decide +kernel) (by decide +kernel)
theorem i_NM_1 : u_lay "ProfileRights$Name" T_NM 1 ∈ kw_L := kw_in 70 (by decide +kernel) (by decide +kernel)
theorem i_NM_2 : u_lay "ProfileRights$Name" T_NM 2 ∈ kw_L := kw_in 72 (by decide +kernel) (by decide +kernel)
theorem i_NM_3 : u_lay "ProfileRights$Name" T_NM 3 ∈ kw_L := kw_in 74 (by decide +kernel) (by decide +kernel)
theorem i_NM : ∀ w ∈ u_ws "ProfileRights$Name" T_NM 4, w ∈ kw_L := by
  intro w hw
  have h1 : w ∈ [u_lay "ProfileRights$Name" T_NM 0, u_lay "ProfileRights$Name" T_NM 1, u_lay "ProfileRights$Name" T_NM 2, u_lay "ProfileRights$Name" T_NM 3] := hw
  simp only [List.mem_cons, List.not_mem_nil, or_false] at h1
  rcases h1 with h1 | h1 | h1 | h1
  · rw [h1]; exact i_NM_0
  · rw [h1]; exact i_NM_1
  · rw [h1]; exact i_NM_2
  · rw [h1]; exact i_NM_3
def T_EN : u_T := fun k => match k with
  | 0 => ("ProfileRights$Entry", "holder", "I", true)
  | 1 => ("ProfileRights$Entry", "level", "I", false)
  | 2 => ("ProfileRights$Entry", "place", "I", false)
  | _ => ("ProfileRights$Entry", "hours", "I", false)
def t_EN : Nat → FieldType := fun k => match k with
  | 0 => .int
  | 1 => .int
  | 2 => .int
  | _ => .int
theorem n_EN : ∀ a, a < 4 → ∀ b, b < 4 → a ≠ b → (T_EN a).2.1 ≠ (T_EN b).2.1 := by decide +kernel
theorem o_EN : ∀ k, k < 4 → parseFieldDescriptor (T_EN k).2.2.1 = some (t_EN k) := by decide +kernel
theorem i_EN_0 : u_lay "ProfileRights$Entry" T_EN 0 ∈ kw_L := kw_in 570 (by decide +kernel) (by decide +kernel)
theorem i_EN_1 : u_lay "ProfileRights$Entry" T_EN 1 ∈ kw_L := kw_in 572 (by decide +kernel) (by decide +kernel)
theorem i_EN_2 : u_lay "ProfileRights$Entry" T_EN 2 ∈ kw_L := kw_in 574 (by decide +kernel) (by decide +kernel)
theorem i_EN_3 : u_lay "ProfileRights$Entry" T_EN 3 ∈ kw_L := kw_in 576 (by decide +kernel) (by decide +kernel)
theorem i_EN : ∀ w ∈ u_ws "ProfileRights$Entry" T_EN 4, w ∈ kw_L := by
  intro w hw
  have h1 : w ∈ [u_lay "ProfileRights$Entry" T_EN 0, u_lay "ProfileRights$Entry" T_EN 1, u_lay "ProfileRights$Entry" T_EN 2, u_lay "ProfileRights$Entry" T_EN 3] := hw
  simp only [List.mem_cons, List.not_mem_nil, or_false] at h1
  rcases h1 with h1 | h1 | h1 | h1
  · rw [h1]; exact i_EN_0
  · rw [h1]; exact i_EN_1
  · rw [h1]; exact i_EN_2
  · rw [h1]; exact i_EN_3
def T_PF : u_T := fun k => match k with
  | 0 => ("ProfileRights$Profile", "number", "I", true)
  | 1 => ("ProfileRights$Profile", "cls", "I", true)
  | 2 => ("ProfileRights$Profile", "pattern", "LProfileRights$Name;", true)
  | 3 => ("ProfileRights$Profile", "entries", "Ljava/util/ArrayList;", true)
  | 4 => ("ProfileRights$Profile", "universalLevel", "I", false)
  | _ => ("ProfileRights$Profile", "marks", "I", false)
def t_PF : Nat → FieldType := fun k => match k with
  | 0 => .int
  | 1 => .int
  | 2 => .object "ProfileRights$Name"
  | 3 => .object "java/util/ArrayList"
  | 4 => .int
  | _ => .int
theorem n_PF : ∀ a, a < 6 → ∀ b, b < 6 → a ≠ b → (T_PF a).2.1 ≠ (T_PF b).2.1 := by decide +kernel
theorem o_PF : ∀ k, k < 6 → parseFieldDescriptor (T_PF k).2.2.1 = some (t_PF k) := by decide +kernel
theorem i_PF_0 : u_lay "ProfileRights$Profile" T_PF 0 ∈ kw_L := kw_in 477 (by decide +kernel) (by decide +kernel)
theorem i_PF_1 : u_lay "ProfileRights$Profile" T_PF 1 ∈ kw_L := kw_in 479 (by decide +kernel) (by decide +kernel)
theorem i_PF_2 : u_lay "ProfileRights$Profile" T_PF 2 ∈ kw_L := kw_in 481 (by decide +kernel) (by decide +kernel)
theorem i_PF_3 : u_lay "ProfileRights$Profile" T_PF 3 ∈ kw_L := kw_in 483 (by decide +kernel) (by decide +kernel)
theorem i_PF_4 : u_lay "ProfileRights$Profile" T_PF 4 ∈ kw_L := kw_in 485 (by decide +kernel) (by decide +kernel)
theorem i_PF_5 : u_lay "ProfileRights$Profile" T_PF 5 ∈ kw_L := kw_in 487 (by decide +kernel) (by decide +kernel)
theorem i_PF : ∀ w ∈ u_ws "ProfileRights$Profile" T_PF 6, w ∈ kw_L := by
  intro w hw
  have h1 : w ∈ [u_lay "ProfileRights$Profile" T_PF 0, u_lay "ProfileRights$Profile" T_PF 1, u_lay "ProfileRights$Profile" T_PF 2, u_lay "ProfileRights$Profile" T_PF 3, u_lay "ProfileRights$Profile" T_PF 4, u_lay "ProfileRights$Profile" T_PF 5] := hw
  simp only [List.mem_cons, List.not_mem_nil, or_false] at h1
  rcases h1 with h1 | h1 | h1 | h1 | h1 | h1
  · rw [h1]; exact i_PF_0
  · rw [h1]; exact i_PF_1
  · rw [h1]; exact i_PF_2
  · rw [h1]; exact i_PF_3
  · rw [h1]; exact i_PF_4
  · rw [h1]; exact i_PF_5
def T_TR : u_T := fun k => match k with
  | 0 => ("ProfileRights$Trail", "cells", "[I", true)
  | 1 => ("ProfileRights$Trail", "kept", "I", false)
  | _ => ("ProfileRights$Trail", "written", "I", false)
def t_TR : Nat → FieldType := fun k => match k with
  | 0 => .array .int
  | 1 => .int
  | _ => .int
theorem n_TR : ∀ a, a < 3 → ∀ b, b < 3 → a ≠ b → (T_TR a).2.1 ≠ (T_TR b).2.1 := by decide +kernel
theorem o_TR : ∀ k, k < 3 → parseFieldDescriptor (T_TR k).2.2.1 = some (t_TR k) := by decide +kernel
theorem i_TR_0 : u_lay "ProfileRights$Trail" T_TR 0 ∈ kw_L := kw_in 88 (by decide +kernel) (by decide +kernel)
theorem i_TR_1 : u_lay "ProfileRights$Trail" T_TR 1 ∈ kw_L := kw_in 90 (by decide +kernel) (by decide +kernel)
theorem i_TR_2 : u_lay "ProfileRights$Trail" T_TR 2 ∈ kw_L := kw_in 92 (by decide +kernel) (by decide +kernel)
theorem i_TR : ∀ w ∈ u_ws "ProfileRights$Trail" T_TR 3, w ∈ kw_L := by
  intro w hw
  have h1 : w ∈ [u_lay "ProfileRights$Trail" T_TR 0, u_lay "ProfileRights$Trail" T_TR 1, u_lay "ProfileRights$Trail" T_TR 2] := hw
  simp only [List.mem_cons, List.not_mem_nil, or_false] at h1
  rcases h1 with h1 | h1 | h1
  · rw [h1]; exact i_TR_0
  · rw [h1]; exact i_TR_1
  · rw [h1]; exact i_TR_2
def T_AL : u_T := fun k => match k with
  | 0 => ("java/util/AbstractList", "modCount", "I", false)
  | 1 => ("java/util/ArrayList", "elementData", "[Ljava/lang/Object;", false)
  | _ => ("java/util/ArrayList", "size", "I", false)
def t_AL : Nat → FieldType := fun k => match k with
  | 0 => .int
  | 1 => .array (.object "java/lang/Object")
  | _ => .int
theorem n_AL : ∀ a, a < 3 → ∀ b, b < 3 → a ≠ b → (T_AL a).2.1 ≠ (T_AL b).2.1 := by decide +kernel
theorem o_AL : ∀ k, k < 3 → parseFieldDescriptor (T_AL k).2.2.1 = some (t_AL k) := by decide +kernel
theorem i_AL_0 : u_lay "java/util/ArrayList" T_AL 0 ∈ kw_L := kw_in 54 (by decide +kernel) (by decide +kernel)
theorem i_AL_1 : u_lay "java/util/ArrayList" T_AL 1 ∈ kw_L := kw_in 50 (by decide +kernel) (by decide +kernel)
theorem i_AL_2 : u_lay "java/util/ArrayList" T_AL 2 ∈ kw_L := kw_in 52 (by decide +kernel) (by decide +kernel)
theorem i_AL : ∀ w ∈ u_ws "java/util/ArrayList" T_AL 3, w ∈ kw_L := by
  intro w hw
  have h1 : w ∈ [u_lay "java/util/ArrayList" T_AL 0, u_lay "java/util/ArrayList" T_AL 1, u_lay "java/util/ArrayList" T_AL 2] := hw
  simp only [List.mem_cons, List.not_mem_nil, or_false] at h1
  rcases h1 with h1 | h1 | h1
  · rw [h1]; exact i_AL_0
  · rw [h1]; exact i_AL_1
  · rw [h1]; exact i_AL_2
def T_MD : u_T := fun k => match k with
  | 0 => ("ProfileRightsModel", "thrown", "I", false)
  | 1 => ("ProfileRightsModel", "above", "[I", true)
  | 2 => ("ProfileRightsModel", "groupOf", "[I", true)
  | 3 => ("ProfileRightsModel", "terminals", "[I", true)
  | 4 => ("ProfileRightsModel", "tries", "[I", true)
  | 5 => ("ProfileRightsModel", "revoked", "[Z", true)
  | 6 => ("ProfileRightsModel", "acts", "[Z", true)
  | 7 => ("ProfileRightsModel", "groups", "I", false)
  | 8 => ("ProfileRightsModel", "users", "I", false)
  | 9 => ("ProfileRightsModel", "profiles", "I", false)
  | 10 => ("ProfileRightsModel", "modes", "[I", true)
  | 11 => ("ProfileRightsModel", "sorts", "[I", true)
  | 12 => ("ProfileRightsModel", "names", "[I", true)
  | 13 => ("ProfileRightsModel", "lengths", "[I", true)
  | 14 => ("ProfileRightsModel", "levels", "[I", true)
  | 15 => ("ProfileRightsModel", "marks", "[I", true)
  | 16 => ("ProfileRightsModel", "entries", "[I", true)
  | 17 => ("ProfileRightsModel", "whos", "[I", true)
  | 18 => ("ProfileRightsModel", "grants", "[I", true)
  | 19 => ("ProfileRightsModel", "places", "[I", true)
  | 20 => ("ProfileRightsModel", "hours", "[I", true)
  | 21 => ("ProfileRightsModel", "asked", "[I", true)
  | 22 => ("ProfileRightsModel", "askedLength", "I", false)
  | 23 => ("ProfileRightsModel", "latest", "I", false)
  | 24 => ("ProfileRightsModel", "audit", "[I", true)
  | 25 => ("ProfileRightsModel", "rows", "I", false)
  | _ => ("ProfileRightsModel", "fit", "[Z", true)
def t_MD : Nat → FieldType := fun k => match k with
  | 0 => .int
  | 1 => .array .int
  | 2 => .array .int
  | 3 => .array .int
  | 4 => .array .int
  | 5 => .array .boolean
  | 6 => .array .boolean
  | 7 => .int
  | 8 => .int
  | 9 => .int
  | 10 => .array .int
  | 11 => .array .int
  | 12 => .array .int
  | 13 => .array .int
  | 14 => .array .int
  | 15 => .array .int
  | 16 => .array .int
  | 17 => .array .int
  | 18 => .array .int
  | 19 => .array .int
  | 20 => .array .int
  | 21 => .array .int
  | 22 => .int
  | 23 => .int
  | 24 => .array .int
  | 25 => .int
  | _ => .array .boolean
theorem n_MD : ∀ a, a < 27 → ∀ b, b < 27 → a ≠ b → (T_MD a).2.1 ≠ (T_MD b).2.1 := by decide +kernel
theorem o_MD : ∀ k, k < 27 → parseFieldDescriptor (T_MD k).2.2.1 = some (t_MD k) := by decide +kernel
theorem i_MD_0 : u_lay "ProfileRightsModel" T_MD 0 ∈ kw_L := kw_in 708 (by decide +kernel) (by decide +kernel)
theorem i_MD_1 : u_lay "ProfileRightsModel" T_MD 1 ∈ kw_L := kw_in 710 (by decide +kernel) (by decide +kernel)
theorem i_MD_2 : u_lay "ProfileRightsModel" T_MD 2 ∈ kw_L := kw_in 712 (by decide +kernel) (by decide +kernel)
theorem i_MD_3 : u_lay "ProfileRightsModel" T_MD 3 ∈ kw_L := kw_in 714 (by decide +kernel) (by decide +kernel)
theorem i_MD_4 : u_lay "ProfileRightsModel" T_MD 4 ∈ kw_L := kw_in 716 (by decide +kernel) (by decide +kernel)
theorem i_MD_5 : u_lay "ProfileRightsModel" T_MD 5 ∈ kw_L := kw_in 718 (by decide +kernel) (by decide +kernel)
theorem i_MD_6 : u_lay "ProfileRightsModel" T_MD 6 ∈ kw_L := kw_in 720 (by decide +kernel) (by decide +kernel)
theorem i_MD_7 : u_lay "ProfileRightsModel" T_MD 7 ∈ kw_L := kw_in 722 (by decide +kernel) (by decide +kernel)
theorem i_MD_8 : u_lay "ProfileRightsModel" T_MD 8 ∈ kw_L := kw_in 724 (by decide +kernel) (by decide +kernel)
theorem i_MD_9 : u_lay "ProfileRightsModel" T_MD 9 ∈ kw_L := kw_in 726 (by decide +kernel) (by decide +kernel)
theorem i_MD_10 : u_lay "ProfileRightsModel" T_MD 10 ∈ kw_L := kw_in 728 (by decide +kernel) (by decide +kernel)
theorem i_MD_11 : u_lay "ProfileRightsModel" T_MD 11 ∈ kw_L := kw_in 730 (by decide +kernel) (by decide +kernel)
theorem i_MD_12 : u_lay "ProfileRightsModel" T_MD 12 ∈ kw_L := kw_in 732 (by decide +kernel) (by decide +kernel)
theorem i_MD_13 : u_lay "ProfileRightsModel" T_MD 13 ∈ kw_L := kw_in 734 (by decide +kernel) (by decide +kernel)
theorem i_MD_14 : u_lay "ProfileRightsModel" T_MD 14 ∈ kw_L := kw_in 736 (by decide +kernel) (by decide +kernel)
theorem i_MD_15 : u_lay "ProfileRightsModel" T_MD 15 ∈ kw_L := kw_in 738 (by decide +kernel) (by decide +kernel)
theorem i_MD_16 : u_lay "ProfileRightsModel" T_MD 16 ∈ kw_L := kw_in 740 (by decide +kernel) (by decide +kernel)
theorem i_MD_17 : u_lay "ProfileRightsModel" T_MD 17 ∈ kw_L := kw_in 742 (by decide +kernel) (by decide +kernel)
theorem i_MD_18 : u_lay "ProfileRightsModel" T_MD 18 ∈ kw_L := kw_in 744 (by decide +kernel) (by decide +kernel)
theorem i_MD_19 : u_lay "ProfileRightsModel" T_MD 19 ∈ kw_L := kw_in 746 (by decide +kernel) (by decide +kernel)
theorem i_MD_20 : u_lay "ProfileRightsModel" T_MD 20 ∈ kw_L := kw_in 748 (by decide +kernel) (by decide +kernel)
theorem i_MD_21 : u_lay "ProfileRightsModel" T_MD 21 ∈ kw_L := kw_in 750 (by decide +kernel) (by decide +kernel)
theorem i_MD_22 : u_lay "ProfileRightsModel" T_MD 22 ∈ kw_L := kw_in 752 (by decide +kernel) (by decide +kernel)
theorem i_MD_23 : u_lay "ProfileRightsModel" T_MD 23 ∈ kw_L := kw_in 754 (by decide +kernel) (by decide +kernel)
theorem i_MD_24 : u_lay "ProfileRightsModel" T_MD 24 ∈ kw_L := kw_in 756 (by decide +kernel) (by decide +kernel)
theorem i_MD_25 : u_lay "ProfileRightsModel" T_MD 25 ∈ kw_L := kw_in 758 (by decide +kernel) (by decide +kernel)
theorem i_MD_26 : u_lay "ProfileRightsModel" T_MD 26 ∈ kw_L := kw_in 760 (by decide +kernel) (by decide +kernel)
theorem i_MD : ∀ w ∈ u_ws "ProfileRightsModel" T_MD 27, w ∈ kw_L := by
  intro w hw
  have h1 : w ∈ [u_lay "ProfileRightsModel" T_MD 0, u_lay "ProfileRightsModel" T_MD 1, u_lay "ProfileRightsModel" T_MD 2, u_lay "ProfileRightsModel" T_MD 3, u_lay "ProfileRightsModel" T_MD 4, u_lay "ProfileRightsModel" T_MD 5, u_lay "ProfileRightsModel" T_MD 6, u_lay "ProfileRightsModel" T_MD 7, u_lay "ProfileRightsModel" T_MD 8, u_lay "ProfileRightsModel" T_MD 9, u_lay "ProfileRightsModel" T_MD 10, u_lay "ProfileRightsModel" T_MD 11, u_lay "ProfileRightsModel" T_MD 12, u_lay "ProfileRightsModel" T_MD 13, u_lay "ProfileRightsModel" T_MD 14, u_lay "ProfileRightsModel" T_MD 15, u_lay "ProfileRightsModel" T_MD 16, u_lay "ProfileRightsModel" T_MD 17, u_lay "ProfileRightsModel" T_MD 18, u_lay "ProfileRightsModel" T_MD 19, u_lay "ProfileRightsModel" T_MD 20, u_lay "ProfileRightsModel" T_MD 21, u_lay "ProfileRightsModel" T_MD 22, u_lay "ProfileRightsModel" T_MD 23, u_lay "ProfileRightsModel" T_MD 24, u_lay "ProfileRightsModel" T_MD 25, u_lay "ProfileRightsModel" T_MD 26] := hw
  simp only [List.mem_cons, List.not_mem_nil, or_false] at h1
  rcases h1 with h1 | h1 | h1 | h1 | h1 | h1 | h1 | h1 | h1 | h1 | h1 | h1 | h1 | h1 | h1 | h1 | h1 | h1 | h1 | h1 | h1 | h1 | h1 | h1 | h1 | h1 | h1
  · rw [h1]; exact i_MD_0
  · rw [h1]; exact i_MD_1
  · rw [h1]; exact i_MD_2
  · rw [h1]; exact i_MD_3
  · rw [h1]; exact i_MD_4
  · rw [h1]; exact i_MD_5
  · rw [h1]; exact i_MD_6
  · rw [h1]; exact i_MD_7
  · rw [h1]; exact i_MD_8
  · rw [h1]; exact i_MD_9
  · rw [h1]; exact i_MD_10
  · rw [h1]; exact i_MD_11
  · rw [h1]; exact i_MD_12
  · rw [h1]; exact i_MD_13
  · rw [h1]; exact i_MD_14
  · rw [h1]; exact i_MD_15
  · rw [h1]; exact i_MD_16
  · rw [h1]; exact i_MD_17
  · rw [h1]; exact i_MD_18
  · rw [h1]; exact i_MD_19
  · rw [h1]; exact i_MD_20
  · rw [h1]; exact i_MD_21
  · rw [h1]; exact i_MD_22
  · rw [h1]; exact i_MD_23
  · rw [h1]; exact i_MD_24
  · rw [h1]; exact i_MD_25
  · rw [h1]; exact i_MD_26
abbrev vwCl : List vw_C := [("ProfileRights", T_PR, 7), ("ProfileRights$Group", T_GR, 2), ("ProfileRights$User", T_US, 6), ("ProfileRights$Name", T_NM, 4), ("ProfileRights$Entry", T_EN, 4), ("ProfileRights$Profile", T_PF, 6), ("ProfileRights$Trail", T_TR, 3), ("java/util/ArrayList", T_AL, 3), ("ProfileRightsModel", T_MD, 27)]
/-- the array classes: their numbers stand behind those of the classes -/
def ty_L (D : va_G) : List (ClassId × FieldType) := [(D.1 100, .int), (D.1 101, .long), (D.1 102, .object "java/lang/Object"), (D.1 103, .boolean)]
def y_PR_init : MethodName := ⟨"ProfileRights", "<init>", "()V"⟩
theorem kc_PR_init : Cond.code y_PR_init prog_1_method_1_code 1 (Option.none : Option Jvm.ClassFile.FieldType) ∈ kw_L := kw_in 27 (by decide +kernel) (by decide +kernel)
def y_OJ_init : MethodName := ⟨"java/lang/Object", "<init>", "()V"⟩
theorem kc_OJ_init : Cond.code y_OJ_init object_method_1_code 1 (Option.none : Option Jvm.ClassFile.FieldType) ∈ kw_L := kw_in 30 (by decide +kernel) (by decide +kernel)
def y_AL_init : MethodName := ⟨"java/util/ArrayList", "<init>", "()V"⟩
theorem kc_AL_init : Cond.code y_AL_init prog_23_method_2_code 1 (Option.none : Option Jvm.ClassFile.FieldType) ∈ kw_L := kw_in 35 (by decide +kernel) (by decide +kernel)
def y_BL_init : MethodName := ⟨"java/util/AbstractList", "<init>", "()V"⟩
theorem kc_BL_init : Cond.code y_BL_init prog_22_method_1_code 1 (Option.none : Option Jvm.ClassFile.FieldType) ∈ kw_L := kw_in 38 (by decide +kernel) (by decide +kernel)
def y_BC_init : MethodName := ⟨"java/util/AbstractCollection", "<init>", "()V"⟩
theorem kc_BC_init : Cond.code y_BC_init prog_21_method_1_code 1 (Option.none : Option Jvm.ClassFile.FieldType) ∈ kw_L := kw_in 41 (by decide +kernel) (by decide +kernel)
def y_NM_init : MethodName := ⟨"ProfileRights$Name", "<init>", "()V"⟩
theorem kc_NM_init : Cond.code y_NM_init prog_4_method_1_code 1 (Option.none : Option Jvm.ClassFile.FieldType) ∈ kw_L := kw_in 61 (by decide +kernel) (by decide +kernel)
def y_TR_init : MethodName := ⟨"ProfileRights$Trail", "<init>", "()V"⟩
theorem kc_TR_init : Cond.code y_TR_init prog_6_method_1_code 1 (Option.none : Option Jvm.ClassFile.FieldType) ∈ kw_L := kw_in 82 (by decide +kernel) (by decide +kernel)
def y_PR_ask : MethodName := ⟨"ProfileRights", "ask", "(I)I"⟩
theorem kc_PR_ask : Cond.code y_PR_ask prog_1_method_14_code 2 (Option.some Jvm.ClassFile.FieldType.int) ∈ kw_L := kw_in 120 (by decide +kernel) (by decide +kernel)
def y_PR_isCharacter : MethodName := ⟨"ProfileRights", "isCharacter", "(I)Z"⟩
theorem kc_PR_isCharacter : Cond.code y_PR_isCharacter prog_1_method_30_code 1 (Option.some Jvm.ClassFile.FieldType.boolean) ∈ kw_L := kw_in 123 (by decide +kernel) (by decide +kernel)
def y_NM_append : MethodName := ⟨"ProfileRights$Name", "append", "(I)V"⟩
theorem kc_NM_append : Cond.code y_NM_append prog_4_method_3_code 2 (Option.none : Option Jvm.ClassFile.FieldType) ∈ kw_L := kw_in 127 (by decide +kernel) (by decide +kernel)
def y_NM_isFull : MethodName := ⟨"ProfileRights$Name", "isFull", "()Z"⟩
theorem kc_NM_isFull : Cond.code y_NM_isFull prog_4_method_2_code 1 (Option.some Jvm.ClassFile.FieldType.boolean) ∈ kw_L := kw_in 131 (by decide +kernel) (by decide +kernel)
def y_NM_isExact : MethodName := ⟨"ProfileRights$Name", "isExact", "()Z"⟩
theorem kc_NM_isExact : Cond.code y_NM_isExact prog_4_method_5_code 1 (Option.some Jvm.ClassFile.FieldType.boolean) ∈ kw_L := kw_in 135 (by decide +kernel) (by decide +kernel)
def y_NM_clear : MethodName := ⟨"ProfileRights$Name", "clear", "()V"⟩
theorem kc_NM_clear : Cond.code y_NM_clear prog_4_method_4_code 1 (Option.none : Option Jvm.ClassFile.FieldType) ∈ kw_L := kw_in 139 (by decide +kernel) (by decide +kernel)
def y_PR_matched : MethodName := ⟨"ProfileRights", "matched", "()I"⟩
theorem kc_PR_matched : Cond.code y_PR_matched prog_1_method_16_code 1 (Option.some Jvm.ClassFile.FieldType.int) ∈ kw_L := kw_in 143 (by decide +kernel) (by decide +kernel)
def y_PR_audit : MethodName := ⟨"ProfileRights", "audit", "(II)I"⟩
theorem kc_PR_audit : Cond.code y_PR_audit prog_1_method_17_code 3 (Option.some Jvm.ClassFile.FieldType.int) ∈ kw_L := kw_in 147 (by decide +kernel) (by decide +kernel)
def y_TR_read : MethodName := ⟨"ProfileRights$Trail", "read", "(II)I"⟩
theorem kc_TR_read : Cond.code y_TR_read prog_6_method_3_code 3 (Option.some Jvm.ClassFile.FieldType.int) ∈ kw_L := kw_in 151 (by decide +kernel) (by decide +kernel)
def y_PR_count : MethodName := ⟨"ProfileRights", "count", "(I)I"⟩
theorem kc_PR_count : Cond.code y_PR_count prog_1_method_21_code 2 (Option.some Jvm.ClassFile.FieldType.int) ∈ kw_L := kw_in 155 (by decide +kernel) (by decide +kernel)
def y_AL_size : MethodName := ⟨"java/util/ArrayList", "size", "()I"⟩
theorem kc_AL_size : Cond.code y_AL_size prog_23_method_8_code 1 (Option.some Jvm.ClassFile.FieldType.int) ∈ kw_L := kw_in 159 (by decide +kernel) (by decide +kernel)
def y_PR_countRevoked : MethodName := ⟨"ProfileRights", "countRevoked", "()I"⟩
theorem kc_PR_countRevoked : Cond.code y_PR_countRevoked prog_1_method_34_code 3 (Option.some Jvm.ClassFile.FieldType.int) ∈ kw_L := kw_in 163 (by decide +kernel) (by decide +kernel)
def y_AL_get : MethodName := ⟨"java/util/ArrayList", "get", "(I)Ljava/lang/Object;"⟩
theorem kc_AL_get : Cond.code y_AL_get prog_23_method_20_code 2 (Option.some (Jvm.ClassFile.FieldType.object "java/lang/Object")) ∈ kw_L := kw_in 167 (by decide +kernel) (by decide +kernel)
def y_OB_checkIndex : MethodName := ⟨"java/util/Objects", "checkIndex", "(II)I"⟩
theorem kc_OB_checkIndex : Cond.code y_OB_checkIndex prog_27_method_17_code 2 (Option.some Jvm.ClassFile.FieldType.int) ∈ kw_L := kw_in 170 (by decide +kernel) (by decide +kernel)
def y_PC_checkIndex : MethodName := ⟨"jdk/internal/util/Preconditions", "checkIndex", "(IILjava/util/function/BiFunction;)I"⟩
theorem kc_PC_checkIndex : Cond.code y_PC_checkIndex prog_31_method_11_code 3 (Option.some Jvm.ClassFile.FieldType.int) ∈ kw_L := kw_in 173 (by decide +kernel) (by decide +kernel)
def y_AL_elementData : MethodName := ⟨"java/util/ArrayList", "elementData", "(I)Ljava/lang/Object;"⟩
theorem kc_AL_elementData : Cond.code y_AL_elementData prog_23_method_18_code 2 (Option.some (Jvm.ClassFile.FieldType.object "java/lang/Object")) ∈ kw_L := kw_in 177 (by decide +kernel) (by decide +kernel)
def y_PR_countEntries : MethodName := ⟨"ProfileRights", "countEntries", "()I"⟩
theorem kc_PR_countEntries : Cond.code y_PR_countEntries prog_1_method_35_code 3 (Option.some Jvm.ClassFile.FieldType.int) ∈ kw_L := kw_in 182 (by decide +kernel) (by decide +kernel)
def y_PR_group : MethodName := ⟨"ProfileRights", "group", "(I)I"⟩
theorem kc_PR_group : Cond.code y_PR_group prog_1_method_2_code 3 (Option.some Jvm.ClassFile.FieldType.int) ∈ kw_L := kw_in 192 (by decide +kernel) (by decide +kernel)
def y_PR_groupOrNone : MethodName := ⟨"ProfileRights", "groupOrNone", "(I)LProfileRights$Group;"⟩
theorem kc_PR_groupOrNone : Cond.code y_PR_groupOrNone prog_1_method_23_code 2 (Option.some (Jvm.ClassFile.FieldType.object "ProfileRights$Group")) ∈ kw_L := kw_in 196 (by decide +kernel) (by decide +kernel)
def y_PR_groupAt : MethodName := ⟨"ProfileRights", "groupAt", "(I)LProfileRights$Group;"⟩
theorem kc_PR_groupAt : Cond.code y_PR_groupAt prog_1_method_22_code 2 (Option.some (Jvm.ClassFile.FieldType.object "ProfileRights$Group")) ∈ kw_L := kw_in 200 (by decide +kernel) (by decide +kernel)
def y_TH_init_0 : MethodName := ⟨"java/lang/Throwable", "<init>", "()V"⟩
theorem kc_TH_init_0 : Cond.code y_TH_init_0 prog_20_method_1_code 1 (Option.none : Option Jvm.ClassFile.FieldType) ∈ kw_L := kw_in 225 (by decide +kernel) (by decide +kernel)
def y_TH_init_1 : MethodName := ⟨"java/lang/Throwable", "<init>", "(Ljava/lang/String;)V"⟩
theorem kc_TH_init_1 : Cond.code y_TH_init_1 prog_20_method_2_code 2 (Option.none : Option Jvm.ClassFile.FieldType) ∈ kw_L := kw_in 253 (by decide +kernel) (by decide +kernel)
def y_IA_init : MethodName := ⟨"java/lang/IllegalArgumentException", "<init>", "(Ljava/lang/String;)V"⟩
theorem kc_IA_init : Cond.code y_IA_init prog_13_method_2_code 2 (Option.none : Option Jvm.ClassFile.FieldType) ∈ kw_L := kw_in 244 (by decide +kernel) (by decide +kernel)
def y_RE_init : MethodName := ⟨"java/lang/RuntimeException", "<init>", "(Ljava/lang/String;)V"⟩
theorem kc_RE_init : Cond.code y_RE_init prog_17_method_2_code 2 (Option.none : Option Jvm.ClassFile.FieldType) ∈ kw_L := kw_in 247 (by decide +kernel) (by decide +kernel)
def y_EX_init : MethodName := ⟨"java/lang/Exception", "<init>", "(Ljava/lang/String;)V"⟩
theorem kc_EX_init : Cond.code y_EX_init prog_12_method_2_code 2 (Option.none : Option Jvm.ClassFile.FieldType) ∈ kw_L := kw_in 250 (by decide +kernel) (by decide +kernel)
def y_IS_init : MethodName := ⟨"java/lang/IllegalStateException", "<init>", "(Ljava/lang/String;)V"⟩
theorem kc_IS_init : Cond.code y_IS_init prog_14_method_2_code 2 (Option.none : Option Jvm.ClassFile.FieldType) ∈ kw_L := kw_in 281 (by decide +kernel) (by decide +kernel)
def y_GR_init : MethodName := ⟨"ProfileRights$Group", "<init>", "(ILProfileRights$Group;)V"⟩
theorem kc_GR_init : Cond.code y_GR_init prog_3_method_1_code 3 (Option.none : Option Jvm.ClassFile.FieldType) ∈ kw_L := kw_in 288 (by decide +kernel) (by decide +kernel)
def y_AL_add_0 : MethodName := ⟨"java/util/ArrayList", "add", "(Ljava/lang/Object;)Z"⟩
theorem kc_AL_add_0 : Cond.code y_AL_add_0 prog_23_method_25_code 2 (Option.some Jvm.ClassFile.FieldType.boolean) ∈ kw_L := kw_in 303 (by decide +kernel) (by decide +kernel)
def y_AL_add_1 : MethodName := ⟨"java/util/ArrayList", "add", "(Ljava/lang/Object;[Ljava/lang/Object;I)V"⟩
theorem kc_AL_add_1 : Cond.code y_AL_add_1 prog_23_method_24_code 4 (Option.none : Option Jvm.ClassFile.FieldType) ∈ kw_L := kw_in 307 (by decide +kernel) (by decide +kernel)
def y_AL_grow_0 : MethodName := ⟨"java/util/ArrayList", "grow", "()[Ljava/lang/Object;"⟩
theorem kc_AL_grow_0 : Cond.code y_AL_grow_0 prog_23_method_7_code 1 (Option.some (Jvm.ClassFile.FieldType.array (Jvm.ClassFile.FieldType.object "java/lang/Object"))) ∈ kw_L := kw_in 311 (by decide +kernel) (by decide +kernel)
def y_AL_grow_1 : MethodName := ⟨"java/util/ArrayList", "grow", "(I)[Ljava/lang/Object;"⟩
theorem kc_AL_grow_1 : Cond.code y_AL_grow_1 prog_23_method_6_code 4 (Option.some (Jvm.ClassFile.FieldType.array (Jvm.ClassFile.FieldType.object "java/lang/Object"))) ∈ kw_L := kw_in 315 (by decide +kernel) (by decide +kernel)
def y_AS_newLength : MethodName := ⟨"jdk/internal/util/ArraysSupport", "newLength", "(III)I"⟩
theorem kc_AS_newLength : Cond.code y_AS_newLength prog_30_method_27_code 4 (Option.some Jvm.ClassFile.FieldType.int) ∈ kw_L := kw_in 318 (by decide +kernel) (by decide +kernel)
def y_MA_max : MethodName := ⟨"java/lang/Math", "max", "(II)I"⟩
theorem kc_MA_max : Cond.code y_MA_max prog_16_method_65_code 2 (Option.some Jvm.ClassFile.FieldType.int) ∈ kw_L := kw_in 321 (by decide +kernel) (by decide +kernel)
def y_AS_hugeLength : MethodName := ⟨"jdk/internal/util/ArraysSupport", "hugeLength", "(II)I"⟩
theorem kc_AS_hugeLength : Cond.code y_AS_hugeLength prog_30_method_28_code 3 (Option.some Jvm.ClassFile.FieldType.int) ∈ kw_L := kw_in 325 (by decide +kernel) (by decide +kernel)
def y_AR_copyOf_0 : MethodName := ⟨"java/util/Arrays", "copyOf", "([Ljava/lang/Object;I)[Ljava/lang/Object;"⟩
theorem kc_AR_copyOf_0 : Cond.code y_AR_copyOf_0 prog_24_method_119_code 2 (Option.some (Jvm.ClassFile.FieldType.array (Jvm.ClassFile.FieldType.object "java/lang/Object"))) ∈ kw_L := kw_in 328 (by decide +kernel) (by decide +kernel)
def y_AR_copyOf_1 : MethodName := ⟨"java/util/Arrays", "copyOf", "([Ljava/lang/Object;ILjava/lang/Class;)[Ljava/lang/Object;"⟩
theorem kc_AR_copyOf_1 : Cond.code y_AR_copyOf_1 prog_24_method_120_code 4 (Option.some (Jvm.ClassFile.FieldType.array (Jvm.ClassFile.FieldType.object "java/lang/Object"))) ∈ kw_L := kw_in 346 (by decide +kernel) (by decide +kernel)
def y_MA_min : MethodName := ⟨"java/lang/Math", "min", "(II)I"⟩
theorem kc_MA_min : Cond.code y_MA_min prog_16_method_69_code 2 (Option.some Jvm.ClassFile.FieldType.int) ∈ kw_L := kw_in 352 (by decide +kernel) (by decide +kernel)
def y_PR_move : MethodName := ⟨"ProfileRights", "move", "(II)I"⟩
theorem kc_PR_move : Cond.code y_PR_move prog_1_method_3_code 5 (Option.some Jvm.ClassFile.FieldType.int) ∈ kw_L := kw_in 364 (by decide +kernel) (by decide +kernel)
def y_PR_isWithin : MethodName := ⟨"ProfileRights", "isWithin", "(LProfileRights$Group;LProfileRights$Group;)Z"⟩
theorem kc_PR_isWithin : Cond.code y_PR_isWithin prog_1_method_31_code 3 (Option.some Jvm.ClassFile.FieldType.boolean) ∈ kw_L := kw_in 367 (by decide +kernel) (by decide +kernel)
def y_PR_user : MethodName := ⟨"ProfileRights", "user", "(I)I"⟩
theorem kc_PR_user : Cond.code y_PR_user prog_1_method_4_code 3 (Option.some Jvm.ClassFile.FieldType.int) ∈ kw_L := kw_in 374 (by decide +kernel) (by decide +kernel)
def y_US_init : MethodName := ⟨"ProfileRights$User", "<init>", "(ILProfileRights$Group;)V"⟩
theorem kc_US_init : Cond.code y_US_init prog_7_method_1_code 3 (Option.none : Option Jvm.ClassFile.FieldType) ∈ kw_L := kw_in 379 (by decide +kernel) (by decide +kernel)
def y_PR_terminal : MethodName := ⟨"ProfileRights", "terminal", "(II)I"⟩
theorem kc_PR_terminal : Cond.code y_PR_terminal prog_1_method_5_code 5 (Option.some Jvm.ClassFile.FieldType.int) ∈ kw_L := kw_in 412 (by decide +kernel) (by decide +kernel)
def y_PR_userAt : MethodName := ⟨"ProfileRights", "userAt", "(I)LProfileRights$User;"⟩
theorem kc_PR_userAt : Cond.code y_PR_userAt prog_1_method_24_code 2 (Option.some (Jvm.ClassFile.FieldType.object "ProfileRights$User")) ∈ kw_L := kw_in 416 (by decide +kernel) (by decide +kernel)
def y_PR_testTerminal : MethodName := ⟨"ProfileRights", "testTerminal", "(I)V"⟩
theorem kc_PR_testTerminal : Cond.code y_PR_testTerminal prog_1_method_28_code 1 (Option.none : Option Jvm.ClassFile.FieldType) ∈ kw_L := kw_in 420 (by decide +kernel) (by decide +kernel)
def y_PR_revoke : MethodName := ⟨"ProfileRights", "revoke", "(IZ)I"⟩
theorem kc_PR_revoke : Cond.code y_PR_revoke prog_1_method_6_code 4 (Option.some Jvm.ClassFile.FieldType.int) ∈ kw_L := kw_in 428 (by decide +kernel) (by decide +kernel)
def y_PR_pass : MethodName := ⟨"ProfileRights", "pass", "(IZ)I"⟩
theorem kc_PR_pass : Cond.code y_PR_pass prog_1_method_7_code 4 (Option.some Jvm.ClassFile.FieldType.int) ∈ kw_L := kw_in 435 (by decide +kernel) (by decide +kernel)
def y_PR_mode : MethodName := ⟨"ProfileRights", "mode", "(II)I"⟩
theorem kc_PR_mode : Cond.code y_PR_mode prog_1_method_8_code 4 (Option.some Jvm.ClassFile.FieldType.int) ∈ kw_L := kw_in 442 (by decide +kernel) (by decide +kernel)
def y_PR_testClass : MethodName := ⟨"ProfileRights", "testClass", "(I)V"⟩
theorem kc_PR_testClass : Cond.code y_PR_testClass prog_1_method_27_code 1 (Option.none : Option Jvm.ClassFile.FieldType) ∈ kw_L := kw_in 445 (by decide +kernel) (by decide +kernel)
def y_PR_profile : MethodName := ⟨"ProfileRights", "profile", "(II)I"⟩
theorem kc_PR_profile : Cond.code y_PR_profile prog_1_method_9_code 3 (Option.some Jvm.ClassFile.FieldType.int) ∈ kw_L := kw_in 454 (by decide +kernel) (by decide +kernel)
def y_PF_init : MethodName := ⟨"ProfileRights$Profile", "<init>", "(II)V"⟩
theorem kc_PF_init : Cond.code y_PF_init prog_5_method_1_code 3 (Option.none : Option Jvm.ClassFile.FieldType) ∈ kw_L := kw_in 459 (by decide +kernel) (by decide +kernel)
def y_PR_name : MethodName := ⟨"ProfileRights", "name", "(II)I"⟩
theorem kc_PR_name : Cond.code y_PR_name prog_1_method_10_code 4 (Option.some Jvm.ClassFile.FieldType.int) ∈ kw_L := kw_in 496 (by decide +kernel) (by decide +kernel)
def y_PR_profileAt : MethodName := ⟨"ProfileRights", "profileAt", "(I)LProfileRights$Profile;"⟩
theorem kc_PR_profileAt : Cond.code y_PR_profileAt prog_1_method_25_code 2 (Option.some (Jvm.ClassFile.FieldType.object "ProfileRights$Profile")) ∈ kw_L := kw_in 500 (by decide +kernel) (by decide +kernel)
def y_PR_universal : MethodName := ⟨"ProfileRights", "universal", "(III)I"⟩
theorem kc_PR_universal : Cond.code y_PR_universal prog_1_method_11_code 6 (Option.some Jvm.ClassFile.FieldType.int) ∈ kw_L := kw_in 511 (by decide +kernel) (by decide +kernel)
def y_PR_testLevel : MethodName := ⟨"ProfileRights", "testLevel", "(II)V"⟩
theorem kc_PR_testLevel : Cond.code y_PR_testLevel prog_1_method_29_code 2 (Option.none : Option Jvm.ClassFile.FieldType) ∈ kw_L := kw_in 514 (by decide +kernel) (by decide +kernel)
def y_PR_permit : MethodName := ⟨"ProfileRights", "permit", "(III)I"⟩
theorem kc_PR_permit : Cond.code y_PR_permit prog_1_method_12_code 7 (Option.some Jvm.ClassFile.FieldType.int) ∈ kw_L := kw_in 523 (by decide +kernel) (by decide +kernel)
def y_PR_testHolder : MethodName := ⟨"ProfileRights", "testHolder", "(I)V"⟩
theorem kc_PR_testHolder : Cond.code y_PR_testHolder prog_1_method_26_code 2 (Option.none : Option Jvm.ClassFile.FieldType) ∈ kw_L := kw_in 527 (by decide +kernel) (by decide +kernel)
def y_PF_entryOf : MethodName := ⟨"ProfileRights$Profile", "entryOf", "(I)LProfileRights$Entry;"⟩
theorem kc_PF_entryOf : Cond.code y_PF_entryOf prog_5_method_5_code 3 (Option.some (Jvm.ClassFile.FieldType.object "ProfileRights$Entry")) ∈ kw_L := kw_in 531 (by decide +kernel) (by decide +kernel)
def y_PF_dropEntry : MethodName := ⟨"ProfileRights$Profile", "dropEntry", "(I)V"⟩
theorem kc_PF_dropEntry : Cond.code y_PF_dropEntry prog_5_method_6_code 3 (Option.none : Option Jvm.ClassFile.FieldType) ∈ kw_L := kw_in 538 (by decide +kernel) (by decide +kernel)
def y_AL_remove : MethodName := ⟨"java/util/ArrayList", "remove", "(I)Ljava/lang/Object;"⟩
theorem kc_AL_remove : Cond.code y_AL_remove prog_23_method_29_code 4 (Option.some (Jvm.ClassFile.FieldType.object "java/lang/Object")) ∈ kw_L := kw_in 542 (by decide +kernel) (by decide +kernel)
def y_AL_fastRemove : MethodName := ⟨"java/util/ArrayList", "fastRemove", "([Ljava/lang/Object;I)V"⟩
theorem kc_AL_fastRemove : Cond.code y_AL_fastRemove prog_23_method_39_code 4 (Option.none : Option Jvm.ClassFile.FieldType) ∈ kw_L := kw_in 546 (by decide +kernel) (by decide +kernel)
def y_PF_isFull : MethodName := ⟨"ProfileRights$Profile", "isFull", "()Z"⟩
theorem kc_PF_isFull : Cond.code y_PF_isFull prog_5_method_4_code 1 (Option.some Jvm.ClassFile.FieldType.boolean) ∈ kw_L := kw_in 551 (by decide +kernel) (by decide +kernel)
def y_EN_init : MethodName := ⟨"ProfileRights$Entry", "<init>", "(II)V"⟩
theorem kc_EN_init : Cond.code y_EN_init prog_2_method_1_code 3 (Option.none : Option Jvm.ClassFile.FieldType) ∈ kw_L := kw_in 557 (by decide +kernel) (by decide +kernel)
def y_PR_condition : MethodName := ⟨"ProfileRights", "condition", "(IIII)I"⟩
theorem kc_PR_condition : Cond.code y_PR_condition prog_1_method_13_code 7 (Option.some Jvm.ClassFile.FieldType.int) ∈ kw_L := kw_in 585 (by decide +kernel) (by decide +kernel)
def y_PR_may : MethodName := ⟨"ProfileRights", "may", "(IIIJ)I"⟩
theorem kc_PR_may : Cond.code y_PR_may prog_1_method_15_code 10 (Option.some Jvm.ClassFile.FieldType.int) ∈ kw_L := kw_in 593 (by decide +kernel) (by decide +kernel)
def y_PR_decide : MethodName := ⟨"ProfileRights", "decide", "(LProfileRights$User;III)I"⟩
theorem kc_PR_decide : Cond.code y_PR_decide prog_1_method_32_code 7 (Option.some Jvm.ClassFile.FieldType.int) ∈ kw_L := kw_in 600 (by decide +kernel) (by decide +kernel)
def y_PR_mostSpecial : MethodName := ⟨"ProfileRights", "mostSpecial", "(IIZ)LProfileRights$Profile;"⟩
theorem kc_PR_mostSpecial : Cond.code y_PR_mostSpecial prog_1_method_33_code 7 (Option.some (Jvm.ClassFile.FieldType.object "ProfileRights$Profile")) ∈ kw_L := kw_in 604 (by decide +kernel) (by decide +kernel)
def y_PF_isOpenToAll : MethodName := ⟨"ProfileRights$Profile", "isOpenToAll", "(I)Z"⟩
theorem kc_PF_isOpenToAll : Cond.code y_PF_isOpenToAll prog_5_method_3_code 2 (Option.some Jvm.ClassFile.FieldType.boolean) ∈ kw_L := kw_in 608 (by decide +kernel) (by decide +kernel)
def y_PF_bears : MethodName := ⟨"ProfileRights$Profile", "bears", "(I)Z"⟩
theorem kc_PF_bears : Cond.code y_PF_bears prog_5_method_2_code 2 (Option.some Jvm.ClassFile.FieldType.boolean) ∈ kw_L := kw_in 612 (by decide +kernel) (by decide +kernel)
def y_NM_fits : MethodName := ⟨"ProfileRights$Name", "fits", "(LProfileRights$Name;)Z"⟩
theorem kc_NM_fits : Cond.code y_NM_fits prog_4_method_7_code 5 (Option.some Jvm.ClassFile.FieldType.boolean) ∈ kw_L := kw_in 616 (by decide +kernel) (by decide +kernel)
def y_NM_reachedBehind : MethodName := ⟨"ProfileRights$Name", "reachedBehind", "(IILProfileRights$Name;)I"⟩
theorem kc_NM_reachedBehind : Cond.code y_NM_reachedBehind prog_4_method_8_code 3 (Option.some Jvm.ClassFile.FieldType.int) ∈ kw_L := kw_in 619 (by decide +kernel) (by decide +kernel)
def y_NM_placesOf : MethodName := ⟨"ProfileRights$Name", "placesOf", "(I)I"⟩
theorem kc_NM_placesOf : Cond.code y_NM_placesOf prog_4_method_9_code 4 (Option.some Jvm.ClassFile.FieldType.int) ∈ kw_L := kw_in 623 (by decide +kernel) (by decide +kernel)
def y_NM_isMoreSpecialThan : MethodName := ⟨"ProfileRights$Name", "isMoreSpecialThan", "(LProfileRights$Name;)Z"⟩
theorem kc_NM_isMoreSpecialThan : Cond.code y_NM_isMoreSpecialThan prog_4_method_6_code 2 (Option.some Jvm.ClassFile.FieldType.boolean) ∈ kw_L := kw_in 627 (by decide +kernel) (by decide +kernel)
def y_PF_levelOf : MethodName := ⟨"ProfileRights$Profile", "levelOf", "(LProfileRights$User;I)I"⟩
theorem kc_PF_levelOf : Cond.code y_PF_levelOf prog_5_method_7_code 5 (Option.some Jvm.ClassFile.FieldType.int) ∈ kw_L := kw_in 631 (by decide +kernel) (by decide +kernel)
def y_PF_openEntryOf : MethodName := ⟨"ProfileRights$Profile", "openEntryOf", "(ILProfileRights$User;I)LProfileRights$Entry;"⟩
theorem kc_PF_openEntryOf : Cond.code y_PF_openEntryOf prog_5_method_8_code 5 (Option.some (Jvm.ClassFile.FieldType.object "ProfileRights$Entry")) ∈ kw_L := kw_in 635 (by decide +kernel) (by decide +kernel)
def y_EN_isOpen : MethodName := ⟨"ProfileRights$Entry", "isOpen", "(LProfileRights$User;I)Z"⟩
theorem kc_EN_isOpen : Cond.code y_EN_isOpen prog_2_method_2_code 3 (Option.some Jvm.ClassFile.FieldType.boolean) ∈ kw_L := kw_in 640 (by decide +kernel) (by decide +kernel)
def y_TR_write : MethodName := ⟨"ProfileRights$Trail", "write", "(IIIII)V"⟩
theorem kc_TR_write : Cond.code y_TR_write prog_6_method_2_code 7 (Option.none : Option Jvm.ClassFile.FieldType) ∈ kw_L := kw_in 645 (by decide +kernel) (by decide +kernel)
def y_PR_who : MethodName := ⟨"ProfileRights", "who", "(II)I"⟩
theorem kc_PR_who : Cond.code y_PR_who prog_1_method_18_code 4 (Option.some Jvm.ClassFile.FieldType.int) ∈ kw_L := kw_in 652 (by decide +kernel) (by decide +kernel)
def y_PR_acts : MethodName := ⟨"ProfileRights", "acts", "(II)Z"⟩
theorem kc_PR_acts : Cond.code y_PR_acts prog_1_method_19_code 5 (Option.some Jvm.ClassFile.FieldType.boolean) ∈ kw_L := kw_in 659 (by decide +kernel) (by decide +kernel)
def y_US_standsFor : MethodName := ⟨"ProfileRights$User", "standsFor", "(LProfileRights$User;)Z"⟩
theorem kc_US_standsFor : Cond.code y_US_standsFor prog_7_method_2_code 2 (Option.some Jvm.ClassFile.FieldType.boolean) ∈ kw_L := kw_in 663 (by decide +kernel) (by decide +kernel)
def y_PR_surrogate : MethodName := ⟨"ProfileRights", "surrogate", "(IIZ)I"⟩
theorem kc_PR_surrogate : Cond.code y_PR_surrogate prog_1_method_20_code 6 (Option.some Jvm.ClassFile.FieldType.int) ∈ kw_L := kw_in 670 (by decide +kernel) (by decide +kernel)
def y_US_toggleStandingFor : MethodName := ⟨"ProfileRights$User", "toggleStandingFor", "(LProfileRights$User;)V"⟩
theorem kc_US_toggleStandingFor : Cond.code y_US_toggleStandingFor prog_7_method_3_code 2 (Option.none : Option Jvm.ClassFile.FieldType) ∈ kw_L := kw_in 674 (by decide +kernel) (by decide +kernel)
def y_MD_init : MethodName := ⟨"ProfileRightsModel", "<init>", "()V"⟩
theorem kc_MD_init : Cond.code y_MD_init prog_9_method_1_code 1 (Option.none : Option Jvm.ClassFile.FieldType) ∈ kw_L := kw_in 679 (by decide +kernel) (by decide +kernel)
def y_MD_thrown : MethodName := ⟨"ProfileRightsModel", "thrown", "()I"⟩
theorem kc_MD_thrown : Cond.code y_MD_thrown prog_9_method_2_code 1 (Option.some Jvm.ClassFile.FieldType.int) ∈ kw_L := kw_in 767 (by decide +kernel) (by decide +kernel)
def y_MD_group : MethodName := ⟨"ProfileRightsModel", "group", "(I)I"⟩
theorem kc_MD_group : Cond.code y_MD_group prog_9_method_10_code 3 (Option.some Jvm.ClassFile.FieldType.int) ∈ kw_L := kw_in 771 (by decide +kernel) (by decide +kernel)
def y_MD_isGroup : MethodName := ⟨"ProfileRightsModel", "isGroup", "(I)Z"⟩
theorem kc_MD_isGroup : Cond.code y_MD_isGroup prog_9_method_4_code 2 (Option.some Jvm.ClassFile.FieldType.boolean) ∈ kw_L := kw_in 775 (by decide +kernel) (by decide +kernel)
def y_MD_fails : MethodName := ⟨"ProfileRightsModel", "fails", "(ZZ)Z"⟩
theorem kc_MD_fails : Cond.code y_MD_fails prog_9_method_3_code 3 (Option.some Jvm.ClassFile.FieldType.boolean) ∈ kw_L := kw_in 779 (by decide +kernel) (by decide +kernel)
def y_MD_move : MethodName := ⟨"ProfileRightsModel", "move", "(II)I"⟩
theorem kc_MD_move : Cond.code y_MD_move prog_9_method_11_code 4 (Option.some Jvm.ClassFile.FieldType.int) ∈ kw_L := kw_in 783 (by decide +kernel) (by decide +kernel)
def y_MD_user : MethodName := ⟨"ProfileRightsModel", "user", "(I)I"⟩
theorem kc_MD_user : Cond.code y_MD_user prog_9_method_12_code 3 (Option.some Jvm.ClassFile.FieldType.int) ∈ kw_L := kw_in 787 (by decide +kernel) (by decide +kernel)
def y_MD_terminal : MethodName := ⟨"ProfileRightsModel", "terminal", "(II)I"⟩
theorem kc_MD_terminal : Cond.code y_MD_terminal prog_9_method_13_code 4 (Option.some Jvm.ClassFile.FieldType.int) ∈ kw_L := kw_in 791 (by decide +kernel) (by decide +kernel)
def y_MD_isUser : MethodName := ⟨"ProfileRightsModel", "isUser", "(I)Z"⟩
theorem kc_MD_isUser : Cond.code y_MD_isUser prog_9_method_5_code 2 (Option.some Jvm.ClassFile.FieldType.boolean) ∈ kw_L := kw_in 795 (by decide +kernel) (by decide +kernel)
def y_MD_isTerminal : MethodName := ⟨"ProfileRightsModel", "isTerminal", "(I)Z"⟩
theorem kc_MD_isTerminal : Cond.code y_MD_isTerminal prog_9_method_9_code 1 (Option.some Jvm.ClassFile.FieldType.boolean) ∈ kw_L := kw_in 798 (by decide +kernel) (by decide +kernel)
def y_MD_revoke : MethodName := ⟨"ProfileRightsModel", "revoke", "(IZ)I"⟩
theorem kc_MD_revoke : Cond.code y_MD_revoke prog_9_method_14_code 3 (Option.some Jvm.ClassFile.FieldType.int) ∈ kw_L := kw_in 802 (by decide +kernel) (by decide +kernel)
def y_MD_pass : MethodName := ⟨"ProfileRightsModel", "pass", "(IZ)I"⟩
theorem kc_MD_pass : Cond.code y_MD_pass prog_9_method_15_code 3 (Option.some Jvm.ClassFile.FieldType.int) ∈ kw_L := kw_in 806 (by decide +kernel) (by decide +kernel)
def y_MD_acts : MethodName := ⟨"ProfileRightsModel", "acts", "(II)Z"⟩
theorem kc_MD_acts : Cond.code y_MD_acts prog_9_method_16_code 3 (Option.some Jvm.ClassFile.FieldType.boolean) ∈ kw_L := kw_in 810 (by decide +kernel) (by decide +kernel)
def y_MD_surrogate : MethodName := ⟨"ProfileRightsModel", "surrogate", "(IIZ)I"⟩
theorem kc_MD_surrogate : Cond.code y_MD_surrogate prog_9_method_17_code 4 (Option.some Jvm.ClassFile.FieldType.int) ∈ kw_L := kw_in 814 (by decide +kernel) (by decide +kernel)
def y_MD_mode : MethodName := ⟨"ProfileRightsModel", "mode", "(II)I"⟩
theorem kc_MD_mode : Cond.code y_MD_mode prog_9_method_18_code 4 (Option.some Jvm.ClassFile.FieldType.int) ∈ kw_L := kw_in 818 (by decide +kernel) (by decide +kernel)
def y_MD_isClass : MethodName := ⟨"ProfileRightsModel", "isClass", "(I)Z"⟩
theorem kc_MD_isClass : Cond.code y_MD_isClass prog_9_method_7_code 1 (Option.some Jvm.ClassFile.FieldType.boolean) ∈ kw_L := kw_in 821 (by decide +kernel) (by decide +kernel)
def y_MD_profile : MethodName := ⟨"ProfileRightsModel", "profile", "(II)I"⟩
theorem kc_MD_profile : Cond.code y_MD_profile prog_9_method_19_code 4 (Option.some Jvm.ClassFile.FieldType.int) ∈ kw_L := kw_in 825 (by decide +kernel) (by decide +kernel)
def y_MD_name : MethodName := ⟨"ProfileRightsModel", "name", "(II)I"⟩
theorem kc_MD_name : Cond.code y_MD_name prog_9_method_20_code 4 (Option.some Jvm.ClassFile.FieldType.int) ∈ kw_L := kw_in 829 (by decide +kernel) (by decide +kernel)
def y_MD_isProfile : MethodName := ⟨"ProfileRightsModel", "isProfile", "(I)Z"⟩
theorem kc_MD_isProfile : Cond.code y_MD_isProfile prog_9_method_6_code 2 (Option.some Jvm.ClassFile.FieldType.boolean) ∈ kw_L := kw_in 833 (by decide +kernel) (by decide +kernel)
def y_MD_isSign : MethodName := ⟨"ProfileRightsModel", "isSign", "(I)Z"⟩
theorem kc_MD_isSign : Cond.code y_MD_isSign prog_9_method_8_code 1 (Option.some Jvm.ClassFile.FieldType.boolean) ∈ kw_L := kw_in 836 (by decide +kernel) (by decide +kernel)
def y_MD_universal : MethodName := ⟨"ProfileRightsModel", "universal", "(III)I"⟩
theorem kc_MD_universal : Cond.code y_MD_universal prog_9_method_21_code 5 (Option.some Jvm.ClassFile.FieldType.int) ∈ kw_L := kw_in 840 (by decide +kernel) (by decide +kernel)
def y_MD_permit : MethodName := ⟨"ProfileRightsModel", "permit", "(III)I"⟩
theorem kc_MD_permit : Cond.code y_MD_permit prog_9_method_24_code 8 (Option.some Jvm.ClassFile.FieldType.int) ∈ kw_L := kw_in 844 (by decide +kernel) (by decide +kernel)
def y_MD_isWho : MethodName := ⟨"ProfileRightsModel", "isWho", "(I)Z"⟩
theorem kc_MD_isWho : Cond.code y_MD_isWho prog_9_method_22_code 2 (Option.some Jvm.ClassFile.FieldType.boolean) ∈ kw_L := kw_in 848 (by decide +kernel) (by decide +kernel)
def y_MD_entry : MethodName := ⟨"ProfileRightsModel", "entry", "(II)I"⟩
theorem kc_MD_entry : Cond.code y_MD_entry prog_9_method_23_code 4 (Option.some Jvm.ClassFile.FieldType.int) ∈ kw_L := kw_in 852 (by decide +kernel) (by decide +kernel)
def y_MD_condition : MethodName := ⟨"ProfileRightsModel", "condition", "(IIII)I"⟩
theorem kc_MD_condition : Cond.code y_MD_condition prog_9_method_25_code 6 (Option.some Jvm.ClassFile.FieldType.int) ∈ kw_L := kw_in 857 (by decide +kernel) (by decide +kernel)
def y_MD_who : MethodName := ⟨"ProfileRightsModel", "who", "(II)I"⟩
theorem kc_MD_who : Cond.code y_MD_who prog_9_method_26_code 3 (Option.some Jvm.ClassFile.FieldType.int) ∈ kw_L := kw_in 861 (by decide +kernel) (by decide +kernel)
def y_MD_ask : MethodName := ⟨"ProfileRightsModel", "ask", "(I)I"⟩
theorem kc_MD_ask : Cond.code y_MD_ask prog_9_method_27_code 2 (Option.some Jvm.ClassFile.FieldType.int) ∈ kw_L := kw_in 865 (by decide +kernel) (by decide +kernel)
def y_MD_may : MethodName := ⟨"ProfileRightsModel", "may", "(IIIJ)I"⟩
theorem kc_MD_may : Cond.code y_MD_may prog_9_method_36_code 8 (Option.some Jvm.ClassFile.FieldType.int) ∈ kw_L := kw_in 869 (by decide +kernel) (by decide +kernel)
def y_MD_answered : MethodName := ⟨"ProfileRightsModel", "answered", "(IIIIIZ)I"⟩
theorem kc_MD_answered : Cond.code y_MD_answered prog_9_method_35_code 7 (Option.some Jvm.ClassFile.FieldType.int) ∈ kw_L := kw_in 873 (by decide +kernel) (by decide +kernel)
def y_MD_found : MethodName := ⟨"ProfileRightsModel", "found", "(II)I"⟩
theorem kc_MD_found : Cond.code y_MD_found prog_9_method_32_code 6 (Option.some Jvm.ClassFile.FieldType.int) ∈ kw_L := kw_in 877 (by decide +kernel) (by decide +kernel)
def y_MD_fits : MethodName := ⟨"ProfileRightsModel", "fits", "(I)Z"⟩
theorem kc_MD_fits : Cond.code y_MD_fits prog_9_method_28_code 7 (Option.some Jvm.ClassFile.FieldType.boolean) ∈ kw_L := kw_in 881 (by decide +kernel) (by decide +kernel)
def y_MD_isMore : MethodName := ⟨"ProfileRightsModel", "isMore", "(II)Z"⟩
theorem kc_MD_isMore : Cond.code y_MD_isMore prog_9_method_31_code 5 (Option.some Jvm.ClassFile.FieldType.boolean) ∈ kw_L := kw_in 885 (by decide +kernel) (by decide +kernel)
def y_MD_special : MethodName := ⟨"ProfileRightsModel", "special", "(IZ)I"⟩
theorem kc_MD_special : Cond.code y_MD_special prog_9_method_30_code 7 (Option.some Jvm.ClassFile.FieldType.int) ∈ kw_L := kw_in 889 (by decide +kernel) (by decide +kernel)
def y_MD_isWild : MethodName := ⟨"ProfileRightsModel", "isWild", "(I)Z"⟩
theorem kc_MD_isWild : Cond.code y_MD_isWild prog_9_method_29_code 1 (Option.some Jvm.ClassFile.FieldType.boolean) ∈ kw_L := kw_in 892 (by decide +kernel) (by decide +kernel)
def y_MD_levelOf : MethodName := ⟨"ProfileRightsModel", "levelOf", "(IIJ)I"⟩
theorem kc_MD_levelOf : Cond.code y_MD_levelOf prog_9_method_34_code 7 (Option.some Jvm.ClassFile.FieldType.int) ∈ kw_L := kw_in 896 (by decide +kernel) (by decide +kernel)
def y_MD_isOpen : MethodName := ⟨"ProfileRightsModel", "isOpen", "(IIJ)Z"⟩
theorem kc_MD_isOpen : Cond.code y_MD_isOpen prog_9_method_33_code 6 (Option.some Jvm.ClassFile.FieldType.boolean) ∈ kw_L := kw_in 900 (by decide +kernel) (by decide +kernel)
def y_MD_matched : MethodName := ⟨"ProfileRightsModel", "matched", "()I"⟩
theorem kc_MD_matched : Cond.code y_MD_matched prog_9_method_37_code 1 (Option.some Jvm.ClassFile.FieldType.int) ∈ kw_L := kw_in 906 (by decide +kernel) (by decide +kernel)
def y_MD_audit : MethodName := ⟨"ProfileRightsModel", "audit", "(II)I"⟩
theorem kc_MD_audit : Cond.code y_MD_audit prog_9_method_38_code 3 (Option.some Jvm.ClassFile.FieldType.int) ∈ kw_L := kw_in 910 (by decide +kernel) (by decide +kernel)
def y_MD_count : MethodName := ⟨"ProfileRightsModel", "count", "(I)I"⟩
theorem kc_MD_count : Cond.code y_MD_count prog_9_method_39_code 4 (Option.some Jvm.ClassFile.FieldType.int) ∈ kw_L := kw_in 914 (by decide +kernel) (by decide +kernel)
def y_LW_group : MethodName := ⟨"ProfileRightsLaw", "group", "(LProfileRights;I[J)I"⟩
theorem kc_LW_group : Cond.codeWith y_LW_group method_3_code 4 (Option.some Jvm.ClassFile.FieldType.int) [((0 : Nat), (9 : Nat), (12 : Nat), (13 : Nat)), ((0 : Nat), (9 : Nat), (15 : Nat), (15 : Nat))] ∈ kw_L := kw_in 186 (by decide +kernel) (by decide +kernel)
def y_LW_move : MethodName := ⟨"ProfileRightsLaw", "move", "(LProfileRights;II[J)I"⟩
theorem kc_LW_move : Cond.codeWith y_LW_move method_4_code 5 (Option.some Jvm.ClassFile.FieldType.int) [((0 : Nat), (10 : Nat), (13 : Nat), (13 : Nat))] ∈ kw_L := kw_in 360 (by decide +kernel) (by decide +kernel)
def y_LW_user : MethodName := ⟨"ProfileRightsLaw", "user", "(LProfileRights;I[J)I"⟩
theorem kc_LW_user : Cond.codeWith y_LW_user method_5_code 4 (Option.some Jvm.ClassFile.FieldType.int) [((0 : Nat), (9 : Nat), (12 : Nat), (13 : Nat)), ((0 : Nat), (9 : Nat), (15 : Nat), (15 : Nat))] ∈ kw_L := kw_in 370 (by decide +kernel) (by decide +kernel)
def y_LW_terminal : MethodName := ⟨"ProfileRightsLaw", "terminal", "(LProfileRights;II[J)I"⟩
theorem kc_LW_terminal : Cond.codeWith y_LW_terminal method_6_code 5 (Option.some Jvm.ClassFile.FieldType.int) [((0 : Nat), (10 : Nat), (13 : Nat), (13 : Nat))] ∈ kw_L := kw_in 408 (by decide +kernel) (by decide +kernel)
def y_LW_revoke : MethodName := ⟨"ProfileRightsLaw", "revoke", "(LProfileRights;IZ[J)I"⟩
theorem kc_LW_revoke : Cond.codeWith y_LW_revoke method_7_code 5 (Option.some Jvm.ClassFile.FieldType.int) [((0 : Nat), (10 : Nat), (13 : Nat), (13 : Nat))] ∈ kw_L := kw_in 424 (by decide +kernel) (by decide +kernel)
def y_LW_pass : MethodName := ⟨"ProfileRightsLaw", "pass", "(LProfileRights;IZ[J)I"⟩
theorem kc_LW_pass : Cond.codeWith y_LW_pass method_8_code 5 (Option.some Jvm.ClassFile.FieldType.int) [((0 : Nat), (10 : Nat), (13 : Nat), (13 : Nat))] ∈ kw_L := kw_in 431 (by decide +kernel) (by decide +kernel)
def y_LW_mode : MethodName := ⟨"ProfileRightsLaw", "mode", "(LProfileRights;II[J)I"⟩
theorem kc_LW_mode : Cond.codeWith y_LW_mode method_9_code 5 (Option.some Jvm.ClassFile.FieldType.int) [((0 : Nat), (10 : Nat), (13 : Nat), (13 : Nat))] ∈ kw_L := kw_in 438 (by decide +kernel) (by decide +kernel)
def y_LW_profile : MethodName := ⟨"ProfileRightsLaw", "profile", "(LProfileRights;II[J)I"⟩
theorem kc_LW_profile : Cond.codeWith y_LW_profile method_10_code 5 (Option.some Jvm.ClassFile.FieldType.int) [((0 : Nat), (10 : Nat), (13 : Nat), (13 : Nat)), ((0 : Nat), (10 : Nat), (17 : Nat), (15 : Nat))] ∈ kw_L := kw_in 450 (by decide +kernel) (by decide +kernel)
def y_LW_name : MethodName := ⟨"ProfileRightsLaw", "name", "(LProfileRights;II[J)I"⟩
theorem kc_LW_name : Cond.codeWith y_LW_name method_11_code 5 (Option.some Jvm.ClassFile.FieldType.int) [((0 : Nat), (10 : Nat), (13 : Nat), (13 : Nat)), ((0 : Nat), (10 : Nat), (17 : Nat), (15 : Nat))] ∈ kw_L := kw_in 492 (by decide +kernel) (by decide +kernel)
def y_LW_universal : MethodName := ⟨"ProfileRightsLaw", "universal", "(LProfileRights;III[J)I"⟩
theorem kc_LW_universal : Cond.codeWith y_LW_universal method_12_code 6 (Option.some Jvm.ClassFile.FieldType.int) [((0 : Nat), (12 : Nat), (15 : Nat), (13 : Nat))] ∈ kw_L := kw_in 507 (by decide +kernel) (by decide +kernel)
def y_LW_permit : MethodName := ⟨"ProfileRightsLaw", "permit", "(LProfileRights;III[J)I"⟩
theorem kc_LW_permit : Cond.codeWith y_LW_permit method_13_code 6 (Option.some Jvm.ClassFile.FieldType.int) [((0 : Nat), (12 : Nat), (15 : Nat), (13 : Nat)), ((0 : Nat), (12 : Nat), (19 : Nat), (15 : Nat))] ∈ kw_L := kw_in 519 (by decide +kernel) (by decide +kernel)
def y_LW_condition : MethodName := ⟨"ProfileRightsLaw", "condition", "(LProfileRights;IIII[J)I"⟩
theorem kc_LW_condition : Cond.codeWith y_LW_condition method_14_code 7 (Option.some Jvm.ClassFile.FieldType.int) [((0 : Nat), (14 : Nat), (17 : Nat), (13 : Nat))] ∈ kw_L := kw_in 581 (by decide +kernel) (by decide +kernel)
def y_LW_may : MethodName := ⟨"ProfileRightsLaw", "may", "(LProfileRights;IIIJ[J)I"⟩
theorem kc_LW_may : Cond.codeWith y_LW_may method_15_code 8 (Option.some Jvm.ClassFile.FieldType.int) [((0 : Nat), (14 : Nat), (17 : Nat), (13 : Nat))] ∈ kw_L := kw_in 589 (by decide +kernel) (by decide +kernel)
def y_LW_who : MethodName := ⟨"ProfileRightsLaw", "who", "(LProfileRights;II[J)I"⟩
theorem kc_LW_who : Cond.codeWith y_LW_who method_16_code 5 (Option.some Jvm.ClassFile.FieldType.int) [((0 : Nat), (10 : Nat), (13 : Nat), (13 : Nat))] ∈ kw_L := kw_in 648 (by decide +kernel) (by decide +kernel)
def y_LW_acts : MethodName := ⟨"ProfileRightsLaw", "acts", "(LProfileRights;II[J)I"⟩
theorem kc_LW_acts : Cond.codeWith y_LW_acts method_17_code 5 (Option.some Jvm.ClassFile.FieldType.int) [((0 : Nat), (17 : Nat), (20 : Nat), (13 : Nat))] ∈ kw_L := kw_in 655 (by decide +kernel) (by decide +kernel)
def y_LW_surrogate : MethodName := ⟨"ProfileRightsLaw", "surrogate", "(LProfileRights;IIZ[J)I"⟩
theorem kc_LW_surrogate : Cond.codeWith y_LW_surrogate method_18_code 6 (Option.some Jvm.ClassFile.FieldType.int) [((0 : Nat), (12 : Nat), (15 : Nat), (13 : Nat))] ∈ kw_L := kw_in 666 (by decide +kernel) (by decide +kernel)
theorem ki_LW : Cond.initialized "ProfileRightsLaw" ∈ kw_L := kw_in 0 (by decide +kernel) (by decide +kernel)
theorem ki_PR : Cond.initialized "ProfileRights" ∈ kw_L := kw_in 1 (by decide +kernel) (by decide +kernel)
theorem ki_BC : Cond.initialized "java/util/AbstractCollection" ∈ kw_L := kw_in 2 (by decide +kernel) (by decide +kernel)
theorem ki_BL : Cond.initialized "java/util/AbstractList" ∈ kw_L := kw_in 3 (by decide +kernel) (by decide +kernel)
theorem ki_AL : Cond.initialized "java/util/ArrayList" ∈ kw_L := kw_in 4 (by decide +kernel) (by decide +kernel)
theorem ki_NM : Cond.initialized "ProfileRights$Name" ∈ kw_L := kw_in 5 (by decide +kernel) (by decide +kernel)
theorem ki_TR : Cond.initialized "ProfileRights$Trail" ∈ kw_L := kw_in 6 (by decide +kernel) (by decide +kernel)
theorem ki_MD : Cond.initialized "ProfileRightsModel" ∈ kw_L := kw_in 7 (by decide +kernel) (by decide +kernel)
theorem ki_TH : Cond.initialized "java/lang/Throwable" ∈ kw_L := kw_in 8 (by decide +kernel) (by decide +kernel)
theorem ki_EX : Cond.initialized "java/lang/Exception" ∈ kw_L := kw_in 9 (by decide +kernel) (by decide +kernel)
theorem ki_RE : Cond.initialized "java/lang/RuntimeException" ∈ kw_L := kw_in 10 (by decide +kernel) (by decide +kernel)
theorem ki_IA : Cond.initialized "java/lang/IllegalArgumentException" ∈ kw_L := kw_in 11 (by decide +kernel) (by decide +kernel)
theorem ki_OB : Cond.initialized "java/util/Objects" ∈ kw_L := kw_in 12 (by decide +kernel) (by decide +kernel)
theorem ki_PC : Cond.initialized "jdk/internal/util/Preconditions" ∈ kw_L := kw_in 13 (by decide +kernel) (by decide +kernel)
theorem ki_IS : Cond.initialized "java/lang/IllegalStateException" ∈ kw_L := kw_in 14 (by decide +kernel) (by decide +kernel)
theorem ki_GR : Cond.initialized "ProfileRights$Group" ∈ kw_L := kw_in 15 (by decide +kernel) (by decide +kernel)
theorem ki_AS : Cond.initialized "jdk/internal/util/ArraysSupport" ∈ kw_L := kw_in 16 (by decide +kernel) (by decide +kernel)
theorem ki_MA : Cond.initialized "java/lang/Math" ∈ kw_L := kw_in 17 (by decide +kernel) (by decide +kernel)
theorem ki_AR : Cond.initialized "java/util/Arrays" ∈ kw_L := kw_in 18 (by decide +kernel) (by decide +kernel)
theorem ki_SY : Cond.initialized "java/lang/System" ∈ kw_L := kw_in 19 (by decide +kernel) (by decide +kernel)
theorem ki_US : Cond.initialized "ProfileRights$User" ∈ kw_L := kw_in 20 (by decide +kernel) (by decide +kernel)
theorem ki_PF : Cond.initialized "ProfileRights$Profile" ∈ kw_L := kw_in 21 (by decide +kernel) (by decide +kernel)
theorem ki_EN : Cond.initialized "ProfileRights$Entry" ∈ kw_L := kw_in 22 (by decide +kernel) (by decide +kernel)
theorem kn_PR : Cond.instantiable "ProfileRights" 7 ∈ kw_L := kw_in 24 (by decide +kernel) (by decide +kernel)
theorem kn_AL : Cond.instantiable "java/util/ArrayList" 3 ∈ kw_L := kw_in 32 (by decide +kernel) (by decide +kernel)
theorem kn_NM : Cond.instantiable "ProfileRights$Name" 4 ∈ kw_L := kw_in 58 (by decide +kernel) (by decide +kernel)
theorem kn_TR : Cond.instantiable "ProfileRights$Trail" 3 ∈ kw_L := kw_in 79 (by decide +kernel) (by decide +kernel)
theorem kn_IA : Cond.instantiable "java/lang/IllegalArgumentException" 6 ∈ kw_L := kw_in 202 (by decide +kernel) (by decide +kernel)
theorem kn_TH : Cond.instantiable "java/lang/Throwable" 6 ∈ kw_L := kw_in 239 (by decide +kernel) (by decide +kernel)
theorem kn_IS : Cond.instantiable "java/lang/IllegalStateException" 6 ∈ kw_L := kw_in 270 (by decide +kernel) (by decide +kernel)
theorem kn_GR : Cond.instantiable "ProfileRights$Group" 2 ∈ kw_L := kw_in 285 (by decide +kernel) (by decide +kernel)
theorem kn_US : Cond.instantiable "ProfileRights$User" 6 ∈ kw_L := kw_in 376 (by decide +kernel) (by decide +kernel)
theorem kn_PF : Cond.instantiable "ProfileRights$Profile" 6 ∈ kw_L := kw_in 456 (by decide +kernel) (by decide +kernel)
theorem kn_EN : Cond.instantiable "ProfileRights$Entry" 4 ∈ kw_L := kw_in 554 (by decide +kernel) (by decide +kernel)
theorem kn_MD : Cond.instantiable "ProfileRightsModel" 27 ∈ kw_L := kw_in 676 (by decide +kernel) (by decide +kernel)
end
section
/-! THE WALK'S OWN WORDS: a functional heap, one judgement for all states of a walk, pure runs by a step function. -/
/-- what is known of each address -/
abbrev hp_T : Type := Nat → Option va_E
def hp_up (h : hp_T) (a : Nat) (x : va_E) : hp_T := fun q => if q = a then some x else h q
theorem hp_us {h : hp_T} {a : Nat} {x : va_E} : hp_up h a x a = some x := if_pos rfl
theorem hp_un {h : hp_T} {a q : Nat} {x : va_E} (n : q ≠ a) : hp_up h a x q = h q := if_neg n
/-- the heap holds what h says, all of it behind the base heap -/
def hp_P (D : va_G) (HB : Heap) (h : hp_T) (H : Heap) : Prop := ∀ (a : Nat) (x : va_E), h a = some x → HB.size ≤ a ∧ va_at D vwCl (a, x) H
def hp_A (HB : Heap) : Nat → Prop := fun q => HB.size ≤ q
theorem hp_P.lt {D : va_G} {HB : Heap} {h : hp_T} {H : Heap} (hP : hp_P D HB h H) {a : Nat} {x : va_E} (e : h a = some x) : a < H.size := (hP a x e).2.lt
theorem hp_P.fresh {D : va_G} {HB : Heap} {h : hp_T} {H : Heap} (hP : hp_P D HB h H) {a : Nat} (e : H.size ≤ a) : h a = none := by
  cases hx : h a with
  | none => rfl
  | some x => exact absurd (hP.lt hx) (Nat.not_lt.mpr e)
theorem hp_P.one {D : va_G} {HB : Heap} {h : hp_T} {H : Heap} (hP : hp_P D HB h H) {a : Nat} {x : va_E} (e : h a = some x) : va_P D vwCl [(a, x)] H := by
  intro k q hk
  match k, hk with
  | 0, hk => cases hk; exact (hP a x e).2
  | k + 1, hk => simp at hk
/-- the functional heap as a list of cells -/
def hp_L (h : hp_T) (n : Nat) : va_W := (List.range n).filterMap (fun a => (h a).map (fun x => (a, x)))
theorem hp_L_mem {h : hp_T} {n : Nat} {q : Nat × va_E} (hq : q ∈ hp_L h n) : h q.1 = some q.2 := by
  obtain ⟨a, -, ha⟩ := List.mem_filterMap.mp hq
  cases hx : h a with
  | none => rw [hx] at ha; cases ha
  | some x => rw [hx] at ha; cases ha; exact hx
theorem hp_L_in {h : hp_T} {n a : Nat} {x : va_E} (ha : a < n) (e : h a = some x) : (a, x) ∈ hp_L h n :=
  List.mem_filterMap.mpr ⟨a, List.mem_range.mpr ha, by rw [e]; rfl⟩
theorem hp_L_lt (h : hp_T) (n : Nat) : (hp_L h n).Pairwise (fun p q => p.1 < q.1) := by
  refine List.Pairwise.filterMap _ ?_ (List.pairwise_lt_range (n := n))
  intro a b hab p hp q hq
  cases hx : h a with
  | none => rw [hx] at hp; cases hp
  | some x =>
    cases hy : h b with
    | none => rw [hy] at hq; cases hq
    | some y => rw [hx] at hp; rw [hy] at hq; cases hp; cases hq; exact hab
theorem hp_P.P {D : va_G} {HB : Heap} {h : hp_T} {H : Heap} (hP : hp_P D HB h H) : va_P D vwCl (hp_L h H.size) H := fun k q hk => (hP q.1 q.2 (hp_L_mem (List.mem_of_getElem? hk))).2
theorem hp_P.D {D : va_G} {HB : Heap} {h : hp_T} {H : Heap} (hP : hp_P D HB h H) : va_D (hp_A HB) (hp_L h H.size) := by
  refine ⟨fun i j p q hi hj e => ?_, fun k q hk => (hP q.1 q.2 (hp_L_mem (List.mem_of_getElem? hk))).1⟩
  have hw := hp_L_lt h H.size
  rw [List.pairwise_iff_getElem] at hw
  obtain ⟨hi1, hi2⟩ := List.getElem?_eq_some_iff.mp hi
  obtain ⟨hj1, hj2⟩ := List.getElem?_eq_some_iff.mp hj
  rcases Nat.lt_trichotomy i j with z | z | z
  · have := hw i j hi1 hj1 z
    rw [hi2, hj2, e] at this
    exact absurd this (Nat.lt_irrefl _)
  · exact z
  · have := hw j i hj1 hi1 z
    rw [hi2, hj2, e] at this
    exact absurd this (Nat.lt_irrefl _)
theorem hp_P.at {D : va_G} {HB : Heap} {h : hp_T} {H : Heap} (hP : hp_P D HB h H) {a : Nat} {x : va_E} (e : h a = some x) : ∃ k : Nat, (hp_L h H.size)[k]? = some (a, x) :=
  List.getElem?_of_mem (hp_L_in (hP.lt e) e)
/-- behind a write -/
theorem hp_P.set {D : va_G} {HB : Heap} {h : hp_T} {H H1 : Heap} (hP : hp_P D HB h H) {a k : Nat} {x x' : va_E} (hk : (hp_L h H.size)[k]? = some (a, x)) (h1 : va_P D vwCl ((hp_L h H.size).set k (a, x')) H1) : hp_P D HB (hp_up h a x') H1 := by
  intro q y hy
  have hx : h a = some x := hp_L_mem (q := (a, x)) (List.mem_of_getElem? hk)
  have hlt : k < (hp_L h H.size).length := (List.getElem?_eq_some_iff.mp hk).1
  by_cases hq : q = a
  · subst hq
    rw [hp_us] at hy
    cases hy
    exact ⟨(hP q x hx).1, h1 k (q, x') (by rw [List.getElem?_set_self hlt])⟩
  · rw [hp_un hq] at hy
    obtain ⟨j, hj⟩ := hP.at hy
    have hjk : k ≠ j := by
      intro z
      subst z
      rw [hk] at hj
      cases hj
      exact hq rfl
    exact ⟨(hP q y hy).1, h1 j (q, y) (by rw [List.getElem?_set_ne hjk]; exact hj)⟩
/-- behind a new cell -/
theorem hp_P.new {D : va_G} {HB : Heap} {h : hp_T} {H H1 : Heap} (hP : hp_P D HB h H) {q : Nat} {x : va_E} (h1 : va_P D vwCl (hp_L h H.size ++ [(q, x)]) H1) (hD : va_D (hp_A HB) (hp_L h H.size ++ [(q, x)])) : hp_P D HB (hp_up h q x) H1 ∧ h q = none := by
  have hlast : (hp_L h H.size ++ [(q, x)])[(hp_L h H.size).length]? = some (q, x) := by simp
  have hn : h q = none := by
    cases hx : h q with
    | none => rfl
    | some y =>
      obtain ⟨j, hj⟩ := hP.at hx
      have hlt := (List.getElem?_eq_some_iff.mp hj).1
      have := hD.1 j (hp_L h H.size).length (q, y) (q, x) (by rw [List.getElem?_append_left hlt]; exact hj) hlast rfl
      omega
  refine ⟨fun a y hy => ?_, hn⟩
  by_cases ha : a = q
  · subst ha
    rw [hp_us] at hy
    cases hy
    exact ⟨hD.2 _ _ hlast, h1 _ _ hlast⟩
  · rw [hp_un ha] at hy
    obtain ⟨j, hj⟩ := hP.at hy
    have hlt := (List.getElem?_eq_some_iff.mp hj).1
    exact ⟨(hP a y hy).1, h1 j (a, y) (by rw [List.getElem?_append_left hlt]; exact hj)⟩
/-- what is said of the statics and the constants, at the base heap -/
def st_L : List (String × Nat × String) := [("ProfileRights", 225, "no such group"), ("ProfileRights", 54, "no more groups"), ("ProfileRights", 79, "no more users"), ("ProfileRights", 227, "no such user"), ("ProfileRights", 233, "no such terminal"), ("ProfileRights", 231, "no such class"), ("ProfileRights", 107, "no such mode"), ("ProfileRights", 110, "no more profiles"), ("ProfileRights", 229, "no such profile"), ("ProfileRights", 128, "no such character"), ("ProfileRights", 134, "the name is full"), ("ProfileRights", 235, "no such level"), ("ProfileRights", 145, "no such marks"), ("ProfileRights", 169, "the list is full"), ("ProfileRights", 183, "a time below 0")]
def ev_S (D : va_G) (HB : Heap) (U : State) : Prop :=
  vx_Zq Bundle.tN "UNASSIGNED_STACK" Bundle.steD (hp_A HB) U HB ∧ vx_Zq Bundle.tN "SUPPRESSED_SENTINEL" Bundle.listD (hp_A HB) U HB ∧ (∀ q ∈ st_L, ∃ a : Nat, vk_R q.1 q.2.1 q.2.2 a U) ∧
  va_Nc "java/lang/IllegalStateException" "java/lang/IllegalArgumentException" U ∧
  va_Z "java/util/ArrayList" "DEFAULTCAPACITY_EMPTY_ELEMENTDATA" "[Ljava/lang/Object;" (.ref (D.2 200 0)) (hp_A HB) U HB ∧ va_T (.object "java/lang/Object") (D.2 200 0) 0 (fun _ => .null) (hp_A HB) U HB ∧
  va_AO "java/lang/Object" U ∧ va_Mi "[Ljava/lang/Object;" (D.2 201 0) U
theorem ev_S.moved {D : va_G} {HB : Heap} {s U : State} (h : ev_S D HB s) (hW : s.WarmedH U.vm) : ev_S D HB U := by
  obtain ⟨h1, h2, h3, h4, h5, h6, h7, h8⟩ := h
  exact ⟨h1.moved hW.alike, h2.moved hW.alike, fun q hq => (h3 q hq).imp fun a ha => ha.warm hW, h4.moved hW.alike, h5.moved hW.alike, h6.moved hW.alike, h7.moved hW.alike, h8.moved hW.alike⟩
/-! the context of a walk: what holds all along -/
def wk_C (p : Program) (s : State) (m : MethodId) (args : Array Value) (meth : Method) (c : Code) (cc : ByteArray) (own : String) (nL : Nat) (ret : Option FieldType) (hh : List (Nat × Nat × Nat × Nat)) (D : va_G) (HB : Heap) : Prop :=
  p.tables.exec = Jvm.exec ∧ c.code = cc ∧ c.maxLocals = nL ∧ s.vm.findClass own = some m.cls ∧ (∀ w ∈ kw_L, w.before args s = true) ∧ meth.sig.returnType = ret ∧ meth.locks = false ∧ va_K D vwCl (ty_L D) s ∧
  c.exceptionTable.toList.map (fun x => (x.startPc, x.endPc, x.handlerPc, x.catchType)) = hh ∧ va_S (hp_A HB) HB s.heap [] ∧ ev_S D HB s
/-- THE JUDGEMENT: from any heap that holds h, any locals that hold lv: the machine comes to a state with Q -/
def Wk (p : Program) (l : Launch) (e : Env) (R : Room) (s : State) (m : MethodId) (args : Array Value) (below : List Frame) (meth : Method) (c : Code) (nL : Nat) (D : va_G) (HB : Heap) (Q : State → Prop) (h : hp_T) (cells slots pc : Nat) (lv : List (Nat × Value)) (st : List Value) : Prop :=
  ∀ (H : Heap) (locs : List Loc) (ls : Array Slot), hp_P D HB h H → va_S (hp_A HB) HB H locs → lv_has ls nL lv → W p l e R s m args below meth c H locs cells slots Q (F0 m pc ls st)
/-! pure instructions: a step of locals and stack -/
def px_at (lv : List (Nat × Value)) (i : Nat) : Option Value := (lv.find? (fun q => q.1 == i)).map (·.2)
theorem px_at_has {lv : List (Nat × Value)} {i : Nat} {v : Value} (h : px_at lv i = some v) : ∃ j : Nat, lv[j]? = some (i, v) := by
  unfold px_at at h
  cases hf : lv.find? (fun q => q.1 == i) with
  | none => rw [hf] at h; cases h
  | some q =>
    rw [hf] at h
    cases h
    have h1 := List.find?_some hf
    have h2 := List.mem_of_find?_eq_some hf
    obtain ⟨j, hj⟩ := List.getElem?_of_mem h2
    have : q.1 = i := by simpa using h1
    exact ⟨j, by rw [hj, ← this]⟩
def px_s1 (lv : List (Nat × Value)) (i : Nat) (v : Value) : List (Nat × Value) := (i, v) :: lv.filter (fun q => !(q.1 == i) && !(q.1 + 1 == i && q.2.category == 2))
def px_s2 (lv : List (Nat × Value)) (i : Nat) (v : Value) : List (Nat × Value) := (i, v) :: lv.filter (fun q => !(q.1 == i) && (!(q.1 == i + 1) && !(q.1 + 1 == i && q.2.category == 2)))
abbrev px_S : Type := List (Nat × Value) × List Value
def px_ii (f : Int32 → Int32 → Int32) (lv : List (Nat × Value)) (st : List Value) : Option px_S := match st with
  | .int y :: .int x :: r => some (lv, .int (f x y) :: r)
  | _ => none
def px_ll (f : Int64 → Int64 → Int64) (lv : List (Nat × Value)) (st : List Value) : Option px_S := match st with
  | .long y :: .long x :: r => some (lv, .long (f x y) :: r)
  | _ => none
def px_li (f : Int64 → Int32 → Int64) (lv : List (Nat × Value)) (st : List Value) : Option px_S := match st with
  | .int y :: .long x :: r => some (lv, .long (f x y) :: r)
  | _ => none
def px_i (f : Int32 → Value) (lv : List (Nat × Value)) (st : List Value) : Option px_S := match st with
  | .int x :: r => some (lv, f x :: r)
  | _ => none
def px_l (f : Int64 → Value) (lv : List (Nat × Value)) (st : List Value) : Option px_S := match st with
  | .long x :: r => some (lv, f x :: r)
  | _ => none
def px_ld (ok : Value → Bool) (i : Nat) (lv : List (Nat × Value)) (st : List Value) : Option px_S := match px_at lv i with
  | some v => if ok v = true then some (lv, v :: st) else none
  | none => none
def px_sti (nL i : Nat) (lv : List (Nat × Value)) (st : List Value) : Option px_S := match st with
  | .int x :: r => if i < nL then some (px_s1 lv i (.int x), r) else none
  | _ => none
def px_stl (nL i : Nat) (lv : List (Nat × Value)) (st : List Value) : Option px_S := match st with
  | .long x :: r => if i + 1 < nL then some (px_s2 lv i (.long x), r) else none
  | _ => none
def px_sta (nL i : Nat) (lv : List (Nat × Value)) (st : List Value) : Option px_S := match st with
  | .ref x :: r => if i < nL then some (px_s1 lv i (.ref x), r) else none
  | .null :: r => if i < nL then some (px_s1 lv i .null, r) else none
  | _ => none
def px_inc (nL i : Nat) (n : Int) (lv : List (Nat × Value)) (st : List Value) : Option px_S := match px_at lv i with
  | some (.int x) => if i < nL then some (px_s1 lv i (.int (x + Int32.ofInt n)), st) else none
  | _ => none
def px_dup (lv : List (Nat × Value)) (st : List Value) : Option px_S := match st with
  | v :: r => if v.category = 1 then some (lv, v :: v :: r) else none
  | _ => none
def px_pop (lv : List (Nat × Value)) (st : List Value) : Option px_S := match st with
  | v :: r => if v.category = 1 then some (lv, r) else none
  | _ => none
def px_dx1 (lv : List (Nat × Value)) (st : List Value) : Option px_S := match st with
  | v :: w :: r => if v.category = 1 ∧ w.category = 1 then some (lv, v :: w :: v :: r) else none
  | _ => none
def px_dup2 (lv : List (Nat × Value)) (st : List Value) : Option px_S := match st with
  | v :: w :: r => if v.category = 1 ∧ w.category = 1 then some (lv, v :: w :: v :: w :: r) else none
  | _ => none
def px_dx2 (lv : List (Nat × Value)) (st : List Value) : Option px_S := match st with
  | v :: w :: u :: r => if v.category = 1 ∧ w.category = 1 ∧ u.category = 1 then some (lv, v :: w :: u :: v :: r) else none
  | _ => none
def px_isI (v : Value) : Bool := match v with | .int _ => true | _ => false
def px_isL (v : Value) : Bool := match v with | .long _ => true | _ => false
def px_isA (v : Value) : Bool := match v with | .ref _ => true | .null => true | _ => false
theorem px_ii_spec {f : Int32 → Int32 → Int32} {lv lv2 : List (Nat × Value)} {st st2 : List Value} (he : px_ii f lv st = some (lv2, st2)) : ∃ (x y : Int32) (r : List Value), st = .int y :: .int x :: r ∧ lv2 = lv ∧ st2 = .int (f x y) :: r := by
  unfold px_ii at he
  split at he
  · cases he; exact ⟨_, _, _, rfl, rfl, rfl⟩
  · cases he
theorem px_ll_spec {f : Int64 → Int64 → Int64} {lv lv2 : List (Nat × Value)} {st st2 : List Value} (he : px_ll f lv st = some (lv2, st2)) : ∃ (x y : Int64) (r : List Value), st = .long y :: .long x :: r ∧ lv2 = lv ∧ st2 = .long (f x y) :: r := by
  unfold px_ll at he
  split at he
  · cases he; exact ⟨_, _, _, rfl, rfl, rfl⟩
  · cases he
theorem px_li_spec {f : Int64 → Int32 → Int64} {lv lv2 : List (Nat × Value)} {st st2 : List Value} (he : px_li f lv st = some (lv2, st2)) : ∃ (x : Int64) (y : Int32) (r : List Value), st = .int y :: .long x :: r ∧ lv2 = lv ∧ st2 = .long (f x y) :: r := by
  unfold px_li at he
  split at he
  · cases he; exact ⟨_, _, _, rfl, rfl, rfl⟩
  · cases he
theorem px_i_spec {f : Int32 → Value} {lv lv2 : List (Nat × Value)} {st st2 : List Value} (he : px_i f lv st = some (lv2, st2)) : ∃ (x : Int32) (r : List Value), st = .int x :: r ∧ lv2 = lv ∧ st2 = f x :: r := by
  unfold px_i at he
  split at he
  · cases he; exact ⟨_, _, rfl, rfl, rfl⟩
  · cases he
theorem px_l_spec {f : Int64 → Value} {lv lv2 : List (Nat × Value)} {st st2 : List Value} (he : px_l f lv st = some (lv2, st2)) : ∃ (x : Int64) (r : List Value), st = .long x :: r ∧ lv2 = lv ∧ st2 = f x :: r := by
  unfold px_l at he
  split at he
  · cases he; exact ⟨_, _, rfl, rfl, rfl⟩
  · cases he
theorem px_ld_spec {ok : Value → Bool} {i : Nat} {lv lv2 : List (Nat × Value)} {st st2 : List Value} (he : px_ld ok i lv st = some (lv2, st2)) : ∃ (v : Value) (j : Nat), lv[j]? = some (i, v) ∧ ok v = true ∧ lv2 = lv ∧ st2 = v :: st := by
  unfold px_ld at he
  split at he
  · rename_i v hv
    split at he
    · rename_i hok
      cases he
      obtain ⟨j, hj⟩ := px_at_has hv
      exact ⟨v, j, hj, hok, rfl, rfl⟩
    · cases he
  · cases he
theorem px_sti_spec {nL i : Nat} {lv lv2 : List (Nat × Value)} {st st2 : List Value} (he : px_sti nL i lv st = some (lv2, st2)) : ∃ (x : Int32) (r : List Value), i < nL ∧ st = .int x :: r ∧ lv2 = px_s1 lv i (.int x) ∧ st2 = r := by
  unfold px_sti at he
  split at he
  · split at he
    · cases he; exact ⟨_, _, by assumption, rfl, rfl, rfl⟩
    · cases he
  · cases he
theorem px_stl_spec {nL i : Nat} {lv lv2 : List (Nat × Value)} {st st2 : List Value} (he : px_stl nL i lv st = some (lv2, st2)) : ∃ (x : Int64) (r : List Value), i + 1 < nL ∧ st = .long x :: r ∧ lv2 = px_s2 lv i (.long x) ∧ st2 = r := by
  unfold px_stl at he
  split at he
  · split at he
    · cases he; exact ⟨_, _, by assumption, rfl, rfl, rfl⟩
    · cases he
  · cases he
theorem px_sta_spec {nL i : Nat} {lv lv2 : List (Nat × Value)} {st st2 : List Value} (he : px_sta nL i lv st = some (lv2, st2)) : (∃ (x : Nat) (r : List Value), i < nL ∧ st = .ref x :: r ∧ lv2 = px_s1 lv i (.ref x) ∧ st2 = r) ∨ (∃ r : List Value, i < nL ∧ st = .null :: r ∧ lv2 = px_s1 lv i .null ∧ st2 = r) := by
  unfold px_sta at he
  split at he
  · split at he
    · cases he; exact Or.inl ⟨_, _, by assumption, rfl, rfl, rfl⟩
    · cases he
  · split at he
    · cases he; exact Or.inr ⟨_, by assumption, rfl, rfl, rfl⟩
    · cases he
  · cases he
theorem px_inc_spec {nL i : Nat} {n : Int} {lv lv2 : List (Nat × Value)} {st st2 : List Value} (he : px_inc nL i n lv st = some (lv2, st2)) : ∃ (x : Int32) (j : Nat), lv[j]? = some (i, .int x) ∧ i < nL ∧ lv2 = px_s1 lv i (.int (x + Int32.ofInt n)) ∧ st2 = st := by
  unfold px_inc at he
  split at he
  · rename_i x hx
    split at he
    · cases he
      obtain ⟨j, hj⟩ := px_at_has hx
      exact ⟨x, j, hj, by assumption, rfl, rfl⟩
    · cases he
  · cases he
theorem px_dup_spec {lv lv2 : List (Nat × Value)} {st st2 : List Value} (he : px_dup lv st = some (lv2, st2)) : ∃ (v : Value) (r : List Value), v.category = 1 ∧ st = v :: r ∧ lv2 = lv ∧ st2 = v :: v :: r := by
  unfold px_dup at he
  split at he
  · split at he
    · cases he; exact ⟨_, _, by assumption, rfl, rfl, rfl⟩
    · cases he
  · cases he
theorem px_pop_spec {lv lv2 : List (Nat × Value)} {st st2 : List Value} (he : px_pop lv st = some (lv2, st2)) : ∃ (v : Value) (r : List Value), v.category = 1 ∧ st = v :: r ∧ lv2 = lv ∧ st2 = r := by
  unfold px_pop at he
  split at he
  · split at he
    · cases he; exact ⟨_, _, by assumption, rfl, rfl, rfl⟩
    · cases he
  · cases he
theorem px_dx1_spec {lv lv2 : List (Nat × Value)} {st st2 : List Value} (he : px_dx1 lv st = some (lv2, st2)) : ∃ (v w : Value) (r : List Value), v.category = 1 ∧ w.category = 1 ∧ st = v :: w :: r ∧ lv2 = lv ∧ st2 = v :: w :: v :: r := by
  unfold px_dx1 at he
  split at he
  · split at he
    · rename_i hc; cases he; exact ⟨_, _, _, hc.1, hc.2, rfl, rfl, rfl⟩
    · cases he
  · cases he
theorem px_dup2_spec {lv lv2 : List (Nat × Value)} {st st2 : List Value} (he : px_dup2 lv st = some (lv2, st2)) : ∃ (v w : Value) (r : List Value), v.category = 1 ∧ w.category = 1 ∧ st = v :: w :: r ∧ lv2 = lv ∧ st2 = v :: w :: v :: w :: r := by
  unfold px_dup2 at he
  split at he
  · split at he
    · rename_i hc; cases he; exact ⟨_, _, _, hc.1, hc.2, rfl, rfl, rfl⟩
    · cases he
  · cases he
theorem px_dx2_spec {lv lv2 : List (Nat × Value)} {st st2 : List Value} (he : px_dx2 lv st = some (lv2, st2)) : ∃ (v w u : Value) (r : List Value), v.category = 1 ∧ w.category = 1 ∧ u.category = 1 ∧ st = v :: w :: u :: r ∧ lv2 = lv ∧ st2 = v :: w :: u :: v :: r := by
  unfold px_dx2 at he
  split at he
  · split at he
    · rename_i hc; cases he; exact ⟨_, _, _, _, hc.1, hc.2.1, hc.2.2, rfl, rfl, rfl⟩
    · cases he
  · cases he
def px_one (nL : Nat) (i : Instr) (lv : List (Nat × Value)) (st : List Value) : Option px_S := match i with
  | .iconst n => some (lv, .int (Int32.ofInt n) :: st)
  | .bipush n => some (lv, .int (Int8.ofInt n).toInt32 :: st)
  | .sipush n => some (lv, .int (Int16.ofInt n).toInt32 :: st)
  | .lconst n => some (lv, .long (Int64.ofNat n) :: st)
  | .aconst_null => some (lv, .null :: st)
  | .iadd => px_ii (fun x y => x + y) lv st
  | .isub => px_ii (fun x y => x - y) lv st
  | .imul => px_ii (fun x y => x * y) lv st
  | .iand => px_ii (fun x y => x &&& y) lv st
  | .ior => px_ii (fun x y => x ||| y) lv st
  | .ixor => px_ii (fun x y => x ^^^ y) lv st
  | .ishl => px_ii (fun x y => x <<< (y &&& 31)) lv st
  | .ishr => px_ii (fun x y => x >>> (y &&& 31)) lv st
  | .ladd => px_ll (fun x y => x + y) lv st
  | .lsub => px_ll (fun x y => x - y) lv st
  | .lmul => px_ll (fun x y => x * y) lv st
  | .land => px_ll (fun x y => x &&& y) lv st
  | .lor => px_ll (fun x y => x ||| y) lv st
  | .lxor => px_ll (fun x y => x ^^^ y) lv st
  | .lshl => px_li (fun x y => x <<< (y.toInt64 &&& 63)) lv st
  | .lshr => px_li (fun x y => x >>> (y.toInt64 &&& 63)) lv st
  | .ineg => px_i (fun x => .int (-x)) lv st
  | .i2l => px_i (fun x => .long x.toInt64) lv st
  | .l2i => px_l (fun x => .int x.toInt32) lv st
  | .iload_n i => px_ld px_isI (i : Nat) lv st
  | .iload i => px_ld px_isI i lv st
  | .lload_n i => px_ld px_isL (i : Nat) lv st
  | .lload i => px_ld px_isL i lv st
  | .aload_n i => px_ld px_isA (i : Nat) lv st
  | .aload i => px_ld px_isA i lv st
  | .istore_n i => px_sti nL (i : Nat) lv st
  | .istore i => px_sti nL i lv st
  | .lstore_n i => px_stl nL (i : Nat) lv st
  | .lstore i => px_stl nL i lv st
  | .astore_n i => px_sta nL (i : Nat) lv st
  | .astore i => px_sta nL i lv st
  | .iinc i n => px_inc nL i n lv st
  | .dup => px_dup lv st
  | .pop => px_pop lv st
  | .dup_x1 => px_dx1 lv st
  | .dup2 => px_dup2 lv st
  | .dup_x2 => px_dx2 lv st
  | _ => none
def px_len (i : Instr) : Nat := match i with
  | .bipush _ => 2
  | .sipush _ => 3
  | .iload _ => 2
  | .lload _ => 2
  | .aload _ => 2
  | .istore _ => 2
  | .lstore _ => 2
  | .astore _ => 2
  | .iinc _ _ => 3
  | _ => 1
section PX
variable {p : Program} {l : Launch} {e : Env} {R : Room} {s : State} {m : MethodId} {args : Array Value} {below : List Frame} {meth : Method} {c : Code} {Q : State → Prop}
variable {cc : ByteArray} {own : String} {nL : Nat} {ret : Option FieldType} {hh : List (Nat × Nat × Nat × Nat)} {D : va_G} {HB : Heap}
variable {h : hp_T} {cells slots pc : Nat} {lv : List (Nat × Value)} {st rest : List Value}
set_option maxHeartbeats 4000000 in
theorem px_sound (C : wk_C p s m args meth c cc own nL ret hh D HB) {i : Instr} {lv2 : List (Nat × Value)} {st2 : List Value} (hd : decode cc pc = .ok (i, px_len i)) (he : px_one nL i lv st = some (lv2, st2))
    (k : Wk p l e R s m args below meth c nL D HB Q h cells slots (pc + px_len i) lv2 st2) : Wk p l e R s m args below meth c nL D HB Q h cells slots pc lv st := by
  unfold px_one at he
  split at he
  · cases he; exact fun H locs ls hP hS hl => lv_iconst C.1 C.2.1 hd rfl (k H locs ls hP hS hl)
  · cases he; exact fun H locs ls hP hS hl => lv_bipush C.1 C.2.1 hd rfl (k H locs ls hP hS hl)
  · cases he; exact fun H locs ls hP hS hl => lv_sipush C.1 C.2.1 hd rfl (k H locs ls hP hS hl)
  · cases he; exact fun H locs ls hP hS hl => lv_lconst C.1 C.2.1 hd rfl (k H locs ls hP hS hl)
  · cases he; exact fun H locs ls hP hS hl => lv_null C.1 C.2.1 hd (k H locs ls hP hS hl)
  · obtain ⟨x, y, r, rfl, rfl, rfl⟩ := px_ii_spec he; exact fun H locs ls hP hS hl => lv_iadd C.1 C.2.1 hd (k H locs ls hP hS hl)
  · obtain ⟨x, y, r, rfl, rfl, rfl⟩ := px_ii_spec he; exact fun H locs ls hP hS hl => lv_isub C.1 C.2.1 hd (k H locs ls hP hS hl)
  · obtain ⟨x, y, r, rfl, rfl, rfl⟩ := px_ii_spec he; exact fun H locs ls hP hS hl => lv_imul C.1 C.2.1 hd (k H locs ls hP hS hl)
  · obtain ⟨x, y, r, rfl, rfl, rfl⟩ := px_ii_spec he; exact fun H locs ls hP hS hl => lv_iand C.1 C.2.1 hd (k H locs ls hP hS hl)
  · obtain ⟨x, y, r, rfl, rfl, rfl⟩ := px_ii_spec he; exact fun H locs ls hP hS hl => lv_ior C.1 C.2.1 hd (k H locs ls hP hS hl)
  · obtain ⟨x, y, r, rfl, rfl, rfl⟩ := px_ii_spec he; exact fun H locs ls hP hS hl => lv_ixor C.1 C.2.1 hd (k H locs ls hP hS hl)
  · obtain ⟨x, y, r, rfl, rfl, rfl⟩ := px_ii_spec he; exact fun H locs ls hP hS hl => lv_ishl C.1 C.2.1 hd (k H locs ls hP hS hl)
  · obtain ⟨x, y, r, rfl, rfl, rfl⟩ := px_ii_spec he; exact fun H locs ls hP hS hl => lv_ishr C.1 C.2.1 hd (k H locs ls hP hS hl)
  · obtain ⟨x, y, r, rfl, rfl, rfl⟩ := px_ll_spec he; exact fun H locs ls hP hS hl => lv_ladd C.1 C.2.1 hd (k H locs ls hP hS hl)
  · obtain ⟨x, y, r, rfl, rfl, rfl⟩ := px_ll_spec he; exact fun H locs ls hP hS hl => lv_lsub C.1 C.2.1 hd (k H locs ls hP hS hl)
  · obtain ⟨x, y, r, rfl, rfl, rfl⟩ := px_ll_spec he; exact fun H locs ls hP hS hl => lv_lmul C.1 C.2.1 hd (k H locs ls hP hS hl)
  · obtain ⟨x, y, r, rfl, rfl, rfl⟩ := px_ll_spec he; exact fun H locs ls hP hS hl => lv_land C.1 C.2.1 hd (k H locs ls hP hS hl)
  · obtain ⟨x, y, r, rfl, rfl, rfl⟩ := px_ll_spec he; exact fun H locs ls hP hS hl => lv_lor C.1 C.2.1 hd (k H locs ls hP hS hl)
  · obtain ⟨x, y, r, rfl, rfl, rfl⟩ := px_ll_spec he; exact fun H locs ls hP hS hl => lv_lxor C.1 C.2.1 hd (k H locs ls hP hS hl)
  · obtain ⟨x, y, r, rfl, rfl, rfl⟩ := px_li_spec he; exact fun H locs ls hP hS hl => lv_lshl C.1 C.2.1 hd rfl (k H locs ls hP hS hl)
  · obtain ⟨x, y, r, rfl, rfl, rfl⟩ := px_li_spec he; exact fun H locs ls hP hS hl => lv_lshr C.1 C.2.1 hd rfl (k H locs ls hP hS hl)
  · obtain ⟨x, r, rfl, rfl, rfl⟩ := px_i_spec he; exact fun H locs ls hP hS hl => lv_ineg C.1 C.2.1 hd (k H locs ls hP hS hl)
  · obtain ⟨x, r, rfl, rfl, rfl⟩ := px_i_spec he; exact fun H locs ls hP hS hl => lv_i2l C.1 C.2.1 hd rfl (k H locs ls hP hS hl)
  · obtain ⟨x, r, rfl, rfl, rfl⟩ := px_l_spec he; exact fun H locs ls hP hS hl => lv_l2i C.1 C.2.1 hd rfl (k H locs ls hP hS hl)
  · obtain ⟨v, j, hj, hv, rfl, rfl⟩ := px_ld_spec he; cases v <;> first | (cases hv; done) | exact fun H locs ls hP hS hl => lv_iload_n C.1 C.2.1 hd rfl (lv_at hl j hj) (k H locs ls hP hS hl)
  · obtain ⟨v, j, hj, hv, rfl, rfl⟩ := px_ld_spec he; cases v <;> first | (cases hv; done) | exact fun H locs ls hP hS hl => lv_iload C.1 C.2.1 hd (lv_at hl j hj) (k H locs ls hP hS hl)
  · obtain ⟨v, j, hj, hv, rfl, rfl⟩ := px_ld_spec he; cases v <;> first | (cases hv; done) | exact fun H locs ls hP hS hl => lv_lload_n C.1 C.2.1 hd rfl (lv_at hl j hj) (k H locs ls hP hS hl)
  · obtain ⟨v, j, hj, hv, rfl, rfl⟩ := px_ld_spec he; cases v <;> first | (cases hv; done) | exact fun H locs ls hP hS hl => lv_lload C.1 C.2.1 hd (lv_at hl j hj) (k H locs ls hP hS hl)
  · obtain ⟨v, j, hj, hv, rfl, rfl⟩ := px_ld_spec he; cases v <;> first | (cases hv; done) | exact fun H locs ls hP hS hl => lv_aload_n C.1 C.2.1 hd rfl (lv_at hl j hj) (k H locs ls hP hS hl) | exact fun H locs ls hP hS hl => lv_aload_nN C.1 C.2.1 hd rfl (lv_at hl j hj) (k H locs ls hP hS hl)
  · obtain ⟨v, j, hj, hv, rfl, rfl⟩ := px_ld_spec he; cases v <;> first | (cases hv; done) | exact fun H locs ls hP hS hl => lv_aload C.1 C.2.1 hd (lv_at hl j hj) (k H locs ls hP hS hl) | exact fun H locs ls hP hS hl => lv_aloadN C.1 C.2.1 hd (lv_at hl j hj) (k H locs ls hP hS hl)
  · obtain ⟨x, r, hn, rfl, rfl, rfl⟩ := px_sti_spec he; exact fun H locs ls hP hS hl => lv_istore_n C.1 C.2.1 hd rfl hl hn rfl (fun ls1 hl1 => k H locs ls1 hP hS hl1)
  · obtain ⟨x, r, hn, rfl, rfl, rfl⟩ := px_sti_spec he; exact fun H locs ls hP hS hl => lv_istore C.1 C.2.1 hd hl hn rfl (fun ls1 hl1 => k H locs ls1 hP hS hl1)
  · obtain ⟨x, r, hn, rfl, rfl, rfl⟩ := px_stl_spec he; exact fun H locs ls hP hS hl => lv_lstore_n C.1 C.2.1 hd rfl hl hn rfl (fun ls1 hl1 => k H locs ls1 hP hS hl1)
  · obtain ⟨x, r, hn, rfl, rfl, rfl⟩ := px_stl_spec he; exact fun H locs ls hP hS hl => lv_lstore C.1 C.2.1 hd hl hn rfl (fun ls1 hl1 => k H locs ls1 hP hS hl1)
  · rcases px_sta_spec he with ⟨x, r, hn, rfl, rfl, rfl⟩ | ⟨r, hn, rfl, rfl, rfl⟩; exact fun H locs ls hP hS hl => lv_astore_n C.1 C.2.1 hd rfl hl hn rfl (fun ls1 hl1 => k H locs ls1 hP hS hl1); exact fun H locs ls hP hS hl => lv_astore_nN C.1 C.2.1 hd rfl hl hn rfl (fun ls1 hl1 => k H locs ls1 hP hS hl1)
  · rcases px_sta_spec he with ⟨x, r, hn, rfl, rfl, rfl⟩ | ⟨r, hn, rfl, rfl, rfl⟩; exact fun H locs ls hP hS hl => lv_astore C.1 C.2.1 hd hl hn rfl (fun ls1 hl1 => k H locs ls1 hP hS hl1); exact fun H locs ls hP hS hl => lv_astoreN C.1 C.2.1 hd hl hn rfl (fun ls1 hl1 => k H locs ls1 hP hS hl1)
  · obtain ⟨x, j, hj, hn, rfl, rfl⟩ := px_inc_spec he; exact fun H locs ls hP hS hl => lv_iinc C.1 C.2.1 hd hl hj rfl hn rfl (fun ls1 hl1 => k H locs ls1 hP hS hl1)
  · obtain ⟨v, r, hv, rfl, rfl, rfl⟩ := px_dup_spec he; exact fun H locs ls hP hS hl => lv_dup C.1 C.2.1 hd hv (k H locs ls hP hS hl)
  · obtain ⟨v, r, hv, rfl, rfl, rfl⟩ := px_pop_spec he; exact fun H locs ls hP hS hl => lv_pop C.1 C.2.1 hd hv (k H locs ls hP hS hl)
  · obtain ⟨v, w, r, hv, hw, rfl, rfl, rfl⟩ := px_dx1_spec he; exact fun H locs ls hP hS hl => lv_dup_x1 C.1 C.2.1 hd hv hw (k H locs ls hP hS hl)
  · obtain ⟨v, w, r, hv, hw, rfl, rfl, rfl⟩ := px_dup2_spec he; exact fun H locs ls hP hS hl => lv_dup2_11 C.1 C.2.1 hd hv hw (k H locs ls hP hS hl)
  · obtain ⟨v, w, u, r, hv, hw, hu, rfl, rfl, rfl⟩ := px_dx2_spec he; exact fun H locs ls hP hS hl => lv_dup_x2 C.1 C.2.1 hd hv hw hu (k H locs ls hP hS hl)
  · cases he
/-- a run of pure instructions, one behind the other -/
def px_run (nL : Nat) : List Instr → Nat → List (Nat × Value) → List Value → Option (Nat × px_S)
  | [], pc, lv, st => some (pc, lv, st)
  | i :: r, pc, lv, st => match px_one nL i lv st with
    | some (lv2, st2) => px_run nL r (pc + px_len i) lv2 st2
    | none => none
def px_dec (cc : ByteArray) : List Instr → Nat → Bool
  | [], _ => true
  | i :: r, pc => decide (decode cc pc = .ok (i, px_len i)) && px_dec cc r (pc + px_len i)
theorem wk_run (C : wk_C p s m args meth c cc own nL ret hh D HB) {is : List Instr} {pc pc2 : Nat} {lv lv2 : List (Nat × Value)} {st st2 : List Value} (hd : px_dec cc is pc = true) (he : px_run nL is pc lv st = some (pc2, lv2, st2))
    (k : Wk p l e R s m args below meth c nL D HB Q h cells slots pc2 lv2 st2) : Wk p l e R s m args below meth c nL D HB Q h cells slots pc lv st := by
  induction is generalizing pc lv st with
  | nil => cases he; exact k
  | cons i r ih =>
    unfold px_run at he
    unfold px_dec at hd
    rw [Bool.and_eq_true, decide_eq_true_eq] at hd
    split at he
    · rename_i lv3 st3 h1
      exact px_sound C hd.1 h1 (ih hd.2 he)
    · cases he
end PX
section WC
variable {p : Program} {l : Launch} {e : Env} {R : Room} {s : State} {m : MethodId} {args : Array Value} {below : List Frame} {meth : Method} {c : Code} {Q : State → Prop}
variable {cc : ByteArray} {own : String} {nL : Nat} {ret : Option FieldType} {hh : List (Nat × Nat × Nat × Nat)} {D : va_G} {HB : Heap}
variable {h : hp_T} {cells slots pc : Nat} {lv : List (Nat × Value)} {st rest : List Value}
theorem wk_C.hts (C : wk_C p s m args meth c cc own nL ret hh D HB) : ∀ w ∈ kw_L, w.before args s = true := C.2.2.2.2.1
theorem wk_C.ow (C : wk_C p s m args meth c cc own nL ret hh D HB) : s.vm.findClass own = some m.cls := C.2.2.2.1
theorem wk_C.K (C : wk_C p s m args meth c cc own nL ret hh D HB) : va_K D vwCl (ty_L D) s := C.2.2.2.2.2.2.2.1
theorem wk_C.rt (C : wk_C p s m args meth c cc own nL ret hh D HB) : meth.sig.returnType = ret := C.2.2.2.2.2.1
theorem wk_C.locks (C : wk_C p s m args meth c cc own nL ret hh D HB) : meth.locks = false := C.2.2.2.2.2.2.1
theorem wk_C.tab (C : wk_C p s m args meth c cc own nL ret hh D HB) : c.exceptionTable.toList.map (fun x => (x.startPc, x.endPc, x.handlerPc, x.catchType)) = hh := C.2.2.2.2.2.2.2.2.1
theorem wk_C.base (C : wk_C p s m args meth c cc own nL ret hh D HB) : va_S (hp_A HB) HB s.heap [] := C.2.2.2.2.2.2.2.2.2.1
theorem wk_C.ev (C : wk_C p s m args meth c cc own nL ret hh D HB) : ev_S D HB s := C.2.2.2.2.2.2.2.2.2.2
/-- other names for the same state -/
theorem Wk.sub {lv lv2 : List (Nat × Value)} (js : List Nat) (e1 : lv_pick lv js = lv2) (k : Wk p l e R s m args below meth c nL D HB Q h cells slots pc lv2 st) : Wk p l e R s m args below meth c nL D HB Q h cells slots pc lv st :=
  fun H locs ls hP hS hl => k H locs ls hP hS (lv_sub hl js e1)
theorem Wk.heap {h2 : hp_T} (e1 : ∀ a x, h2 a = some x → h a = some x) (k : Wk p l e R s m args below meth c nL D HB Q h2 cells slots pc lv st) : Wk p l e R s m args below meth c nL D HB Q h cells slots pc lv st :=
  fun H locs ls hP hS hl => k H locs ls (fun a x hx => hP a x (e1 a x hx)) hS hl
theorem Wk.widen {cells2 slots2 : Nat} (h1 : cells ≤ cells2) (h2 : slots ≤ slots2) (k : Wk p l e R s m args below meth c nL D HB Q h cells2 slots2 pc lv st) : Wk p l e R s m args below meth c nL D HB Q h cells slots pc lv st :=
  fun H locs ls hP hS hl => W.widen h1 h2 (k H locs ls hP hS hl)
/-! branches -/
def px_br (i : Instr) (st : List Value) : Option (Prop × Int × List Value) := match i with
  | .ifCond .eq off => match st with | .int x :: r => some (x = 0, off, r) | _ => none
  | .ifCond .ne off => match st with | .int x :: r => some (¬ x = 0, off, r) | _ => none
  | .ifCond .lt off => match st with | .int x :: r => some (x < 0, off, r) | _ => none
  | .ifCond .ge off => match st with | .int x :: r => some (0 ≤ x, off, r) | _ => none
  | .ifCond .gt off => match st with | .int x :: r => some (0 < x, off, r) | _ => none
  | .ifCond .le off => match st with | .int x :: r => some (x ≤ 0, off, r) | _ => none
  | .if_icmp .eq off => match st with | .int y :: .int x :: r => some (x = y, off, r) | _ => none
  | .if_icmp .ne off => match st with | .int y :: .int x :: r => some (¬ x = y, off, r) | _ => none
  | .if_icmp .lt off => match st with | .int y :: .int x :: r => some (x < y, off, r) | _ => none
  | .if_icmp .ge off => match st with | .int y :: .int x :: r => some (y ≤ x, off, r) | _ => none
  | .if_icmp .gt off => match st with | .int y :: .int x :: r => some (y < x, off, r) | _ => none
  | .if_icmp .le off => match st with | .int y :: .int x :: r => some (x ≤ y, off, r) | _ => none
  | _ => none
set_option maxHeartbeats 4000000 in
theorem wk_br (C : wk_C p s m args meth c cc own nL ret hh D HB) {i : Instr} {P : Prop} {off : Int} {tgt : Nat} {rest : List Value} (hd : decode cc pc = .ok (i, 3)) (he : px_br i st = some (P, off, rest)) (ht : (pc : Int) + off = (tgt : Int))
    (kt : P → Wk p l e R s m args below meth c nL D HB Q h cells slots tgt lv rest) (kf : ¬ P → Wk p l e R s m args below meth c nL D HB Q h cells slots (pc + 3) lv rest) : Wk p l e R s m args below meth c nL D HB Q h cells slots pc lv st := by
  intro H locs ls hP hS hl
  unfold px_br at he
  split at he
  · split at he
    · cases he; exact lv_if_eq C.1 C.2.1 hd ht (fun z => kt z H locs ls hP hS hl) (fun z => kf z H locs ls hP hS hl)
    · cases he
  · split at he
    · cases he; exact lv_if_ne C.1 C.2.1 hd ht (fun z => kt z H locs ls hP hS hl) (fun z => kf (fun y => y z) H locs ls hP hS hl)
    · cases he
  · split at he
    · cases he; exact lv_if_lt C.1 C.2.1 hd ht (fun z => kt z H locs ls hP hS hl) (fun z => kf z H locs ls hP hS hl)
    · cases he
  · split at he
    · cases he; exact lv_if_ge C.1 C.2.1 hd ht (fun z => kt z H locs ls hP hS hl) (fun z => kf z H locs ls hP hS hl)
    · cases he
  · split at he
    · cases he; exact lv_if_gt C.1 C.2.1 hd ht (fun z => kt z H locs ls hP hS hl) (fun z => kf z H locs ls hP hS hl)
    · cases he
  · split at he
    · cases he; exact lv_if_le C.1 C.2.1 hd ht (fun z => kt z H locs ls hP hS hl) (fun z => kf z H locs ls hP hS hl)
    · cases he
  · split at he
    · cases he; exact lv_icmp_eq C.1 C.2.1 hd ht (fun z => kt z H locs ls hP hS hl) (fun z => kf z H locs ls hP hS hl)
    · cases he
  · split at he
    · cases he; exact lv_icmp_ne C.1 C.2.1 hd ht (fun z => kt z H locs ls hP hS hl) (fun z => kf (fun y => y z) H locs ls hP hS hl)
    · cases he
  · split at he
    · cases he; exact lv_icmp_lt C.1 C.2.1 hd ht (fun z => kt z H locs ls hP hS hl) (fun z => kf z H locs ls hP hS hl)
    · cases he
  · split at he
    · cases he; exact lv_icmp_ge C.1 C.2.1 hd ht (fun z => kt z H locs ls hP hS hl) (fun z => kf z H locs ls hP hS hl)
    · cases he
  · split at he
    · cases he; exact lv_icmp_gt C.1 C.2.1 hd ht (fun z => kt z H locs ls hP hS hl) (fun z => kf z H locs ls hP hS hl)
    · cases he
  · split at he
    · cases he; exact lv_icmp_le C.1 C.2.1 hd ht (fun z => kt z H locs ls hP hS hl) (fun z => kf z H locs ls hP hS hl)
    · cases he
  · cases he
theorem wk_goto (C : wk_C p s m args meth c cc own nL ret hh D HB) {off : Int} {tgt : Nat} (hd : decode cc pc = .ok (.goto off, 3)) (ht : (pc : Int) + off = (tgt : Int)) (k : Wk p l e R s m args below meth c nL D HB Q h cells slots tgt lv st) : Wk p l e R s m args below meth c nL D HB Q h cells slots pc lv st :=
  fun H locs ls hP hS hl => lv_goto C.1 C.2.1 hd ht (k H locs ls hP hS hl)
/-- 'ifnull', 'ifnonnull' of a reference that is known -/
theorem wk_nlR (C : wk_C p s m args meth c cc own nL ret hh D HB) {x : Nat} {off : Int} (hd : decode cc pc = .ok (.ifnull off, 3)) (k : Wk p l e R s m args below meth c nL D HB Q h cells slots (pc + 3) lv rest) : Wk p l e R s m args below meth c nL D HB Q h cells slots pc lv (.ref x :: rest) :=
  fun H locs ls hP hS hl => lv_ifnull C.1 C.2.1 hd (k H locs ls hP hS hl)
theorem wk_nlN (C : wk_C p s m args meth c cc own nL ret hh D HB) {off : Int} {tgt : Nat} (hd : decode cc pc = .ok (.ifnull off, 3)) (ht : (pc : Int) + off = (tgt : Int)) (k : Wk p l e R s m args below meth c nL D HB Q h cells slots tgt lv rest) : Wk p l e R s m args below meth c nL D HB Q h cells slots pc lv (.null :: rest) :=
  fun H locs ls hP hS hl => lv_ifnullN C.1 C.2.1 hd ht (k H locs ls hP hS hl)
theorem wk_nnR (C : wk_C p s m args meth c cc own nL ret hh D HB) {x : Nat} {off : Int} {tgt : Nat} (hd : decode cc pc = .ok (.ifnonnull off, 3)) (ht : (pc : Int) + off = (tgt : Int)) (k : Wk p l e R s m args below meth c nL D HB Q h cells slots tgt lv rest) : Wk p l e R s m args below meth c nL D HB Q h cells slots pc lv (.ref x :: rest) :=
  fun H locs ls hP hS hl => lv_ifnonnull C.1 C.2.1 hd ht (k H locs ls hP hS hl)
theorem wk_nnN (C : wk_C p s m args meth c cc own nL ret hh D HB) {off : Int} (hd : decode cc pc = .ok (.ifnonnull off, 3)) (k : Wk p l e R s m args below meth c nL D HB Q h cells slots (pc + 3) lv rest) : Wk p l e R s m args below meth c nL D HB Q h cells slots pc lv (.null :: rest) :=
  fun H locs ls hP hS hl => lv_ifnonnullN C.1 C.2.1 hd (k H locs ls hP hS hl)
/-- '==' and '!=' of two references that aren't null -/
theorem wk_aeq (C : wk_C p s m args meth c cc own nL ret hh D HB) {x y : Nat} {off : Int} {tgt : Nat} (hd : decode cc pc = .ok (.if_acmp .eq off, 3)) (ht : (pc : Int) + off = (tgt : Int)) (kt : x = y → Wk p l e R s m args below meth c nL D HB Q h cells slots tgt lv rest) (kf : ¬ x = y → Wk p l e R s m args below meth c nL D HB Q h cells slots (pc + 3) lv rest) : Wk p l e R s m args below meth c nL D HB Q h cells slots pc lv (.ref y :: .ref x :: rest) :=
  fun H locs ls hP hS hl => lv_acmp_eq (rx := some x) (ry := some y) C.1 C.2.1 hd ht (fun z => kt (Option.some.inj z) H locs ls hP hS hl) (fun z => kf (fun y => z (congrArg some y)) H locs ls hP hS hl)
theorem wk_ane (C : wk_C p s m args meth c cc own nL ret hh D HB) {x y : Nat} {off : Int} {tgt : Nat} (hd : decode cc pc = .ok (.if_acmp .ne off, 3)) (ht : (pc : Int) + off = (tgt : Int)) (kt : ¬ x = y → Wk p l e R s m args below meth c nL D HB Q h cells slots tgt lv rest) (kf : x = y → Wk p l e R s m args below meth c nL D HB Q h cells slots (pc + 3) lv rest) : Wk p l e R s m args below meth c nL D HB Q h cells slots pc lv (.ref y :: .ref x :: rest) :=
  fun H locs ls hP hS hl => lv_acmp_ne (rx := some x) (ry := some y) C.1 C.2.1 hd ht (fun z => kt (fun y => z (congrArg some y)) H locs ls hP hS hl) (fun z => kf (Option.some.inj z) H locs ls hP hS hl)
theorem wk_idiv (C : wk_C p s m args meth c cc own nL ret hh D HB) {x y : Int32} (hd : decode cc pc = .ok (.idiv, 1)) (hn : ¬ y = 0) (k : Wk p l e R s m args below meth c nL D HB Q h cells slots (pc + 1) lv (.int (x / y) :: rest)) : Wk p l e R s m args below meth c nL D HB Q h cells slots pc lv (.int y :: .int x :: rest) :=
  fun H locs ls hP hS hl => lv_idiv C.1 C.2.1 hd hn (k H locs ls hP hS hl)
theorem wk_irem (C : wk_C p s m args meth c cc own nL ret hh D HB) {x y : Int32} (hd : decode cc pc = .ok (.irem, 1)) (hn : ¬ y = 0) (k : Wk p l e R s m args below meth c nL D HB Q h cells slots (pc + 1) lv (.int (x - x / y * y) :: rest)) : Wk p l e R s m args below meth c nL D HB Q h cells slots pc lv (.int y :: .int x :: rest) :=
  fun H locs ls hP hS hl => lv_irem C.1 C.2.1 hd hn (k H locs ls hP hS hl)
theorem wk_ldiv (C : wk_C p s m args meth c cc own nL ret hh D HB) {x y : Int64} (hd : decode cc pc = .ok (.ldiv, 1)) (hn : ¬ y = 0) (k : Wk p l e R s m args below meth c nL D HB Q h cells slots (pc + 1) lv (.long (x / y) :: rest)) : Wk p l e R s m args below meth c nL D HB Q h cells slots pc lv (.long y :: .long x :: rest) :=
  fun H locs ls hP hS hl => lv_ldiv C.1 C.2.1 hd hn (k H locs ls hP hS hl)
theorem wk_lrem (C : wk_C p s m args meth c cc own nL ret hh D HB) {x y : Int64} (hd : decode cc pc = .ok (.lrem, 1)) (hn : ¬ y = 0) (k : Wk p l e R s m args below meth c nL D HB Q h cells slots (pc + 1) lv (.long (x - x / y * y) :: rest)) : Wk p l e R s m args below meth c nL D HB Q h cells slots pc lv (.long y :: .long x :: rest) :=
  fun H locs ls hP hS hl => lv_lrem C.1 C.2.1 hd hn (k H locs ls hP hS hl)
/-! fields: what a field's entry in a constant pool says, in one word -/
def fd_ok (own : String) (index ci k : Nat) (ty : FieldType) (fin : Bool) : Prop :=
  ∃ (ref cN : String) (T : u_T) (N : Nat) (ts : Nat → FieldType), vwCl[ci]? = some (cN, T, N) ∧ (∀ w ∈ u_ws cN T N, w ∈ kw_L) ∧ k < N ∧ Cond.fieldLink own index ref (T k).2.1 (T k).2.2.1 ∈ kw_L ∧ ((T k).1 = ref ∨ Cond.sameField ref (T k).1 (T k).2.1 (T k).2.2.1 ∈ kw_L) ∧
    parseFieldDescriptor (T k).2.2.1 = some ty ∧ (T k).2.2.2 = fin ∧ (∀ j, j < N → parseFieldDescriptor (T j).2.2.1 = some (ts j)) ∧ (∀ a, a < N → ∀ b, b < N → a ≠ b → (T a).2.1 ≠ (T b).2.1)
def ff_ok (own : String) (index ci k : Nat) (ty : FieldType) : Prop := fd_ok own index ci k ty true ∧ ∃ (cN : String) (T : u_T) (N : Nat), vwCl[ci]? = some (cN, T, N) ∧ (T k).1 = own
theorem wk_get (C : wk_C p s m args meth c cc own nL ret hh D HB) {a index ci k : Nat} {ty : FieldType} {fin : Bool} {fs : List Value} {v : Value} (F : fd_ok own index ci k ty fin) (ha : h a = some (.inr (ci, fs))) (hv : fs[k]? = some v) (hd : decode cc pc = .ok (.getfield index, 3))
    (kk : Wk p l e R s m args below meth c nL D HB Q h cells slots (pc + 3) lv (v :: rest)) : Wk p l e R s m args below meth c nL D HB Q h cells slots pc lv (.ref a :: rest) := by
  intro H locs ls hP hS hl
  obtain ⟨ref, cN, T, N, ts, hc, hin, hk, hlink, hsame, -⟩ := F
  refine va_get (D := D) (ws := [(a, .inr (ci, fs))]) C.1 C.2.1 C.hts hin C.ow C.K (hP.one ha) 0 rfl hc k hk (C.hts _ hlink) ?_ hv hd (kk H locs ls hP hS hl)
  intro x hx
  rcases hsame with z | z
  · rw [← z]; exact hx
  · exact u_same (C.hts _ z) x hx
theorem wk_put (C : wk_C p s m args meth c cc own nL ret hh D HB) {a index ci k : Nat} {ty : FieldType} {fs fs2 : List Value} {v : Value} (F : fd_ok own index ci k ty false) (ha : h a = some (.inr (ci, fs))) (hn : narrow ty v = v) (hf : fits ty v = true) (hlt : k < fs.length) (e2 : fs.set k v = fs2) (hd : decode cc pc = .ok (.putfield index, 3))
    (kk : Wk p l e R s m args below meth c nL D HB Q (hp_up h a (.inr (ci, fs2))) cells slots (pc + 3) lv rest) : Wk p l e R s m args below meth c nL D HB Q h cells slots pc lv (v :: .ref a :: rest) := by
  intro H locs ls hP hS hl
  subst e2
  obtain ⟨ref, cN, T, N, ts, hc, hin, hk, hlink, hsame, hpd, hfin, hts, hnm⟩ := F
  obtain ⟨q0, hq⟩ := hP.at ha
  refine va_put (D := D) C.1 C.2.1 C.hts hin ts hts hnm C.ow C.K hP.P hP.D hS q0 hq hc k hk (C.hts _ hlink) ?_ hfin hpd hn hf hlt hd (fun H1 locs1 p1 d1 s1 => kk H1 locs1 ls (hP.set hq p1) s1 hl)
  intro x hx
  rcases hsame with z | z
  · rw [← z]; exact hx
  · exact u_same (C.hts _ z) x hx
theorem wk_putF (C : wk_C p s m args meth c cc own nL ret hh D HB) {a index ci k : Nat} {ty : FieldType} {fs fs2 : List Value} {v : Value} (F : ff_ok own index ci k ty) (hin2 : meth.name = "<init>") (ha : h a = some (.inr (ci, fs))) (hn : narrow ty v = v) (hf : fits ty v = true) (hlt : k < fs.length) (e2 : fs.set k v = fs2) (hd : decode cc pc = .ok (.putfield index, 3))
    (kk : Wk p l e R s m args below meth c nL D HB Q (hp_up h a (.inr (ci, fs2))) cells slots (pc + 3) lv rest) : Wk p l e R s m args below meth c nL D HB Q h cells slots pc lv (v :: .ref a :: rest) := by
  intro H locs ls hP hS hl
  subst e2
  obtain ⟨⟨ref, cN, T, N, ts, hc, hin, hk, hlink, hsame, hpd, hfin, hts, hnm⟩, cN2, T2, N2, hc2, hdecl⟩ := F
  cases Option.some.inj (hc.symm.trans hc2)
  obtain ⟨q0, hq⟩ := hP.at ha
  refine va_putF (D := D) C.1 C.2.1 C.hts hin ts hts hnm C.ow C.K hP.P hP.D hS q0 hq hc k hk (C.hts _ hlink) ?_ hfin hin2 hdecl hpd hn hf hlt hd (fun H1 locs1 p1 d1 s1 => kk H1 locs1 ls (hP.set hq p1) s1 hl)
  intro x hx
  rcases hsame with z | z
  · rw [← z]; exact hx
  · exact u_same (C.hts _ z) x hx
/-- what 'new' of a class asks -/
def nw_ok (own : String) (index ci N : Nat) (fs : List Value) : Prop :=
  ∃ (cN : String) (T : u_T) (ts : Nat → FieldType), vwCl[ci]? = some (cN, T, N) ∧ (∀ w ∈ u_ws cN T N, w ∈ kw_L) ∧ (∀ j, j < N → parseFieldDescriptor (T j).2.2.1 = some (ts j)) ∧ Cond.classLink own index cN ∈ kw_L ∧ Cond.instantiable cN N ∈ kw_L ∧ Cond.initialized cN ∈ kw_L ∧ ∀ j, j < N → defaultValue (ts j) = vp_V fs j
theorem wk_new (C : wk_C p s m args meth c cc own nL ret hh D HB) {index ci N : Nat} {fs : List Value} (F : nw_ok own index ci N fs) (hc : cells + 1 ≤ R.cells) (hs : slots + N ≤ R.slots) (hd : decode cc pc = .ok (.new index, 3))
    (kk : ∀ q : Nat, h q = none → Wk p l e R s m args below meth c nL D HB Q (hp_up h q (.inr (ci, fs))) (cells + 1) (slots + N) (pc + 3) lv (.ref q :: rest)) : Wk p l e R s m args below meth c nL D HB Q h cells slots pc lv rest := by
  intro H locs ls hP hS hl
  obtain ⟨cN, T, ts, hcl, hin, hts, hlink, hinst, hini, hdef⟩ := F
  refine va_new (D := D) C.1 C.2.1 C.hts hin ts hts C.ow (C.hts _ hlink) (C.hts _ hinst) (C.hts _ hini) C.K hP.P hP.D hS (fun q z => z) hcl hdef hc hs hd (fun q H1 p1 d1 s1 => ?_)
  obtain ⟨p2, hn⟩ := hP.new p1 d1
  exact kk q hn H1 locs ls p2 s1 hl
/-! arrays -/
theorem wk_iald (C : wk_C p s m args meth c cc own nL ret hh D HB) {a n : Nat} {f : Nat → Int32} {i : Int32} (ha : h a = some (.inl (D.1 100, n, .inl f))) (hi : vp_in i n) (hd : decode cc pc = .ok (.iaload, 1))
    (kk : Wk p l e R s m args below meth c nL D HB Q h cells slots (pc + 1) lv (.int (f i.toNatClampNeg) :: rest)) : Wk p l e R s m args below meth c nL D HB Q h cells slots pc lv (.int i :: .ref a :: rest) :=
  fun H locs ls hP hS hl => va_iald (D := D) C.1 C.2.1 C.K (hP.one ha) 0 0 rfl rfl hi hd (kk H locs ls hP hS hl)
theorem wk_lald (C : wk_C p s m args meth c cc own nL ret hh D HB) {a n : Nat} {f : Nat → Int64} {i : Int32} (ha : h a = some (.inl (D.1 101, n, .inr (.inl f)))) (hi : vp_in i n) (hd : decode cc pc = .ok (.laload, 1))
    (kk : Wk p l e R s m args below meth c nL D HB Q h cells slots (pc + 1) lv (.long (f i.toNatClampNeg) :: rest)) : Wk p l e R s m args below meth c nL D HB Q h cells slots pc lv (.int i :: .ref a :: rest) :=
  fun H locs ls hP hS hl => va_lald (D := D) C.1 C.2.1 C.K (hP.one ha) 0 1 rfl rfl hi hd (kk H locs ls hP hS hl)
theorem wk_iast (C : wk_C p s m args meth c cc own nL ret hh D HB) {a n : Nat} {f : Nat → Int32} {i x : Int32} (ha : h a = some (.inl (D.1 100, n, .inl f))) (hi : vp_in i n) (hd : decode cc pc = .ok (.iastore, 1))
    (kk : Wk p l e R s m args below meth c nL D HB Q (hp_up h a (.inl (D.1 100, n, .inl (upd f i.toNatClampNeg x)))) cells slots (pc + 1) lv rest) : Wk p l e R s m args below meth c nL D HB Q h cells slots pc lv (.int x :: .int i :: .ref a :: rest) := by
  intro H locs ls hP hS hl
  obtain ⟨q0, hq⟩ := hP.at ha
  exact va_iast (D := D) C.1 C.2.1 C.K hP.P hP.D hS q0 0 hq rfl hi hd (fun H1 locs1 p1 d1 s1 => kk H1 locs1 ls (hP.set hq p1) s1 hl)
theorem wk_last (C : wk_C p s m args meth c cc own nL ret hh D HB) {a n : Nat} {f : Nat → Int64} {i : Int32} {x : Int64} (ha : h a = some (.inl (D.1 101, n, .inr (.inl f)))) (hi : vp_in i n) (hd : decode cc pc = .ok (.lastore, 1))
    (kk : Wk p l e R s m args below meth c nL D HB Q (hp_up h a (.inl (D.1 101, n, .inr (.inl (vp_updL f i.toNatClampNeg x))))) cells slots (pc + 1) lv rest) : Wk p l e R s m args below meth c nL D HB Q h cells slots pc lv (.long x :: .int i :: .ref a :: rest) := by
  intro H locs ls hP hS hl
  obtain ⟨q0, hq⟩ := hP.at ha
  exact va_last (D := D) C.1 C.2.1 C.K hP.P hP.D hS q0 1 hq rfl hi hd (fun H1 locs1 p1 d1 s1 => kk H1 locs1 ls (hP.set hq p1) s1 hl)
/-! ends of a method: the contract's own words -/
end WC
/-- how a method ends: with an answer, or by an exception of the class of that name -/
abbrev ct_O : Type := Option Value ⊕ String
def ct_E (D : va_G) (HB : Heap) (post : ct_O → hp_T → Prop) (s : State) (o : Outcome) (t : State) : Prop := match o with
  | .returned v => ∃ h2, post (.inl v) h2 ∧ hp_P D HB h2 t.heap ∧ va_S (hp_A HB) HB t.heap []
  | .threw x => ∃ (E : String) (ce : Cell) (h2 : hp_T), post (.inr E) h2 ∧ hp_P D HB h2 t.heap ∧ va_S (hp_A HB) HB t.heap [] ∧ t.heap[x]? = some ce ∧ ce.vm = .none ∧ s.vm.findClass E = some ce.cls
def ct_Q (below : List Frame) (D : va_G) (HB : Heap) (post : ct_O → hp_T → Prop) (s : State) (mc ms : Nat) : State → Prop := fun t =>
  ∃ o, t.status = .running ∧ Ended t below o ∧ ct_E D HB post s o t ∧ ∃ L : List Loc, s.WarmedH t.vm ∧ s.sameButNew ({ t with vm := s.vm } : State) L mc ms ∧ ∀ q ∈ L, HB.size ≤ q.base
/-- a method's contract: from every heap that holds h, by whatever caller: it ends, with 'post' of the outcome and the heap that there is then -/
def ct_M (l : Launch) (y : MethodName) (w0 : Cond) (rm : Room) (D : va_G) (HB : Heap) (av : List Value) (h : hp_T) (post : ct_O → hp_T → Prop) : Prop :=
  MetFree l y (headSpec (w0 :: kw_L) rm) (fun a U => a = av.toArray ∧ hp_P D HB h U.heap ∧ va_S (hp_A HB) HB U.heap [] ∧ va_K D vwCl (ty_L D) U ∧ ev_S D HB U) (fun _ _ _ _ _ => True)
    (fun _ st o t => ct_E D HB post st o t ∧ ∃ L : List Loc, st.WarmedH t.vm ∧ st.sameButNew ({ t with vm := st.vm } : State) L rm.cells rm.slots ∧ ∀ q ∈ L, HB.size ≤ q.base)
section WE
variable {p : Program} {l : Launch} {e : Env} {R : Room} {s : State} {m : MethodId} {args : Array Value} {below : List Frame} {meth : Method} {c : Code} {Q : State → Prop}
variable {cc : ByteArray} {own : String} {nL : Nat} {ret : Option FieldType} {hh : List (Nat × Nat × Nat × Nat)} {D : va_G} {HB : Heap}
variable {h : hp_T} {cells slots pc : Nat} {lv : List (Nat × Value)} {st rest : List Value} {post : ct_O → hp_T → Prop} {mc ms : Nat}
theorem va_S.nil {A : Nat → Prop} {H0 H : Heap} {locs : List Loc} (hS : va_S A H0 H locs) : va_S A H0 H [] := ⟨hS.1, hS.2.1, fun _ z => by cases z⟩
theorem wk_iret (C : wk_C p s m args meth c cc own nL (some .int) hh D HB) {v : Int32} (hp : post (.inl (some (.int v))) h) (hc : cells ≤ mc) (hs : slots ≤ ms) (hd : decode cc pc = .ok (.ireturn, 1)) : Wk p l e R s m args below meth c nL D HB (ct_Q below D HB post s mc ms) h cells slots pc lv [.int v] := by
  intro H locs ls hP hS hl
  refine W.widen hc hs ?_
  intro T hT X
  obtain ⟨t, a1, o, b1, b2, b3, L, ⟨-, b4, b5⟩, b6⟩ := W.iret (Qc := fun _ s o t => ct_E D HB post s o t) (free := fun q => HB.size ≤ q) C.1 C.2.1 C.rt (fun t ht _ => ⟨h, hp, by rw [ht]; exact hP, by rw [ht]; exact hS.nil⟩) hS.2.2 hd C.locks T hT X
  exact ⟨t, a1, o, b1, b2, b3, L, b4, b5, b6⟩
theorem wk_zret (C : wk_C p s m args meth c cc own nL (some .boolean) hh D HB) {v : Int32} (hn : narrow .boolean (.int v) = .int v) (hp : post (.inl (some (.int v))) h) (hc : cells ≤ mc) (hs : slots ≤ ms) (hd : decode cc pc = .ok (.ireturn, 1)) : Wk p l e R s m args below meth c nL D HB (ct_Q below D HB post s mc ms) h cells slots pc lv [.int v] := by
  intro H locs ls hP hS hl
  refine W.widen hc hs ?_
  intro T hT X
  obtain ⟨t, a1, o, b1, b2, b3, L, ⟨-, b4, b5⟩, b6⟩ := W.zret (Qc := fun _ s o t => ct_E D HB post s o t) (free := fun q => HB.size ≤ q) C.1 C.2.1 C.rt hn (fun t ht _ => ⟨h, hp, by rw [ht]; exact hP, by rw [ht]; exact hS.nil⟩) hS.2.2 hd C.locks T hT X
  exact ⟨t, a1, o, b1, b2, b3, L, b4, b5, b6⟩
theorem wk_vret (C : wk_C p s m args meth c cc own nL none hh D HB) (hp : post (.inl none) h) (hc : cells ≤ mc) (hs : slots ≤ ms) (hd : decode cc pc = .ok (.return_, 1)) : Wk p l e R s m args below meth c nL D HB (ct_Q below D HB post s mc ms) h cells slots pc lv [] := by
  intro H locs ls hP hS hl
  refine W.widen hc hs ?_
  intro T hT X
  obtain ⟨t, a1, o, b1, b2, b3, L, ⟨-, b4, b5⟩, b6⟩ := W.vret (Qc := fun _ s o t => ct_E D HB post s o t) (free := fun q => HB.size ≤ q) C.1 C.2.1 C.rt (fun t ht _ => ⟨h, hp, by rw [ht]; exact hP, by rw [ht]; exact hS.nil⟩) hS.2.2 hd C.locks T hT X
  exact ⟨t, a1, o, b1, b2, b3, L, b4, b5, b6⟩
theorem wk_aret (C : wk_C p s m args meth c cc own nL ret hh D HB) {v : Value} {rt : FieldType} (er : ret = some rt) (hrt : (∃ n, rt = .object n) ∨ ∃ t, rt = .array t) (hv : v = .null ∨ ∃ a, v = .ref a) (hp : post (.inl (some v)) h) (hc : cells ≤ mc) (hs : slots ≤ ms) (hd : decode cc pc = .ok (.areturn, 1)) : Wk p l e R s m args below meth c nL D HB (ct_Q below D HB post s mc ms) h cells slots pc lv [v] := by
  intro H locs ls hP hS hl
  refine W.widen hc hs ?_
  intro T hT X
  obtain ⟨t, a1, o, b1, b2, b3, L, ⟨-, b4, b5⟩, b6⟩ := W.aret (Qc := fun _ s o t => ct_E D HB post s o t) (free := fun q => HB.size ≤ q) C.1 C.2.1 (C.rt.trans er) hrt hv (fun t ht _ => ⟨h, hp, by rw [ht]; exact hP, by rw [ht]; exact hS.nil⟩) hS.2.2 hd C.locks T hT X
  exact ⟨t, a1, o, b1, b2, b3, L, b4, b5, b6⟩
/-- an exception x is under way at pc of the walked method -/
def Wx (p : Program) (l : Launch) (e : Env) (R : Room) (s : State) (m : MethodId) (args : Array Value) (below : List Frame) (meth : Method) (c : Code) (nL : Nat) (D : va_G) (HB : Heap) (Q : State → Prop) (h : hp_T) (cells slots pc : Nat) (lv : List (Nat × Value)) (E : String) : Prop :=
  ∀ (x : Addr) (ce : Cell) (T : State) (locs : List Loc) (ls : Array Slot) (st : List Value), T.heap[x]? = some ce → ce.vm = .none → s.vm.findClass E = some ce.cls → hp_P D HB h T.heap → va_S (hp_A HB) HB T.heap locs → lv_has ls nL lv → Stand p l e R s m args below meth c T locs cells slots → ∃ t, Steps p.tables e below ((T.setTop (F0 m pc ls st)).pushFrame (.throwing x)) t ∧ Q t
/-- no handler: the method throws it on -/
theorem wx_out (C : wk_C p s m args meth c cc own nL ret [] D HB) {E : String} (hp : post (.inr E) h) (hc : cells ≤ mc) (hs : slots ≤ ms) : Wx p l e R s m args below meth c nL D HB (ct_Q below D HB post s mc ms) h cells slots pc lv E := by
  intro x ce T locs ls st hx1 hx2 hx3 hP hS hl X
  have ht : c.exceptionTable.toList = [] := List.map_eq_nil_iff.mp C.tab
  obtain ⟨a1, a2, a3, a4, a5⟩ := (stand_widen X hc hs).leaveThrown x (g := F0 m pc ls st) rfl rfl rfl (by rw [ht]; intro y hy; cases hy) C.locks
  exact ⟨_, a1, .threw x, a2, a3, ⟨E, ce, h, hp, hP, hS.nil, hx1, hx2, hx3⟩, locs, a4, a5, hS.2.2⟩
/-- the contract out of the walk of the body -/
theorem ct_of {y : MethodName} {rm : Room} {av : List Value} (hy : plainName y.cls = true) (hlen : (lg_sl av).length ≤ nL) {lv : List (Nat × Value)} (elv : lv_args 0 av = lv)
    (body : ∀ (p : Program) (e : Env) (s : State) (m : MethodId) (args : Array Value) (below : List Frame) (meth : Method) (c : Code), wk_C p s m args meth c cc y.cls nL ret [] D HB → meth.name = y.name → Wk p l e rm s m args below meth c nL D HB (ct_Q below D HB post s rm.cells rm.slots) h 0 0 0 lv []) : ct_M l y (.code y cc nL ret) rm D HB av h post := by
  refine MetFree.of_bodyS (code := cc) (maxLocals := nL) (ret := ret) hy ?_ ?_
  · intro args s m hpre hn
    obtain ⟨meth, c, h1, h2, h3, h4, h5, h6, -, -⟩ := Cond.code_spec hn (atoms_spec (ws := .code y cc nL ret :: kw_L) hpre _ List.mem_cons_self)
    exact ⟨meth, c, h1, h2, h3, h4, h5, h6⟩
  · intro p e s m args below meth c s₁ B hml hP _
    obtain ⟨rfl, hPh, hS, hK, hE⟩ := hP
    have hts := atoms_spec (ws := .code y cc nL ret :: kw_L) B.pre
    have hh0 : s₁.heap = s.heap := by rw [B.state]; rfl
    have hex : c.exceptionTable.isEmpty = true := B.noHandlers (hts _ List.mem_cons_self)
    have htab : c.exceptionTable.toList.map (fun x => (x.startPc, x.endPc, x.handlerPc, x.catchType)) = [] := by
      have : c.exceptionTable = #[] := by simpa using hex
      rw [this]; rfl
    have C : wk_C p s m av.toArray meth c cc y.cls nL ret [] D HB := ⟨B.exec, B.bytes, hml, findClass_of_methodNamed B.named, fun w hw => hts w (List.mem_cons_of_mem _ hw), B.returns, B.notSynchronized, hK, htab, hS, hE⟩
    have hl := lv_entry av (n := nL) hlen
    rw [elv] at hl
    have K := body p e s m av.toArray below meth c C (name_of_methodNamed B.named B.method).1 s.heap [] _ hPh hS hl
    rw [← lg_entry_eq (m := m)] at K
    obtain ⟨t, a1, o, b1, b2, b3, L, b4, b5, b6⟩ := K s₁ hh0 (Stand.of_body B)
    exact ⟨t, o, a1, b1, b2, b3, L, b4, b5, b6⟩
/-- a call by contract: it comes back, or it throws -/
theorem ct_call (C : wk_C p s m args meth c cc own nL ret hh D HB) {T : State} {locs : List Loc} (X : Stand p l e R s m args below meth c T locs cells slots) {y : MethodName} {w0 : Cond} {rm : Room} {av : List Value} (M : ct_M l y w0 rm D HB av h post)
    {maxL : Nat} (hw0 : w0 ∈ kw_L) (hm0 : ∀ (a' : Array Value) (U : State) (mk : MethodId), w0.before a' U = true → U.methodNamed? y = some mk → ∃ methY cY, U.vm.method? mk = some methY ∧ methY.code = some cY ∧ cY.maxLocals = maxL) (hini : Cond.initialized y.cls ∈ kw_L)
    {g : JFrame} (hg : g.method = m) (hsize : g.locals.size = nL) {ig : Instr} {len : Nat} (hdg : decode c.code g.pc = .ok (ig, len)) (hWt : 2 * g.monitorRoom + (g.stack.map fun v => v.category).sum ≤ 8) {mk : MethodId} (hn : T.methodNamed? y = some mk)
    (hfr : rm.frames + 1 ≤ R.frames) (hlo : 8 + (maxL + 11) + rm.locals ≤ R.locals) (hc : cells + rm.cells ≤ R.cells) (hs : slots + rm.slots ≤ R.slots) (hP : hp_P D HB h T.heap) (hS : va_S (hp_A HB) HB T.heap locs) :
    (∃ (v : Option Value) (h2 : hp_T) (T2 : State) (locs2 : List Loc), post (.inl v) h2 ∧ hp_P D HB h2 T2.heap ∧ va_S (hp_A HB) HB T2.heap locs2 ∧ Stand p l e R s m args below meth c T2 locs2 (cells + rm.cells) (slots + rm.slots) ∧ Steps p.tables e below (doInvoke e (T.setTop g) [] mk av.toArray).1 (T2.setTop { g with pc := g.pc + len, stack := v.toList ++ g.stack })) ∨
    (∃ (x : Addr) (E : String) (ce : Cell) (h2 : hp_T) (T2 : State) (locs2 : List Loc), post (.inr E) h2 ∧ T2.heap[x]? = some ce ∧ ce.vm = .none ∧ s.vm.findClass E = some ce.cls ∧ hp_P D HB h2 T2.heap ∧ va_S (hp_A HB) HB T2.heap locs2 ∧ Stand p l e R s m args below meth c T2 locs2 (cells + rm.cells) (slots + rm.slots) ∧ Steps p.tables e below (doInvoke e (T.setTop g) [] mk av.toArray).1 ((T2.setTop g).pushFrame (.throwing x))) := by
  have hal := X.warmed.alike
  have hwd : ∀ w ∈ (w0 :: kw_L), w.before av.toArray T = true := by
    intro w hw
    have hw' : w ∈ kw_L := by
      rcases List.mem_cons.mp hw with z | z
      · rw [z]; exact hw0
      · exact z
    exact kw_at X.warmed (kw_ok hw') (C.hts w hw')
  obtain ⟨methY, cY, hmY, hcY, hlY⟩ := hm0 _ T mk (hwd _ List.mem_cons_self) hn
  obtain ⟨kY, hkY, -⟩ := className_of_methodNamed hn
  have hinitY : kY.init = .initialized := Cond.initialized_spec (findClass_of_methodNamed hn) hkY (hwd _ (List.mem_cons_of_mem _ hini))
  have hh1 : At T g.method c below := by rw [hg]; exact X.here
  have happ : (headSpec (w0 :: kw_L) rm).appliesLoose y e.platform (T.calling g mk av.toArray) = true :=
    Spec.appliesLoose_calling (g := g) hh1 hdg hn hkY hinitY
      (X.room_calling (g := g) (R' := rm) (hsize.trans C.2.2.1.symm) hmY hcY hfr (by rw [hlY]; omega) hc hs) (atoms_intro hwd)
  obtain ⟨mid, hmid⟩ := hh1.above
  have hfr2 : (T.setTop g).frames = (.java g :: mid) ++ below := by rw [State.frames_setTop' g hh1.top, hmid]; rfl
  have hev : ev_S D HB T := C.ev.moved X.warmed
  obtain ⟨o, s₂, hsteps, -, hend, hE, L, hW2, hsame, hL⟩ := Steps.callFree M p X.admits X.cas X.clock (acts := []) hfr2 happ ⟨rfl, hP, hS.nil, va_K.moved hal C.K, hev⟩ trivial
  rw [State.frames_setTop' g hh1.top, X.tail] at hend
  have hS3 : va_S (hp_A HB) HB s₂.heap [] → va_S (hp_A HB) HB s₂.heap (locs ++ L) := fun hS2 => ⟨hS2.1, hS2.2.1, fun q hq => by
    rcases List.mem_append.mp hq with z | z
    · exact hS.2.2 q z
    · exact hL q z⟩
  cases o with
  | returned v =>
    obtain ⟨h2, hpo, hP2, hS2⟩ := hE
    obtain ⟨T2, X2, -, -, rfl⟩ := X.outOf hg hdg hend hW2 hsame
    exact Or.inl ⟨v, h2, T2, locs ++ L, hpo, hP2, hS3 hS2, X2, hsteps⟩
  | threw x =>
    obtain ⟨E, ce, h2, hpo, hP2, hS2, hx1, hx2, hx3⟩ := hE
    have hx4 : s.vm.findClass E = some ce.cls := by rw [← hal.findClass]; exact hx3
    obtain ⟨T2, X2, -, -, rfl⟩ := X.outOfThrown hg hend hW2 hsame
    exact Or.inr ⟨x, E, ce, h2, T2, locs ++ L, hpo, hx1, hx2, hx4, hP2, hS3 hS2, X2, hsteps⟩
theorem ct_codeL {y : MethodName} {b : ByteArray} {n : Nat} {r : Option FieldType} (a' : Array Value) (U : State) (mk : MethodId) (hw : (Cond.code y b n r).before a' U = true) (hn : U.methodNamed? y = some mk) : ∃ methY cY, U.vm.method? mk = some methY ∧ methY.code = some cY ∧ cY.maxLocals = n := by
  obtain ⟨meth, c, h1, h2, -, h4, -⟩ := Cond.code_spec hn hw
  exact ⟨meth, c, h1, h2, h4⟩
/-- what a call's site says -/
def cs_V (own : String) (index : Nat) (cN : String) (y : MethodName) (n : Nat) : Prop := Cond.methodLink own index y ∈ kw_L ∧ Cond.instanceMethod y ∈ kw_L ∧ Cond.selects cN y y ∈ kw_L ∧ (y.cls ≠ "java/lang/invoke/MethodHandle" ∧ y.cls ≠ "java/lang/invoke/VarHandle") ∧ (parseMethodDescriptor y.desc).map (fun d => d.parameters.length) = some n
theorem cs_len {y : MethodName} {n : Nat} (h1 : (parseMethodDescriptor y.desc).map (fun d => d.parameters.length) = some n) (sig : MethodDescriptor) (h2 : parseMethodDescriptor y.desc = some sig) : n = sig.parameters.length := by
  rw [h2] at h1
  exact (Option.some.inj h1).symm
/-- invokevirtual of a method that the receiver's own class has -/
theorem wk_callV (C : wk_C p s m args meth c cc own nL ret hh D HB) {y : MethodName} {by2 : ByteArray} {maxL : Nat} {rt : Option FieldType} {rm : Room} {b : Nat} {As : List Value} {pst : ct_O → hp_T → Prop} (M : ct_M l y (.code y by2 maxL rt) rm D HB (.ref b :: As) h pst)
    {index n ci : Nat} {cl : vw_C} {fs : List Value} (Y : cs_V own index cl.1 y n) (hcd : Cond.code y by2 maxL rt ∈ kw_L) (hini : Cond.initialized y.cls ∈ kw_L) (hb : h b = some (.inr (ci, fs))) (hcl : vwCl[ci]? = some cl) (hAs : As.length = n) {st : List Value} (hst : st = As.reverse ++ .ref b :: rest) (hWt : (rest.map fun v => v.category).sum ≤ 8)
    (hfr : rm.frames + 1 ≤ R.frames) (hlo : 8 + (maxL + 11) + rm.locals ≤ R.locals) (hc : cells + rm.cells ≤ R.cells) (hs : slots + rm.slots ≤ R.slots) (hd : decode cc pc = .ok (.invokevirtual index, 3))
    (kr : ∀ (v : Option Value) (h2 : hp_T), pst (.inl v) h2 → Wk p l e R s m args below meth c nL D HB Q h2 (cells + rm.cells) (slots + rm.slots) (pc + 3) lv (v.toList ++ rest))
    (kx : ∀ (E : String) (h2 : hp_T), pst (.inr E) h2 → Wx p l e R s m args below meth c nL D HB Q h2 (cells + rm.cells) (slots + rm.slots) pc lv E) : Wk p l e R s m args below meth c nL D HB Q h cells slots pc lv st := by
  intro H locs ls hP hS hl T hT X
  obtain ⟨hlink, hinst, hsel, hy, hnp⟩ := Y
  obtain ⟨mk, methM, hnamed, hmethM, hstM, habM⟩ := Cond.instanceMethod_spec (C.hts _ hinst)
  obtain ⟨methM', cM, hmethM', -, -, -, -, -, -, hsigM⟩ := Cond.code_spec hnamed (C.hts _ hcd)
  cases hmethM.symm.trans hmethM'
  obtain ⟨cellB, hcB, hoB, hclB⟩ := va_recv C.K (hP.one hb) hcl (q0 := 0) rfl
  obtain ⟨c2, r2, m2, q1, q2, q3, q4, kP, hkP, hkPi⟩ := Cond.selects_spec (C.hts _ hsel)
  cases hclB.symm.trans q1
  cases (State.methodFound?_of_named hnamed hy).symm.trans q2
  cases hnamed.symm.trans q3
  have hselP : selectMethod e.platform s.vm cellB.cls mk = .method mk := by rw [Launch.admits_selectMethod X.admits]; exact q4
  subst hst
  subst hT
  have hbd : decode c.code pc = .ok (.invokevirtual index, 3) := by rw [C.2.1]; exact hd
  obtain ⟨vm₁, X₁, hstep₁⟩ := X.invokevirtual C.1 C.ow (C.hts _ hlink) hnamed hmethM hstM hkP hkPi hy (a := b) (cell := cellB) hcB
    (fun z hz => by rw [hz] at hoB; cases hoB) hselP hmethM habM hkP hkPi (g := F0 m pc ls (As.reverse ++ .ref b :: rest)) rfl (argsL := As) (rest := rest) (hAs.trans (cs_len hnp _ hsigM)) rfl hbd
  rcases ct_call C X₁ M hcd ct_codeL hini (g := F0 m pc ls rest) rfl hl.1 hbd (lv_room hWt) (X₁.named hnamed) hfr hlo hc hs hP hS with ⟨v, h2, T2, locs2, hpo, hP2, hS2, X2, hst2⟩ | ⟨x, E, ce, h2, T2, locs2, hpo, hx1, hx2, hx3, hP2, hS2, X2, hst2⟩
  · obtain ⟨t, a1, b1⟩ := kr v h2 hpo T2.heap locs2 ls hP2 hS2 hl T2 rfl X2
    exact ⟨t, hstep₁ _ fun acts => by rw [doInvoke_state]; exact hst2.trans a1, b1⟩
  · obtain ⟨t, a1, b1⟩ := kx E h2 hpo x ce T2 locs2 ls rest hx1 hx2 hx3 hP2 hS2 hl X2
    exact ⟨t, hstep₁ _ fun acts => by rw [doInvoke_state]; exact hst2.trans a1, b1⟩
def cs_S (own : String) (index : Nat) (y : MethodName) (n : Nat) : Prop := Cond.methodLink own index y ∈ kw_L ∧ Cond.static y ∈ kw_L ∧ (y.cls ≠ "java/lang/invoke/MethodHandle" ∧ y.cls ≠ "java/lang/invoke/VarHandle") ∧ (parseMethodDescriptor y.desc).map (fun d => d.parameters.length) = some n
theorem wk_callS (C : wk_C p s m args meth c cc own nL ret hh D HB) {y : MethodName} {by2 : ByteArray} {maxL : Nat} {rt : Option FieldType} {rm : Room} {As : List Value} {pst : ct_O → hp_T → Prop} (M : ct_M l y (.code y by2 maxL rt) rm D HB As h pst)
    {index n : Nat} (Y : cs_S own index y n) (hcd : Cond.code y by2 maxL rt ∈ kw_L) (hini : Cond.initialized y.cls ∈ kw_L) (hAs : As.length = n) {st : List Value} (hst : st = As.reverse ++ rest) (hWt : (rest.map fun v => v.category).sum ≤ 8)
    (hfr : rm.frames + 1 ≤ R.frames) (hlo : 8 + (maxL + 11) + rm.locals ≤ R.locals) (hc : cells + rm.cells ≤ R.cells) (hs : slots + rm.slots ≤ R.slots) (hd : decode cc pc = .ok (.invokestatic index, 3))
    (kr : ∀ (v : Option Value) (h2 : hp_T), pst (.inl v) h2 → Wk p l e R s m args below meth c nL D HB Q h2 (cells + rm.cells) (slots + rm.slots) (pc + 3) lv (v.toList ++ rest))
    (kx : ∀ (E : String) (h2 : hp_T), pst (.inr E) h2 → Wx p l e R s m args below meth c nL D HB Q h2 (cells + rm.cells) (slots + rm.slots) pc lv E) : Wk p l e R s m args below meth c nL D HB Q h cells slots pc lv st := by
  intro H locs ls hP hS hl T hT X
  obtain ⟨hlink, hstat, hy, hnp⟩ := Y
  obtain ⟨mk, hnamed⟩ := Cond.code_named (C.hts _ hcd)
  obtain ⟨methM, cM, hmethM, -, -, -, -, -, -, hsigM⟩ := Cond.code_spec hnamed (C.hts _ hcd)
  have hstatic : methM.isStatic = true := Cond.static_spec hnamed hmethM (C.hts _ hstat)
  obtain ⟨kP, hkP, -⟩ := className_of_methodNamed hnamed
  have hinitP : kP.init = .initialized := Cond.initialized_spec (findClass_of_methodNamed hnamed) hkP (C.hts _ hini)
  subst hst
  subst hT
  have hbd : decode c.code pc = .ok (.invokestatic index, 3) := by rw [C.2.1]; exact hd
  obtain ⟨vm₁, X₁, hstep₁⟩ := X.invokestatic C.1 C.ow (C.hts _ hlink) hnamed hmethM hstatic hkP hinitP hy (g := F0 m pc ls (As.reverse ++ rest)) rfl (argsL := As) (rest := rest) (hAs.trans (cs_len hnp _ hsigM)) rfl hbd
  rcases ct_call C X₁ M hcd ct_codeL hini (g := F0 m pc ls rest) rfl hl.1 hbd (lv_room hWt) (X₁.named hnamed) hfr hlo hc hs hP hS with ⟨v, h2, T2, locs2, hpo, hP2, hS2, X2, hst2⟩ | ⟨x, E, ce, h2, T2, locs2, hpo, hx1, hx2, hx3, hP2, hS2, X2, hst2⟩
  · obtain ⟨t, a1, b1⟩ := kr v h2 hpo T2.heap locs2 ls hP2 hS2 hl T2 rfl X2
    exact ⟨t, hstep₁ _ fun acts => by rw [doInvoke_state]; exact hst2.trans a1, b1⟩
  · obtain ⟨t, a1, b1⟩ := kx E h2 hpo x ce T2 locs2 ls rest hx1 hx2 hx3 hP2 hS2 hl X2
    exact ⟨t, hstep₁ _ fun acts => by rw [doInvoke_state]; exact hst2.trans a1, b1⟩
def cs_I (own : String) (index : Nat) (y : MethodName) (n : Nat) : Prop := Cond.methodLink own index y ∈ kw_L ∧ Cond.instanceMethod y ∈ kw_L ∧ y.name = "<init>" ∧ (y.cls ≠ "java/lang/invoke/MethodHandle" ∧ y.cls ≠ "java/lang/invoke/VarHandle") ∧ (parseMethodDescriptor y.desc).map (fun d => d.parameters.length) = some n
theorem wk_callI (C : wk_C p s m args meth c cc own nL ret hh D HB) {y : MethodName} {by2 : ByteArray} {maxL : Nat} {rm : Room} {b : Nat} {As : List Value} {pst : ct_O → hp_T → Prop} (M : ct_M l y (.code y by2 maxL none) rm D HB (.ref b :: As) h pst)
    {index n : Nat} (Y : cs_I own index y n) (hcd : Cond.code y by2 maxL none ∈ kw_L) (hini : Cond.initialized y.cls ∈ kw_L) (hAs : As.length = n) {st : List Value} (hst : st = As.reverse ++ .ref b :: rest) (hWt : (rest.map fun v => v.category).sum ≤ 8)
    (hfr : rm.frames + 1 ≤ R.frames) (hlo : 8 + (maxL + 11) + rm.locals ≤ R.locals) (hc : cells + rm.cells ≤ R.cells) (hs : slots + rm.slots ≤ R.slots) (hd : decode cc pc = .ok (.invokespecial index, 3))
    (kr : ∀ (v : Option Value) (h2 : hp_T), pst (.inl v) h2 → Wk p l e R s m args below meth c nL D HB Q h2 (cells + rm.cells) (slots + rm.slots) (pc + 3) lv (v.toList ++ rest))
    (kx : ∀ (E : String) (h2 : hp_T), pst (.inr E) h2 → Wx p l e R s m args below meth c nL D HB Q h2 (cells + rm.cells) (slots + rm.slots) pc lv E) : Wk p l e R s m args below meth c nL D HB Q h cells slots pc lv st := by
  intro H locs ls hP hS hl T hT X
  obtain ⟨hlink, hinst, hy1, hy, hnp⟩ := Y
  subst hst
  subst hT
  have hpl : e.platform.magicAccessors = ({} : Platform).magicAccessors := by rw [X.admits.platform]
  have hbd : decode c.code pc = .ok (.invokespecial index, 3) := by rw [C.2.1]; exact hd
  obtain ⟨mk, methM, cM, kP, vm₁, hnamed, hmethM, hcodeM, -, hlocalsM, -, hkP, -, hW₁, hstep₁⟩ := Steps.initColdArgs (e := e) X.here C.1 X.warmed hpl C.ow hy1 hy (C.hts _ hlink) (C.hts _ hinst) (C.hts _ hcd) (f := F0 m pc ls (As.reverse ++ .ref b :: rest)) rfl (argsL := As) (fun sig hsig => hAs.trans (cs_len hnp sig hsig)) rfl hbd
  have X₁ := X.noted hW₁
  rcases ct_call C X₁ M hcd ct_codeL hini (g := F0 m pc ls rest) rfl hl.1 hbd (lv_room hWt) (X₁.named hnamed) hfr hlo hc hs hP hS with ⟨v, h2, T2, locs2, hpo, hP2, hS2, X2, hst2⟩ | ⟨x, E, ce, h2, T2, locs2, hpo, hx1, hx2, hx3, hP2, hS2, X2, hst2⟩
  · obtain ⟨t, a1, b1⟩ := kr v h2 hpo T2.heap locs2 ls hP2 hS2 hl T2 rfl X2
    exact ⟨t, hstep₁ _ fun acts => by rw [doInvoke_state]; exact hst2.trans a1, b1⟩
  · obtain ⟨t, a1, b1⟩ := kx E h2 hpo x ce T2 locs2 ls rest hx1 hx2 hx3 hP2 hS2 hl X2
    exact ⟨t, hstep₁ _ fun acts => by rw [doInvoke_state]; exact hst2.trans a1, b1⟩
end WE
end
section
theorem fk_AL_9 : Cond.fieldLink "java/util/ArrayList" 9 "java/util/ArrayList" "elementData" "[Ljava/lang/Object;" ∈ kw_L := kw_in 45 (by decide +kernel) (by decide +kernel)
theorem fd_AL_9 : fd_ok "java/util/ArrayList" 9 7 1 (.array (.object "java/lang/Object")) false := ⟨"java/util/ArrayList", "java/util/ArrayList", T_AL, 3, t_AL, rfl, i_AL, by decide, fk_AL_9, Or.inl rfl, by decide +kernel, rfl, o_AL, n_AL⟩
theorem fk_AL_48 : Cond.fieldLink "java/util/ArrayList" 48 "java/util/ArrayList" "size" "I" ∈ kw_L := kw_in 46 (by decide +kernel) (by decide +kernel)
theorem fd_AL_48 : fd_ok "java/util/ArrayList" 48 7 2 (.int) false := ⟨"java/util/ArrayList", "java/util/ArrayList", T_AL, 3, t_AL, rfl, i_AL, by decide, fk_AL_48, Or.inl rfl, by decide +kernel, rfl, o_AL, n_AL⟩
theorem fk_BL_7 : Cond.fieldLink "java/util/AbstractList" 7 "java/util/AbstractList" "modCount" "I" ∈ kw_L := kw_in 47 (by decide +kernel) (by decide +kernel)
theorem fd_BL_7 : fd_ok "java/util/AbstractList" 7 7 0 (.int) false := ⟨"java/util/AbstractList", "java/util/ArrayList", T_AL, 3, t_AL, rfl, i_AL, by decide, fk_BL_7, Or.inl rfl, by decide +kernel, rfl, o_AL, n_AL⟩
theorem fk_AL_63 : Cond.fieldLink "java/util/ArrayList" 63 "java/util/ArrayList" "modCount" "I" ∈ kw_L := kw_in 48 (by decide +kernel) (by decide +kernel)
theorem fd_AL_63 : fd_ok "java/util/ArrayList" 63 7 0 (.int) false := ⟨"java/util/ArrayList", "java/util/ArrayList", T_AL, 3, t_AL, rfl, i_AL, by decide, fk_AL_63, Or.inr (kw_in 49 (by decide +kernel) (by decide +kernel)), by decide +kernel, rfl, o_AL, n_AL⟩
theorem fk_NM_9 : Cond.fieldLink "ProfileRights$Name" 9 "ProfileRights$Name" "characters" "[I" ∈ kw_L := kw_in 63 (by decide +kernel) (by decide +kernel)
theorem fd_NM_9 : fd_ok "ProfileRights$Name" 9 3 0 (.array .int) true := ⟨"ProfileRights$Name", "ProfileRights$Name", T_NM, 4, t_NM, rfl, i_NM, by decide, fk_NM_9, Or.inl rfl, by decide +kernel, rfl, o_NM, n_NM⟩
theorem ff_NM_9 : ff_ok "ProfileRights$Name" 9 3 0 (.array .int) := ⟨fd_NM_9, "ProfileRights$Name", T_NM, 4, rfl, rfl⟩
theorem fk_NM_15 : Cond.fieldLink "ProfileRights$Name" 15 "ProfileRights$Name" "length" "I" ∈ kw_L := kw_in 64 (by decide +kernel) (by decide +kernel)
theorem fd_NM_15 : fd_ok "ProfileRights$Name" 15 3 1 (.int) false := ⟨"ProfileRights$Name", "ProfileRights$Name", T_NM, 4, t_NM, rfl, i_NM, by decide, fk_NM_15, Or.inl rfl, by decide +kernel, rfl, o_NM, n_NM⟩
theorem fk_PR_139 : Cond.fieldLink "ProfileRights" 139 "ProfileRights$Name" "length" "I" ∈ kw_L := kw_in 65 (by decide +kernel) (by decide +kernel)
theorem fd_PR_139 : fd_ok "ProfileRights" 139 3 1 (.int) false := ⟨"ProfileRights$Name", "ProfileRights$Name", T_NM, 4, t_NM, rfl, i_NM, by decide, fk_PR_139, Or.inl rfl, by decide +kernel, rfl, o_NM, n_NM⟩
theorem fk_NM_19 : Cond.fieldLink "ProfileRights$Name" 19 "ProfileRights$Name" "special" "I" ∈ kw_L := kw_in 66 (by decide +kernel) (by decide +kernel)
theorem fd_NM_19 : fd_ok "ProfileRights$Name" 19 3 2 (.int) false := ⟨"ProfileRights$Name", "ProfileRights$Name", T_NM, 4, t_NM, rfl, i_NM, by decide, fk_NM_19, Or.inl rfl, by decide +kernel, rfl, o_NM, n_NM⟩
theorem fk_NM_22 : Cond.fieldLink "ProfileRights$Name" 22 "ProfileRights$Name" "ahead" "I" ∈ kw_L := kw_in 67 (by decide +kernel) (by decide +kernel)
theorem fd_NM_22 : fd_ok "ProfileRights$Name" 22 3 3 (.int) false := ⟨"ProfileRights$Name", "ProfileRights$Name", T_NM, 4, t_NM, rfl, i_NM, by decide, fk_NM_22, Or.inl rfl, by decide +kernel, rfl, o_NM, n_NM⟩
theorem fk_TR_11 : Cond.fieldLink "ProfileRights$Trail" 11 "ProfileRights$Trail" "cells" "[I" ∈ kw_L := kw_in 84 (by decide +kernel) (by decide +kernel)
theorem fd_TR_11 : fd_ok "ProfileRights$Trail" 11 6 0 (.array .int) true := ⟨"ProfileRights$Trail", "ProfileRights$Trail", T_TR, 3, t_TR, rfl, i_TR, by decide, fk_TR_11, Or.inl rfl, by decide +kernel, rfl, o_TR, n_TR⟩
theorem ff_TR_11 : ff_ok "ProfileRights$Trail" 11 6 0 (.array .int) := ⟨fd_TR_11, "ProfileRights$Trail", T_TR, 3, rfl, rfl⟩
theorem fk_TR_15 : Cond.fieldLink "ProfileRights$Trail" 15 "ProfileRights$Trail" "kept" "I" ∈ kw_L := kw_in 85 (by decide +kernel) (by decide +kernel)
theorem fd_TR_15 : fd_ok "ProfileRights$Trail" 15 6 1 (.int) false := ⟨"ProfileRights$Trail", "ProfileRights$Trail", T_TR, 3, t_TR, rfl, i_TR, by decide, fk_TR_15, Or.inl rfl, by decide +kernel, rfl, o_TR, n_TR⟩
theorem fk_TR_19 : Cond.fieldLink "ProfileRights$Trail" 19 "ProfileRights$Trail" "written" "I" ∈ kw_L := kw_in 86 (by decide +kernel) (by decide +kernel)
theorem fd_TR_19 : fd_ok "ProfileRights$Trail" 19 6 2 (.int) false := ⟨"ProfileRights$Trail", "ProfileRights$Trail", T_TR, 3, t_TR, rfl, i_TR, by decide, fk_TR_19, Or.inl rfl, by decide +kernel, rfl, o_TR, n_TR⟩
theorem fk_PR_216 : Cond.fieldLink "ProfileRights" 216 "ProfileRights$Trail" "written" "I" ∈ kw_L := kw_in 87 (by decide +kernel) (by decide +kernel)
theorem fd_PR_216 : fd_ok "ProfileRights" 216 6 2 (.int) false := ⟨"ProfileRights$Trail", "ProfileRights$Trail", T_TR, 3, t_TR, rfl, i_TR, by decide, fk_PR_216, Or.inl rfl, by decide +kernel, rfl, o_TR, n_TR⟩
theorem fk_PR_12 : Cond.fieldLink "ProfileRights" 12 "ProfileRights" "groups" "Ljava/util/ArrayList;" ∈ kw_L := kw_in 95 (by decide +kernel) (by decide +kernel)
theorem fd_PR_12 : fd_ok "ProfileRights" 12 0 0 (.object "java/util/ArrayList") true := ⟨"ProfileRights", "ProfileRights", T_PR, 7, t_PR, rfl, i_PR, by decide, fk_PR_12, Or.inl rfl, by decide +kernel, rfl, o_PR, n_PR⟩
theorem ff_PR_12 : ff_ok "ProfileRights" 12 0 0 (.object "java/util/ArrayList") := ⟨fd_PR_12, "ProfileRights", T_PR, 7, rfl, rfl⟩
theorem fk_PR_16 : Cond.fieldLink "ProfileRights" 16 "ProfileRights" "users" "Ljava/util/ArrayList;" ∈ kw_L := kw_in 96 (by decide +kernel) (by decide +kernel)
theorem fd_PR_16 : fd_ok "ProfileRights" 16 0 1 (.object "java/util/ArrayList") true := ⟨"ProfileRights", "ProfileRights", T_PR, 7, t_PR, rfl, i_PR, by decide, fk_PR_16, Or.inl rfl, by decide +kernel, rfl, o_PR, n_PR⟩
theorem ff_PR_16 : ff_ok "ProfileRights" 16 0 1 (.object "java/util/ArrayList") := ⟨fd_PR_16, "ProfileRights", T_PR, 7, rfl, rfl⟩
theorem fk_PR_19 : Cond.fieldLink "ProfileRights" 19 "ProfileRights" "profiles" "Ljava/util/ArrayList;" ∈ kw_L := kw_in 97 (by decide +kernel) (by decide +kernel)
theorem fd_PR_19 : fd_ok "ProfileRights" 19 0 2 (.object "java/util/ArrayList") true := ⟨"ProfileRights", "ProfileRights", T_PR, 7, t_PR, rfl, i_PR, by decide, fk_PR_19, Or.inl rfl, by decide +kernel, rfl, o_PR, n_PR⟩
theorem ff_PR_19 : ff_ok "ProfileRights" 19 0 2 (.object "java/util/ArrayList") := ⟨fd_PR_19, "ProfileRights", T_PR, 7, rfl, rfl⟩
theorem fk_PR_22 : Cond.fieldLink "ProfileRights" 22 "ProfileRights" "modes" "[I" ∈ kw_L := kw_in 98 (by decide +kernel) (by decide +kernel)
theorem fd_PR_22 : fd_ok "ProfileRights" 22 0 3 (.array .int) true := ⟨"ProfileRights", "ProfileRights", T_PR, 7, t_PR, rfl, i_PR, by decide, fk_PR_22, Or.inl rfl, by decide +kernel, rfl, o_PR, n_PR⟩
theorem ff_PR_22 : ff_ok "ProfileRights" 22 0 3 (.array .int) := ⟨fd_PR_22, "ProfileRights", T_PR, 7, rfl, rfl⟩
theorem fk_PR_29 : Cond.fieldLink "ProfileRights" 29 "ProfileRights" "asked" "LProfileRights$Name;" ∈ kw_L := kw_in 99 (by decide +kernel) (by decide +kernel)
theorem fd_PR_29 : fd_ok "ProfileRights" 29 0 4 (.object "ProfileRights$Name") true := ⟨"ProfileRights", "ProfileRights", T_PR, 7, t_PR, rfl, i_PR, by decide, fk_PR_29, Or.inl rfl, by decide +kernel, rfl, o_PR, n_PR⟩
theorem ff_PR_29 : ff_ok "ProfileRights" 29 0 4 (.object "ProfileRights$Name") := ⟨fd_PR_29, "ProfileRights", T_PR, 7, rfl, rfl⟩
theorem fk_PR_36 : Cond.fieldLink "ProfileRights" 36 "ProfileRights" "trail" "LProfileRights$Trail;" ∈ kw_L := kw_in 100 (by decide +kernel) (by decide +kernel)
theorem fd_PR_36 : fd_ok "ProfileRights" 36 0 5 (.object "ProfileRights$Trail") true := ⟨"ProfileRights", "ProfileRights", T_PR, 7, t_PR, rfl, i_PR, by decide, fk_PR_36, Or.inl rfl, by decide +kernel, rfl, o_PR, n_PR⟩
theorem ff_PR_36 : ff_ok "ProfileRights" 36 0 5 (.object "ProfileRights$Trail") := ⟨fd_PR_36, "ProfileRights", T_PR, 7, rfl, rfl⟩
theorem fk_PR_40 : Cond.fieldLink "ProfileRights" 40 "ProfileRights" "latestProfile" "I" ∈ kw_L := kw_in 101 (by decide +kernel) (by decide +kernel)
theorem fd_PR_40 : fd_ok "ProfileRights" 40 0 6 (.int) false := ⟨"ProfileRights", "ProfileRights", T_PR, 7, t_PR, rfl, i_PR, by decide, fk_PR_40, Or.inl rfl, by decide +kernel, rfl, o_PR, n_PR⟩
theorem fk_GR_7 : Cond.fieldLink "ProfileRights$Group" 7 "ProfileRights$Group" "number" "I" ∈ kw_L := kw_in 290 (by decide +kernel) (by decide +kernel)
theorem fd_GR_7 : fd_ok "ProfileRights$Group" 7 1 0 (.int) true := ⟨"ProfileRights$Group", "ProfileRights$Group", T_GR, 2, t_GR, rfl, i_GR, by decide, fk_GR_7, Or.inl rfl, by decide +kernel, rfl, o_GR, n_GR⟩
theorem ff_GR_7 : ff_ok "ProfileRights$Group" 7 1 0 (.int) := ⟨fd_GR_7, "ProfileRights$Group", T_GR, 2, rfl, rfl⟩
theorem fk_PF_69 : Cond.fieldLink "ProfileRights$Profile" 69 "ProfileRights$Group" "number" "I" ∈ kw_L := kw_in 291 (by decide +kernel) (by decide +kernel)
theorem fd_PF_69 : fd_ok "ProfileRights$Profile" 69 1 0 (.int) true := ⟨"ProfileRights$Group", "ProfileRights$Group", T_GR, 2, t_GR, rfl, i_GR, by decide, fk_PF_69, Or.inl rfl, by decide +kernel, rfl, o_GR, n_GR⟩
theorem fk_GR_13 : Cond.fieldLink "ProfileRights$Group" 13 "ProfileRights$Group" "upper" "LProfileRights$Group;" ∈ kw_L := kw_in 292 (by decide +kernel) (by decide +kernel)
theorem fd_GR_13 : fd_ok "ProfileRights$Group" 13 1 1 (.object "ProfileRights$Group") false := ⟨"ProfileRights$Group", "ProfileRights$Group", T_GR, 2, t_GR, rfl, i_GR, by decide, fk_GR_13, Or.inl rfl, by decide +kernel, rfl, o_GR, n_GR⟩
theorem fk_PR_75 : Cond.fieldLink "ProfileRights" 75 "ProfileRights$Group" "upper" "LProfileRights$Group;" ∈ kw_L := kw_in 293 (by decide +kernel) (by decide +kernel)
theorem fd_PR_75 : fd_ok "ProfileRights" 75 1 1 (.object "ProfileRights$Group") false := ⟨"ProfileRights$Group", "ProfileRights$Group", T_GR, 2, t_GR, rfl, i_GR, by decide, fk_PR_75, Or.inl rfl, by decide +kernel, rfl, o_GR, n_GR⟩
theorem fk_PF_72 : Cond.fieldLink "ProfileRights$Profile" 72 "ProfileRights$Group" "upper" "LProfileRights$Group;" ∈ kw_L := kw_in 294 (by decide +kernel) (by decide +kernel)
theorem fd_PF_72 : fd_ok "ProfileRights$Profile" 72 1 1 (.object "ProfileRights$Group") false := ⟨"ProfileRights$Group", "ProfileRights$Group", T_GR, 2, t_GR, rfl, i_GR, by decide, fk_PF_72, Or.inl rfl, by decide +kernel, rfl, o_GR, n_GR⟩
theorem fk_US_9 : Cond.fieldLink "ProfileRights$User" 9 "ProfileRights$User" "number" "I" ∈ kw_L := kw_in 381 (by decide +kernel) (by decide +kernel)
theorem fd_US_9 : fd_ok "ProfileRights$User" 9 2 0 (.int) true := ⟨"ProfileRights$User", "ProfileRights$User", T_US, 6, t_US, rfl, i_US, by decide, fk_US_9, Or.inl rfl, by decide +kernel, rfl, o_US, n_US⟩
theorem ff_US_9 : ff_ok "ProfileRights$User" 9 2 0 (.int) := ⟨fd_US_9, "ProfileRights$User", T_US, 6, rfl, rfl⟩
theorem fk_PF_58 : Cond.fieldLink "ProfileRights$Profile" 58 "ProfileRights$User" "number" "I" ∈ kw_L := kw_in 382 (by decide +kernel) (by decide +kernel)
theorem fd_PF_58 : fd_ok "ProfileRights$Profile" 58 2 0 (.int) true := ⟨"ProfileRights$User", "ProfileRights$User", T_US, 6, t_US, rfl, i_US, by decide, fk_PF_58, Or.inl rfl, by decide +kernel, rfl, o_US, n_US⟩
theorem fk_US_15 : Cond.fieldLink "ProfileRights$User" 15 "ProfileRights$User" "home" "LProfileRights$Group;" ∈ kw_L := kw_in 383 (by decide +kernel) (by decide +kernel)
theorem fd_US_15 : fd_ok "ProfileRights$User" 15 2 1 (.object "ProfileRights$Group") true := ⟨"ProfileRights$User", "ProfileRights$User", T_US, 6, t_US, rfl, i_US, by decide, fk_US_15, Or.inl rfl, by decide +kernel, rfl, o_US, n_US⟩
theorem ff_US_15 : ff_ok "ProfileRights$User" 15 2 1 (.object "ProfileRights$Group") := ⟨fd_US_15, "ProfileRights$User", T_US, 6, rfl, rfl⟩
theorem fk_PF_65 : Cond.fieldLink "ProfileRights$Profile" 65 "ProfileRights$User" "home" "LProfileRights$Group;" ∈ kw_L := kw_in 384 (by decide +kernel) (by decide +kernel)
theorem fd_PF_65 : fd_ok "ProfileRights$Profile" 65 2 1 (.object "ProfileRights$Group") true := ⟨"ProfileRights$User", "ProfileRights$User", T_US, 6, t_US, rfl, i_US, by decide, fk_PF_65, Or.inl rfl, by decide +kernel, rfl, o_US, n_US⟩
theorem fk_US_19 : Cond.fieldLink "ProfileRights$User" 19 "ProfileRights$User" "place" "I" ∈ kw_L := kw_in 385 (by decide +kernel) (by decide +kernel)
theorem fd_US_19 : fd_ok "ProfileRights$User" 19 2 2 (.int) false := ⟨"ProfileRights$User", "ProfileRights$User", T_US, 6, t_US, rfl, i_US, by decide, fk_US_19, Or.inl rfl, by decide +kernel, rfl, o_US, n_US⟩
theorem fk_EN_25 : Cond.fieldLink "ProfileRights$Entry" 25 "ProfileRights$User" "place" "I" ∈ kw_L := kw_in 386 (by decide +kernel) (by decide +kernel)
theorem fd_EN_25 : fd_ok "ProfileRights$Entry" 25 2 2 (.int) false := ⟨"ProfileRights$User", "ProfileRights$User", T_US, 6, t_US, rfl, i_US, by decide, fk_EN_25, Or.inl rfl, by decide +kernel, rfl, o_US, n_US⟩
theorem fk_PR_92 : Cond.fieldLink "ProfileRights" 92 "ProfileRights$User" "place" "I" ∈ kw_L := kw_in 387 (by decide +kernel) (by decide +kernel)
theorem fd_PR_92 : fd_ok "ProfileRights" 92 2 2 (.int) false := ⟨"ProfileRights$User", "ProfileRights$User", T_US, 6, t_US, rfl, i_US, by decide, fk_PR_92, Or.inl rfl, by decide +kernel, rfl, o_US, n_US⟩
theorem fk_US_22 : Cond.fieldLink "ProfileRights$User" 22 "ProfileRights$User" "tries" "I" ∈ kw_L := kw_in 388 (by decide +kernel) (by decide +kernel)
theorem fd_US_22 : fd_ok "ProfileRights$User" 22 2 3 (.int) false := ⟨"ProfileRights$User", "ProfileRights$User", T_US, 6, t_US, rfl, i_US, by decide, fk_US_22, Or.inl rfl, by decide +kernel, rfl, o_US, n_US⟩
theorem fk_PR_99 : Cond.fieldLink "ProfileRights" 99 "ProfileRights$User" "tries" "I" ∈ kw_L := kw_in 389 (by decide +kernel) (by decide +kernel)
theorem fd_PR_99 : fd_ok "ProfileRights" 99 2 3 (.int) false := ⟨"ProfileRights$User", "ProfileRights$User", T_US, 6, t_US, rfl, i_US, by decide, fk_PR_99, Or.inl rfl, by decide +kernel, rfl, o_US, n_US⟩
theorem fk_US_25 : Cond.fieldLink "ProfileRights$User" 25 "ProfileRights$User" "revoked" "Z" ∈ kw_L := kw_in 390 (by decide +kernel) (by decide +kernel)
theorem fd_US_25 : fd_ok "ProfileRights$User" 25 2 4 (.boolean) false := ⟨"ProfileRights$User", "ProfileRights$User", T_US, 6, t_US, rfl, i_US, by decide, fk_US_25, Or.inl rfl, by decide +kernel, rfl, o_US, n_US⟩
theorem fk_PR_95 : Cond.fieldLink "ProfileRights" 95 "ProfileRights$User" "revoked" "Z" ∈ kw_L := kw_in 391 (by decide +kernel) (by decide +kernel)
theorem fd_PR_95 : fd_ok "ProfileRights" 95 2 4 (.boolean) false := ⟨"ProfileRights$User", "ProfileRights$User", T_US, 6, t_US, rfl, i_US, by decide, fk_PR_95, Or.inl rfl, by decide +kernel, rfl, o_US, n_US⟩
theorem fk_US_29 : Cond.fieldLink "ProfileRights$User" 29 "ProfileRights$User" "stoodFor" "J" ∈ kw_L := kw_in 392 (by decide +kernel) (by decide +kernel)
theorem fd_US_29 : fd_ok "ProfileRights$User" 29 2 5 (.long) false := ⟨"ProfileRights$User", "ProfileRights$User", T_US, 6, t_US, rfl, i_US, by decide, fk_US_29, Or.inl rfl, by decide +kernel, rfl, o_US, n_US⟩
theorem fk_PF_9 : Cond.fieldLink "ProfileRights$Profile" 9 "ProfileRights$Profile" "number" "I" ∈ kw_L := kw_in 465 (by decide +kernel) (by decide +kernel)
theorem fd_PF_9 : fd_ok "ProfileRights$Profile" 9 5 0 (.int) true := ⟨"ProfileRights$Profile", "ProfileRights$Profile", T_PF, 6, t_PF, rfl, i_PF, by decide, fk_PF_9, Or.inl rfl, by decide +kernel, rfl, o_PF, n_PF⟩
theorem ff_PF_9 : ff_ok "ProfileRights$Profile" 9 5 0 (.int) := ⟨fd_PF_9, "ProfileRights$Profile", T_PF, 6, rfl, rfl⟩
theorem fk_PR_241 : Cond.fieldLink "ProfileRights" 241 "ProfileRights$Profile" "number" "I" ∈ kw_L := kw_in 466 (by decide +kernel) (by decide +kernel)
theorem fd_PR_241 : fd_ok "ProfileRights" 241 5 0 (.int) true := ⟨"ProfileRights$Profile", "ProfileRights$Profile", T_PF, 6, t_PF, rfl, i_PF, by decide, fk_PR_241, Or.inl rfl, by decide +kernel, rfl, o_PF, n_PF⟩
theorem fk_PF_15 : Cond.fieldLink "ProfileRights$Profile" 15 "ProfileRights$Profile" "cls" "I" ∈ kw_L := kw_in 467 (by decide +kernel) (by decide +kernel)
theorem fd_PF_15 : fd_ok "ProfileRights$Profile" 15 5 1 (.int) true := ⟨"ProfileRights$Profile", "ProfileRights$Profile", T_PF, 6, t_PF, rfl, i_PF, by decide, fk_PF_15, Or.inl rfl, by decide +kernel, rfl, o_PF, n_PF⟩
theorem ff_PF_15 : ff_ok "ProfileRights$Profile" 15 5 1 (.int) := ⟨fd_PF_15, "ProfileRights$Profile", T_PF, 6, rfl, rfl⟩
theorem fk_PR_251 : Cond.fieldLink "ProfileRights" 251 "ProfileRights$Profile" "cls" "I" ∈ kw_L := kw_in 468 (by decide +kernel) (by decide +kernel)
theorem fd_PR_251 : fd_ok "ProfileRights" 251 5 1 (.int) true := ⟨"ProfileRights$Profile", "ProfileRights$Profile", T_PF, 6, t_PF, rfl, i_PF, by decide, fk_PR_251, Or.inl rfl, by decide +kernel, rfl, o_PF, n_PF⟩
theorem fk_PF_21 : Cond.fieldLink "ProfileRights$Profile" 21 "ProfileRights$Profile" "pattern" "LProfileRights$Name;" ∈ kw_L := kw_in 469 (by decide +kernel) (by decide +kernel)
theorem fd_PF_21 : fd_ok "ProfileRights$Profile" 21 5 2 (.object "ProfileRights$Name") true := ⟨"ProfileRights$Profile", "ProfileRights$Profile", T_PF, 6, t_PF, rfl, i_PF, by decide, fk_PF_21, Or.inl rfl, by decide +kernel, rfl, o_PF, n_PF⟩
theorem ff_PF_21 : ff_ok "ProfileRights$Profile" 21 5 2 (.object "ProfileRights$Name") := ⟨fd_PF_21, "ProfileRights$Profile", T_PF, 6, rfl, rfl⟩
theorem fk_PR_121 : Cond.fieldLink "ProfileRights" 121 "ProfileRights$Profile" "pattern" "LProfileRights$Name;" ∈ kw_L := kw_in 470 (by decide +kernel) (by decide +kernel)
theorem fd_PR_121 : fd_ok "ProfileRights" 121 5 2 (.object "ProfileRights$Name") true := ⟨"ProfileRights$Profile", "ProfileRights$Profile", T_PF, 6, t_PF, rfl, i_PF, by decide, fk_PR_121, Or.inl rfl, by decide +kernel, rfl, o_PF, n_PF⟩
theorem fk_PF_28 : Cond.fieldLink "ProfileRights$Profile" 28 "ProfileRights$Profile" "entries" "Ljava/util/ArrayList;" ∈ kw_L := kw_in 471 (by decide +kernel) (by decide +kernel)
theorem fd_PF_28 : fd_ok "ProfileRights$Profile" 28 5 3 (.object "java/util/ArrayList") true := ⟨"ProfileRights$Profile", "ProfileRights$Profile", T_PF, 6, t_PF, rfl, i_PF, by decide, fk_PF_28, Or.inl rfl, by decide +kernel, rfl, o_PF, n_PF⟩
theorem ff_PF_28 : ff_ok "ProfileRights$Profile" 28 5 3 (.object "java/util/ArrayList") := ⟨fd_PF_28, "ProfileRights$Profile", T_PF, 6, rfl, rfl⟩
theorem fk_PR_171 : Cond.fieldLink "ProfileRights" 171 "ProfileRights$Profile" "entries" "Ljava/util/ArrayList;" ∈ kw_L := kw_in 472 (by decide +kernel) (by decide +kernel)
theorem fd_PR_171 : fd_ok "ProfileRights" 171 5 3 (.object "java/util/ArrayList") true := ⟨"ProfileRights$Profile", "ProfileRights$Profile", T_PF, 6, t_PF, rfl, i_PF, by decide, fk_PR_171, Or.inl rfl, by decide +kernel, rfl, o_PF, n_PF⟩
theorem fk_PF_32 : Cond.fieldLink "ProfileRights$Profile" 32 "ProfileRights$Profile" "universalLevel" "I" ∈ kw_L := kw_in 473 (by decide +kernel) (by decide +kernel)
theorem fd_PF_32 : fd_ok "ProfileRights$Profile" 32 5 4 (.int) false := ⟨"ProfileRights$Profile", "ProfileRights$Profile", T_PF, 6, t_PF, rfl, i_PF, by decide, fk_PF_32, Or.inl rfl, by decide +kernel, rfl, o_PF, n_PF⟩
theorem fk_PR_147 : Cond.fieldLink "ProfileRights" 147 "ProfileRights$Profile" "universalLevel" "I" ∈ kw_L := kw_in 474 (by decide +kernel) (by decide +kernel)
theorem fd_PR_147 : fd_ok "ProfileRights" 147 5 4 (.int) false := ⟨"ProfileRights$Profile", "ProfileRights$Profile", T_PF, 6, t_PF, rfl, i_PF, by decide, fk_PR_147, Or.inl rfl, by decide +kernel, rfl, o_PF, n_PF⟩
theorem fk_PF_35 : Cond.fieldLink "ProfileRights$Profile" 35 "ProfileRights$Profile" "marks" "I" ∈ kw_L := kw_in 475 (by decide +kernel) (by decide +kernel)
theorem fd_PF_35 : fd_ok "ProfileRights$Profile" 35 5 5 (.int) false := ⟨"ProfileRights$Profile", "ProfileRights$Profile", T_PF, 6, t_PF, rfl, i_PF, by decide, fk_PF_35, Or.inl rfl, by decide +kernel, rfl, o_PF, n_PF⟩
theorem fk_PR_150 : Cond.fieldLink "ProfileRights" 150 "ProfileRights$Profile" "marks" "I" ∈ kw_L := kw_in 476 (by decide +kernel) (by decide +kernel)
theorem fd_PR_150 : fd_ok "ProfileRights" 150 5 5 (.int) false := ⟨"ProfileRights$Profile", "ProfileRights$Profile", T_PF, 6, t_PF, rfl, i_PF, by decide, fk_PR_150, Or.inl rfl, by decide +kernel, rfl, o_PF, n_PF⟩
theorem fk_EN_9 : Cond.fieldLink "ProfileRights$Entry" 9 "ProfileRights$Entry" "holder" "I" ∈ kw_L := kw_in 560 (by decide +kernel) (by decide +kernel)
theorem fd_EN_9 : fd_ok "ProfileRights$Entry" 9 4 0 (.int) true := ⟨"ProfileRights$Entry", "ProfileRights$Entry", T_EN, 4, t_EN, rfl, i_EN, by decide, fk_EN_9, Or.inl rfl, by decide +kernel, rfl, o_EN, n_EN⟩
theorem ff_EN_9 : ff_ok "ProfileRights$Entry" 9 4 0 (.int) := ⟨fd_EN_9, "ProfileRights$Entry", T_EN, 4, rfl, rfl⟩
theorem fk_PF_52 : Cond.fieldLink "ProfileRights$Profile" 52 "ProfileRights$Entry" "holder" "I" ∈ kw_L := kw_in 561 (by decide +kernel) (by decide +kernel)
theorem fd_PF_52 : fd_ok "ProfileRights$Profile" 52 4 0 (.int) true := ⟨"ProfileRights$Entry", "ProfileRights$Entry", T_EN, 4, t_EN, rfl, i_EN, by decide, fk_PF_52, Or.inl rfl, by decide +kernel, rfl, o_EN, n_EN⟩
theorem fk_PR_205 : Cond.fieldLink "ProfileRights" 205 "ProfileRights$Entry" "holder" "I" ∈ kw_L := kw_in 562 (by decide +kernel) (by decide +kernel)
theorem fd_PR_205 : fd_ok "ProfileRights" 205 4 0 (.int) true := ⟨"ProfileRights$Entry", "ProfileRights$Entry", T_EN, 4, t_EN, rfl, i_EN, by decide, fk_PR_205, Or.inl rfl, by decide +kernel, rfl, o_EN, n_EN⟩
theorem fk_EN_15 : Cond.fieldLink "ProfileRights$Entry" 15 "ProfileRights$Entry" "level" "I" ∈ kw_L := kw_in 563 (by decide +kernel) (by decide +kernel)
theorem fd_EN_15 : fd_ok "ProfileRights$Entry" 15 4 1 (.int) false := ⟨"ProfileRights$Entry", "ProfileRights$Entry", T_EN, 4, t_EN, rfl, i_EN, by decide, fk_EN_15, Or.inl rfl, by decide +kernel, rfl, o_EN, n_EN⟩
theorem fk_PF_75 : Cond.fieldLink "ProfileRights$Profile" 75 "ProfileRights$Entry" "level" "I" ∈ kw_L := kw_in 564 (by decide +kernel) (by decide +kernel)
theorem fd_PF_75 : fd_ok "ProfileRights$Profile" 75 4 1 (.int) false := ⟨"ProfileRights$Entry", "ProfileRights$Entry", T_EN, 4, t_EN, rfl, i_EN, by decide, fk_PF_75, Or.inl rfl, by decide +kernel, rfl, o_EN, n_EN⟩
theorem fk_PR_160 : Cond.fieldLink "ProfileRights" 160 "ProfileRights$Entry" "level" "I" ∈ kw_L := kw_in 565 (by decide +kernel) (by decide +kernel)
theorem fd_PR_160 : fd_ok "ProfileRights" 160 4 1 (.int) false := ⟨"ProfileRights$Entry", "ProfileRights$Entry", T_EN, 4, t_EN, rfl, i_EN, by decide, fk_PR_160, Or.inl rfl, by decide +kernel, rfl, o_EN, n_EN⟩
theorem fk_EN_18 : Cond.fieldLink "ProfileRights$Entry" 18 "ProfileRights$Entry" "place" "I" ∈ kw_L := kw_in 566 (by decide +kernel) (by decide +kernel)
theorem fd_EN_18 : fd_ok "ProfileRights$Entry" 18 4 2 (.int) false := ⟨"ProfileRights$Entry", "ProfileRights$Entry", T_EN, 4, t_EN, rfl, i_EN, by decide, fk_EN_18, Or.inl rfl, by decide +kernel, rfl, o_EN, n_EN⟩
theorem fk_PR_175 : Cond.fieldLink "ProfileRights" 175 "ProfileRights$Entry" "place" "I" ∈ kw_L := kw_in 567 (by decide +kernel) (by decide +kernel)
theorem fd_PR_175 : fd_ok "ProfileRights" 175 4 2 (.int) false := ⟨"ProfileRights$Entry", "ProfileRights$Entry", T_EN, 4, t_EN, rfl, i_EN, by decide, fk_PR_175, Or.inl rfl, by decide +kernel, rfl, o_EN, n_EN⟩
theorem fk_EN_22 : Cond.fieldLink "ProfileRights$Entry" 22 "ProfileRights$Entry" "hours" "I" ∈ kw_L := kw_in 568 (by decide +kernel) (by decide +kernel)
theorem fd_EN_22 : fd_ok "ProfileRights$Entry" 22 4 3 (.int) false := ⟨"ProfileRights$Entry", "ProfileRights$Entry", T_EN, 4, t_EN, rfl, i_EN, by decide, fk_EN_22, Or.inl rfl, by decide +kernel, rfl, o_EN, n_EN⟩
theorem fk_PR_177 : Cond.fieldLink "ProfileRights" 177 "ProfileRights$Entry" "hours" "I" ∈ kw_L := kw_in 569 (by decide +kernel) (by decide +kernel)
theorem fd_PR_177 : fd_ok "ProfileRights" 177 4 3 (.int) false := ⟨"ProfileRights$Entry", "ProfileRights$Entry", T_EN, 4, t_EN, rfl, i_EN, by decide, fk_PR_177, Or.inl rfl, by decide +kernel, rfl, o_EN, n_EN⟩
theorem fk_MD_71 : Cond.fieldLink "ProfileRightsModel" 71 "ProfileRightsModel" "thrown" "I" ∈ kw_L := kw_in 681 (by decide +kernel) (by decide +kernel)
theorem fd_MD_71 : fd_ok "ProfileRightsModel" 71 8 0 (.int) false := ⟨"ProfileRightsModel", "ProfileRightsModel", T_MD, 27, t_MD, rfl, i_MD, by decide, fk_MD_71, Or.inl rfl, by decide +kernel, rfl, o_MD, n_MD⟩
theorem fk_MD_7 : Cond.fieldLink "ProfileRightsModel" 7 "ProfileRightsModel" "above" "[I" ∈ kw_L := kw_in 682 (by decide +kernel) (by decide +kernel)
theorem fd_MD_7 : fd_ok "ProfileRightsModel" 7 8 1 (.array .int) true := ⟨"ProfileRightsModel", "ProfileRightsModel", T_MD, 27, t_MD, rfl, i_MD, by decide, fk_MD_7, Or.inl rfl, by decide +kernel, rfl, o_MD, n_MD⟩
theorem ff_MD_7 : ff_ok "ProfileRightsModel" 7 8 1 (.array .int) := ⟨fd_MD_7, "ProfileRightsModel", T_MD, 27, rfl, rfl⟩
theorem fk_MD_13 : Cond.fieldLink "ProfileRightsModel" 13 "ProfileRightsModel" "groupOf" "[I" ∈ kw_L := kw_in 683 (by decide +kernel) (by decide +kernel)
theorem fd_MD_13 : fd_ok "ProfileRightsModel" 13 8 2 (.array .int) true := ⟨"ProfileRightsModel", "ProfileRightsModel", T_MD, 27, t_MD, rfl, i_MD, by decide, fk_MD_13, Or.inl rfl, by decide +kernel, rfl, o_MD, n_MD⟩
theorem ff_MD_13 : ff_ok "ProfileRightsModel" 13 8 2 (.array .int) := ⟨fd_MD_13, "ProfileRightsModel", T_MD, 27, rfl, rfl⟩
theorem fk_MD_16 : Cond.fieldLink "ProfileRightsModel" 16 "ProfileRightsModel" "terminals" "[I" ∈ kw_L := kw_in 684 (by decide +kernel) (by decide +kernel)
theorem fd_MD_16 : fd_ok "ProfileRightsModel" 16 8 3 (.array .int) true := ⟨"ProfileRightsModel", "ProfileRightsModel", T_MD, 27, t_MD, rfl, i_MD, by decide, fk_MD_16, Or.inl rfl, by decide +kernel, rfl, o_MD, n_MD⟩
theorem ff_MD_16 : ff_ok "ProfileRightsModel" 16 8 3 (.array .int) := ⟨fd_MD_16, "ProfileRightsModel", T_MD, 27, rfl, rfl⟩
theorem fk_MD_19 : Cond.fieldLink "ProfileRightsModel" 19 "ProfileRightsModel" "tries" "[I" ∈ kw_L := kw_in 685 (by decide +kernel) (by decide +kernel)
theorem fd_MD_19 : fd_ok "ProfileRightsModel" 19 8 4 (.array .int) true := ⟨"ProfileRightsModel", "ProfileRightsModel", T_MD, 27, t_MD, rfl, i_MD, by decide, fk_MD_19, Or.inl rfl, by decide +kernel, rfl, o_MD, n_MD⟩
theorem ff_MD_19 : ff_ok "ProfileRightsModel" 19 8 4 (.array .int) := ⟨fd_MD_19, "ProfileRightsModel", T_MD, 27, rfl, rfl⟩
theorem fk_MD_22 : Cond.fieldLink "ProfileRightsModel" 22 "ProfileRightsModel" "revoked" "[Z" ∈ kw_L := kw_in 686 (by decide +kernel) (by decide +kernel)
theorem fd_MD_22 : fd_ok "ProfileRightsModel" 22 8 5 (.array .boolean) true := ⟨"ProfileRightsModel", "ProfileRightsModel", T_MD, 27, t_MD, rfl, i_MD, by decide, fk_MD_22, Or.inl rfl, by decide +kernel, rfl, o_MD, n_MD⟩
theorem ff_MD_22 : ff_ok "ProfileRightsModel" 22 8 5 (.array .boolean) := ⟨fd_MD_22, "ProfileRightsModel", T_MD, 27, rfl, rfl⟩
theorem fk_MD_26 : Cond.fieldLink "ProfileRightsModel" 26 "ProfileRightsModel" "acts" "[Z" ∈ kw_L := kw_in 687 (by decide +kernel) (by decide +kernel)
theorem fd_MD_26 : fd_ok "ProfileRightsModel" 26 8 6 (.array .boolean) true := ⟨"ProfileRightsModel", "ProfileRightsModel", T_MD, 27, t_MD, rfl, i_MD, by decide, fk_MD_26, Or.inl rfl, by decide +kernel, rfl, o_MD, n_MD⟩
theorem ff_MD_26 : ff_ok "ProfileRightsModel" 26 8 6 (.array .boolean) := ⟨fd_MD_26, "ProfileRightsModel", T_MD, 27, rfl, rfl⟩
theorem fk_MD_75 : Cond.fieldLink "ProfileRightsModel" 75 "ProfileRightsModel" "groups" "I" ∈ kw_L := kw_in 688 (by decide +kernel) (by decide +kernel)
theorem fd_MD_75 : fd_ok "ProfileRightsModel" 75 8 7 (.int) false := ⟨"ProfileRightsModel", "ProfileRightsModel", T_MD, 27, t_MD, rfl, i_MD, by decide, fk_MD_75, Or.inl rfl, by decide +kernel, rfl, o_MD, n_MD⟩
theorem fk_MD_78 : Cond.fieldLink "ProfileRightsModel" 78 "ProfileRightsModel" "users" "I" ∈ kw_L := kw_in 689 (by decide +kernel) (by decide +kernel)
theorem fd_MD_78 : fd_ok "ProfileRightsModel" 78 8 8 (.int) false := ⟨"ProfileRightsModel", "ProfileRightsModel", T_MD, 27, t_MD, rfl, i_MD, by decide, fk_MD_78, Or.inl rfl, by decide +kernel, rfl, o_MD, n_MD⟩
theorem fk_MD_81 : Cond.fieldLink "ProfileRightsModel" 81 "ProfileRightsModel" "profiles" "I" ∈ kw_L := kw_in 690 (by decide +kernel) (by decide +kernel)
theorem fd_MD_81 : fd_ok "ProfileRightsModel" 81 8 9 (.int) false := ⟨"ProfileRightsModel", "ProfileRightsModel", T_MD, 27, t_MD, rfl, i_MD, by decide, fk_MD_81, Or.inl rfl, by decide +kernel, rfl, o_MD, n_MD⟩
theorem fk_MD_29 : Cond.fieldLink "ProfileRightsModel" 29 "ProfileRightsModel" "modes" "[I" ∈ kw_L := kw_in 691 (by decide +kernel) (by decide +kernel)
theorem fd_MD_29 : fd_ok "ProfileRightsModel" 29 8 10 (.array .int) true := ⟨"ProfileRightsModel", "ProfileRightsModel", T_MD, 27, t_MD, rfl, i_MD, by decide, fk_MD_29, Or.inl rfl, by decide +kernel, rfl, o_MD, n_MD⟩
theorem ff_MD_29 : ff_ok "ProfileRightsModel" 29 8 10 (.array .int) := ⟨fd_MD_29, "ProfileRightsModel", T_MD, 27, rfl, rfl⟩
theorem fk_MD_32 : Cond.fieldLink "ProfileRightsModel" 32 "ProfileRightsModel" "sorts" "[I" ∈ kw_L := kw_in 692 (by decide +kernel) (by decide +kernel)
theorem fd_MD_32 : fd_ok "ProfileRightsModel" 32 8 11 (.array .int) true := ⟨"ProfileRightsModel", "ProfileRightsModel", T_MD, 27, t_MD, rfl, i_MD, by decide, fk_MD_32, Or.inl rfl, by decide +kernel, rfl, o_MD, n_MD⟩
theorem ff_MD_32 : ff_ok "ProfileRightsModel" 32 8 11 (.array .int) := ⟨fd_MD_32, "ProfileRightsModel", T_MD, 27, rfl, rfl⟩
theorem fk_MD_35 : Cond.fieldLink "ProfileRightsModel" 35 "ProfileRightsModel" "names" "[I" ∈ kw_L := kw_in 693 (by decide +kernel) (by decide +kernel)
theorem fd_MD_35 : fd_ok "ProfileRightsModel" 35 8 12 (.array .int) true := ⟨"ProfileRightsModel", "ProfileRightsModel", T_MD, 27, t_MD, rfl, i_MD, by decide, fk_MD_35, Or.inl rfl, by decide +kernel, rfl, o_MD, n_MD⟩
theorem ff_MD_35 : ff_ok "ProfileRightsModel" 35 8 12 (.array .int) := ⟨fd_MD_35, "ProfileRightsModel", T_MD, 27, rfl, rfl⟩
theorem fk_MD_38 : Cond.fieldLink "ProfileRightsModel" 38 "ProfileRightsModel" "lengths" "[I" ∈ kw_L := kw_in 694 (by decide +kernel) (by decide +kernel)
theorem fd_MD_38 : fd_ok "ProfileRightsModel" 38 8 13 (.array .int) true := ⟨"ProfileRightsModel", "ProfileRightsModel", T_MD, 27, t_MD, rfl, i_MD, by decide, fk_MD_38, Or.inl rfl, by decide +kernel, rfl, o_MD, n_MD⟩
theorem ff_MD_38 : ff_ok "ProfileRightsModel" 38 8 13 (.array .int) := ⟨fd_MD_38, "ProfileRightsModel", T_MD, 27, rfl, rfl⟩
theorem fk_MD_41 : Cond.fieldLink "ProfileRightsModel" 41 "ProfileRightsModel" "levels" "[I" ∈ kw_L := kw_in 695 (by decide +kernel) (by decide +kernel)
theorem fd_MD_41 : fd_ok "ProfileRightsModel" 41 8 14 (.array .int) true := ⟨"ProfileRightsModel", "ProfileRightsModel", T_MD, 27, t_MD, rfl, i_MD, by decide, fk_MD_41, Or.inl rfl, by decide +kernel, rfl, o_MD, n_MD⟩
theorem ff_MD_41 : ff_ok "ProfileRightsModel" 41 8 14 (.array .int) := ⟨fd_MD_41, "ProfileRightsModel", T_MD, 27, rfl, rfl⟩
theorem fk_MD_44 : Cond.fieldLink "ProfileRightsModel" 44 "ProfileRightsModel" "marks" "[I" ∈ kw_L := kw_in 696 (by decide +kernel) (by decide +kernel)
theorem fd_MD_44 : fd_ok "ProfileRightsModel" 44 8 15 (.array .int) true := ⟨"ProfileRightsModel", "ProfileRightsModel", T_MD, 27, t_MD, rfl, i_MD, by decide, fk_MD_44, Or.inl rfl, by decide +kernel, rfl, o_MD, n_MD⟩
theorem ff_MD_44 : ff_ok "ProfileRightsModel" 44 8 15 (.array .int) := ⟨fd_MD_44, "ProfileRightsModel", T_MD, 27, rfl, rfl⟩
theorem fk_MD_47 : Cond.fieldLink "ProfileRightsModel" 47 "ProfileRightsModel" "entries" "[I" ∈ kw_L := kw_in 697 (by decide +kernel) (by decide +kernel)
theorem fd_MD_47 : fd_ok "ProfileRightsModel" 47 8 16 (.array .int) true := ⟨"ProfileRightsModel", "ProfileRightsModel", T_MD, 27, t_MD, rfl, i_MD, by decide, fk_MD_47, Or.inl rfl, by decide +kernel, rfl, o_MD, n_MD⟩
theorem ff_MD_47 : ff_ok "ProfileRightsModel" 47 8 16 (.array .int) := ⟨fd_MD_47, "ProfileRightsModel", T_MD, 27, rfl, rfl⟩
theorem fk_MD_50 : Cond.fieldLink "ProfileRightsModel" 50 "ProfileRightsModel" "whos" "[I" ∈ kw_L := kw_in 698 (by decide +kernel) (by decide +kernel)
theorem fd_MD_50 : fd_ok "ProfileRightsModel" 50 8 17 (.array .int) true := ⟨"ProfileRightsModel", "ProfileRightsModel", T_MD, 27, t_MD, rfl, i_MD, by decide, fk_MD_50, Or.inl rfl, by decide +kernel, rfl, o_MD, n_MD⟩
theorem ff_MD_50 : ff_ok "ProfileRightsModel" 50 8 17 (.array .int) := ⟨fd_MD_50, "ProfileRightsModel", T_MD, 27, rfl, rfl⟩
theorem fk_MD_53 : Cond.fieldLink "ProfileRightsModel" 53 "ProfileRightsModel" "grants" "[I" ∈ kw_L := kw_in 699 (by decide +kernel) (by decide +kernel)
theorem fd_MD_53 : fd_ok "ProfileRightsModel" 53 8 18 (.array .int) true := ⟨"ProfileRightsModel", "ProfileRightsModel", T_MD, 27, t_MD, rfl, i_MD, by decide, fk_MD_53, Or.inl rfl, by decide +kernel, rfl, o_MD, n_MD⟩
theorem ff_MD_53 : ff_ok "ProfileRightsModel" 53 8 18 (.array .int) := ⟨fd_MD_53, "ProfileRightsModel", T_MD, 27, rfl, rfl⟩
theorem fk_MD_56 : Cond.fieldLink "ProfileRightsModel" 56 "ProfileRightsModel" "places" "[I" ∈ kw_L := kw_in 700 (by decide +kernel) (by decide +kernel)
theorem fd_MD_56 : fd_ok "ProfileRightsModel" 56 8 19 (.array .int) true := ⟨"ProfileRightsModel", "ProfileRightsModel", T_MD, 27, t_MD, rfl, i_MD, by decide, fk_MD_56, Or.inl rfl, by decide +kernel, rfl, o_MD, n_MD⟩
theorem ff_MD_56 : ff_ok "ProfileRightsModel" 56 8 19 (.array .int) := ⟨fd_MD_56, "ProfileRightsModel", T_MD, 27, rfl, rfl⟩
theorem fk_MD_59 : Cond.fieldLink "ProfileRightsModel" 59 "ProfileRightsModel" "hours" "[I" ∈ kw_L := kw_in 701 (by decide +kernel) (by decide +kernel)
theorem fd_MD_59 : fd_ok "ProfileRightsModel" 59 8 20 (.array .int) true := ⟨"ProfileRightsModel", "ProfileRightsModel", T_MD, 27, t_MD, rfl, i_MD, by decide, fk_MD_59, Or.inl rfl, by decide +kernel, rfl, o_MD, n_MD⟩
theorem ff_MD_59 : ff_ok "ProfileRightsModel" 59 8 20 (.array .int) := ⟨fd_MD_59, "ProfileRightsModel", T_MD, 27, rfl, rfl⟩
theorem fk_MD_62 : Cond.fieldLink "ProfileRightsModel" 62 "ProfileRightsModel" "asked" "[I" ∈ kw_L := kw_in 702 (by decide +kernel) (by decide +kernel)
theorem fd_MD_62 : fd_ok "ProfileRightsModel" 62 8 21 (.array .int) true := ⟨"ProfileRightsModel", "ProfileRightsModel", T_MD, 27, t_MD, rfl, i_MD, by decide, fk_MD_62, Or.inl rfl, by decide +kernel, rfl, o_MD, n_MD⟩
theorem ff_MD_62 : ff_ok "ProfileRightsModel" 62 8 21 (.array .int) := ⟨fd_MD_62, "ProfileRightsModel", T_MD, 27, rfl, rfl⟩
theorem fk_MD_115 : Cond.fieldLink "ProfileRightsModel" 115 "ProfileRightsModel" "askedLength" "I" ∈ kw_L := kw_in 703 (by decide +kernel) (by decide +kernel)
theorem fd_MD_115 : fd_ok "ProfileRightsModel" 115 8 22 (.int) false := ⟨"ProfileRightsModel", "ProfileRightsModel", T_MD, 27, t_MD, rfl, i_MD, by decide, fk_MD_115, Or.inl rfl, by decide +kernel, rfl, o_MD, n_MD⟩
theorem fk_MD_140 : Cond.fieldLink "ProfileRightsModel" 140 "ProfileRightsModel" "latest" "I" ∈ kw_L := kw_in 704 (by decide +kernel) (by decide +kernel)
theorem fd_MD_140 : fd_ok "ProfileRightsModel" 140 8 23 (.int) false := ⟨"ProfileRightsModel", "ProfileRightsModel", T_MD, 27, t_MD, rfl, i_MD, by decide, fk_MD_140, Or.inl rfl, by decide +kernel, rfl, o_MD, n_MD⟩
theorem fk_MD_65 : Cond.fieldLink "ProfileRightsModel" 65 "ProfileRightsModel" "audit" "[I" ∈ kw_L := kw_in 705 (by decide +kernel) (by decide +kernel)
theorem fd_MD_65 : fd_ok "ProfileRightsModel" 65 8 24 (.array .int) true := ⟨"ProfileRightsModel", "ProfileRightsModel", T_MD, 27, t_MD, rfl, i_MD, by decide, fk_MD_65, Or.inl rfl, by decide +kernel, rfl, o_MD, n_MD⟩
theorem ff_MD_65 : ff_ok "ProfileRightsModel" 65 8 24 (.array .int) := ⟨fd_MD_65, "ProfileRightsModel", T_MD, 27, rfl, rfl⟩
theorem fk_MD_143 : Cond.fieldLink "ProfileRightsModel" 143 "ProfileRightsModel" "rows" "I" ∈ kw_L := kw_in 706 (by decide +kernel) (by decide +kernel)
theorem fd_MD_143 : fd_ok "ProfileRightsModel" 143 8 25 (.int) false := ⟨"ProfileRightsModel", "ProfileRightsModel", T_MD, 27, t_MD, rfl, i_MD, by decide, fk_MD_143, Or.inl rfl, by decide +kernel, rfl, o_MD, n_MD⟩
theorem fk_MD_68 : Cond.fieldLink "ProfileRightsModel" 68 "ProfileRightsModel" "fit" "[Z" ∈ kw_L := kw_in 707 (by decide +kernel) (by decide +kernel)
theorem fd_MD_68 : fd_ok "ProfileRightsModel" 68 8 26 (.array .boolean) true := ⟨"ProfileRightsModel", "ProfileRightsModel", T_MD, 27, t_MD, rfl, i_MD, by decide, fk_MD_68, Or.inl rfl, by decide +kernel, rfl, o_MD, n_MD⟩
theorem ff_MD_68 : ff_ok "ProfileRightsModel" 68 8 26 (.array .boolean) := ⟨fd_MD_68, "ProfileRightsModel", T_MD, 27, rfl, rfl⟩
theorem ml_LW_69 : Cond.methodLink "ProfileRightsLaw" 69 y_PR_init ∈ kw_L := kw_in 25 (by decide +kernel) (by decide +kernel)
theorem cs_LW_69 : cs_I "ProfileRightsLaw" 69 y_PR_init 0 := ⟨ml_LW_69, kw_in 26 (by decide +kernel) (by decide +kernel), rfl, by decide +kernel, by decide +kernel⟩
theorem ml_PR_3 : Cond.methodLink "ProfileRights" 3 y_OJ_init ∈ kw_L := kw_in 28 (by decide +kernel) (by decide +kernel)
theorem cs_PR_3 : cs_I "ProfileRights" 3 y_OJ_init 0 := ⟨ml_PR_3, kw_in 29 (by decide +kernel) (by decide +kernel), rfl, by decide +kernel, by decide +kernel⟩
theorem ml_PR_11 : Cond.methodLink "ProfileRights" 11 y_AL_init ∈ kw_L := kw_in 33 (by decide +kernel) (by decide +kernel)
theorem cs_PR_11 : cs_I "ProfileRights" 11 y_AL_init 0 := ⟨ml_PR_11, kw_in 34 (by decide +kernel) (by decide +kernel), rfl, by decide +kernel, by decide +kernel⟩
theorem ml_AL_1 : Cond.methodLink "java/util/ArrayList" 1 y_BL_init ∈ kw_L := kw_in 36 (by decide +kernel) (by decide +kernel)
theorem cs_AL_1 : cs_I "java/util/ArrayList" 1 y_BL_init 0 := ⟨ml_AL_1, kw_in 37 (by decide +kernel) (by decide +kernel), rfl, by decide +kernel, by decide +kernel⟩
theorem ml_BL_1 : Cond.methodLink "java/util/AbstractList" 1 y_BC_init ∈ kw_L := kw_in 39 (by decide +kernel) (by decide +kernel)
theorem cs_BL_1 : cs_I "java/util/AbstractList" 1 y_BC_init 0 := ⟨ml_BL_1, kw_in 40 (by decide +kernel) (by decide +kernel), rfl, by decide +kernel, by decide +kernel⟩
theorem ml_BC_1 : Cond.methodLink "java/util/AbstractCollection" 1 y_OJ_init ∈ kw_L := kw_in 42 (by decide +kernel) (by decide +kernel)
theorem cs_BC_1 : cs_I "java/util/AbstractCollection" 1 y_OJ_init 0 := ⟨ml_BC_1, kw_in 29 (by decide +kernel) (by decide +kernel), rfl, by decide +kernel, by decide +kernel⟩
theorem ml_PR_28 : Cond.methodLink "ProfileRights" 28 y_NM_init ∈ kw_L := kw_in 59 (by decide +kernel) (by decide +kernel)
theorem cs_PR_28 : cs_I "ProfileRights" 28 y_NM_init 0 := ⟨ml_PR_28, kw_in 60 (by decide +kernel) (by decide +kernel), rfl, by decide +kernel, by decide +kernel⟩
theorem ml_NM_3 : Cond.methodLink "ProfileRights$Name" 3 y_OJ_init ∈ kw_L := kw_in 62 (by decide +kernel) (by decide +kernel)
theorem cs_NM_3 : cs_I "ProfileRights$Name" 3 y_OJ_init 0 := ⟨ml_NM_3, kw_in 29 (by decide +kernel) (by decide +kernel), rfl, by decide +kernel, by decide +kernel⟩
theorem ml_PR_35 : Cond.methodLink "ProfileRights" 35 y_TR_init ∈ kw_L := kw_in 80 (by decide +kernel) (by decide +kernel)
theorem cs_PR_35 : cs_I "ProfileRights" 35 y_TR_init 0 := ⟨ml_PR_35, kw_in 81 (by decide +kernel) (by decide +kernel), rfl, by decide +kernel, by decide +kernel⟩
theorem ml_TR_3 : Cond.methodLink "ProfileRights$Trail" 3 y_OJ_init ∈ kw_L := kw_in 83 (by decide +kernel) (by decide +kernel)
theorem cs_TR_3 : cs_I "ProfileRights$Trail" 3 y_OJ_init 0 := ⟨ml_TR_3, kw_in 29 (by decide +kernel) (by decide +kernel), rfl, by decide +kernel, by decide +kernel⟩
theorem ml_LW_120 : Cond.methodLink "ProfileRightsLaw" 120 y_PR_ask ∈ kw_L := kw_in 117 (by decide +kernel) (by decide +kernel)
theorem cs_LW_120 : cs_V "ProfileRightsLaw" 120 "ProfileRights" y_PR_ask 1 := ⟨ml_LW_120, kw_in 118 (by decide +kernel) (by decide +kernel), kw_in 119 (by decide +kernel) (by decide +kernel), by decide +kernel, by decide +kernel⟩
theorem ml_PR_124 : Cond.methodLink "ProfileRights" 124 y_PR_isCharacter ∈ kw_L := kw_in 121 (by decide +kernel) (by decide +kernel)
theorem cs_PR_124 : cs_S "ProfileRights" 124 y_PR_isCharacter 1 := ⟨ml_PR_124, kw_in 122 (by decide +kernel) (by decide +kernel), by decide +kernel, by decide +kernel⟩
theorem ml_PR_136 : Cond.methodLink "ProfileRights" 136 y_NM_append ∈ kw_L := kw_in 124 (by decide +kernel) (by decide +kernel)
theorem cs_PR_136 : cs_V "ProfileRights" 136 "ProfileRights$Name" y_NM_append 1 := ⟨ml_PR_136, kw_in 125 (by decide +kernel) (by decide +kernel), kw_in 126 (by decide +kernel) (by decide +kernel), by decide +kernel, by decide +kernel⟩
theorem ml_NM_25 : Cond.methodLink "ProfileRights$Name" 25 y_NM_isFull ∈ kw_L := kw_in 128 (by decide +kernel) (by decide +kernel)
theorem cs_NM_25 : cs_V "ProfileRights$Name" 25 "ProfileRights$Name" y_NM_isFull 0 := ⟨ml_NM_25, kw_in 129 (by decide +kernel) (by decide +kernel), kw_in 130 (by decide +kernel) (by decide +kernel), by decide +kernel, by decide +kernel⟩
theorem ml_NM_29 : Cond.methodLink "ProfileRights$Name" 29 y_NM_isExact ∈ kw_L := kw_in 132 (by decide +kernel) (by decide +kernel)
theorem cs_NM_29 : cs_V "ProfileRights$Name" 29 "ProfileRights$Name" y_NM_isExact 0 := ⟨ml_NM_29, kw_in 133 (by decide +kernel) (by decide +kernel), kw_in 134 (by decide +kernel) (by decide +kernel), by decide +kernel, by decide +kernel⟩
theorem ml_PR_180 : Cond.methodLink "ProfileRights" 180 y_NM_clear ∈ kw_L := kw_in 136 (by decide +kernel) (by decide +kernel)
theorem cs_PR_180 : cs_V "ProfileRights" 180 "ProfileRights$Name" y_NM_clear 0 := ⟨ml_PR_180, kw_in 137 (by decide +kernel) (by decide +kernel), kw_in 138 (by decide +kernel) (by decide +kernel), by decide +kernel, by decide +kernel⟩
theorem ml_LW_130 : Cond.methodLink "ProfileRightsLaw" 130 y_PR_matched ∈ kw_L := kw_in 140 (by decide +kernel) (by decide +kernel)
theorem cs_LW_130 : cs_V "ProfileRightsLaw" 130 "ProfileRights" y_PR_matched 0 := ⟨ml_LW_130, kw_in 141 (by decide +kernel) (by decide +kernel), kw_in 142 (by decide +kernel) (by decide +kernel), by decide +kernel, by decide +kernel⟩
theorem ml_LW_134 : Cond.methodLink "ProfileRightsLaw" 134 y_PR_audit ∈ kw_L := kw_in 144 (by decide +kernel) (by decide +kernel)
theorem cs_LW_134 : cs_V "ProfileRightsLaw" 134 "ProfileRights" y_PR_audit 2 := ⟨ml_LW_134, kw_in 145 (by decide +kernel) (by decide +kernel), kw_in 146 (by decide +kernel) (by decide +kernel), by decide +kernel, by decide +kernel⟩
theorem ml_PR_197 : Cond.methodLink "ProfileRights" 197 y_TR_read ∈ kw_L := kw_in 148 (by decide +kernel) (by decide +kernel)
theorem cs_PR_197 : cs_V "ProfileRights" 197 "ProfileRights$Trail" y_TR_read 2 := ⟨ml_PR_197, kw_in 149 (by decide +kernel) (by decide +kernel), kw_in 150 (by decide +kernel) (by decide +kernel), by decide +kernel, by decide +kernel⟩
theorem ml_LW_148 : Cond.methodLink "ProfileRightsLaw" 148 y_PR_count ∈ kw_L := kw_in 152 (by decide +kernel) (by decide +kernel)
theorem cs_LW_148 : cs_V "ProfileRightsLaw" 148 "ProfileRights" y_PR_count 1 := ⟨ml_LW_148, kw_in 153 (by decide +kernel) (by decide +kernel), kw_in 154 (by decide +kernel) (by decide +kernel), by decide +kernel, by decide +kernel⟩
theorem ml_PR_48 : Cond.methodLink "ProfileRights" 48 y_AL_size ∈ kw_L := kw_in 156 (by decide +kernel) (by decide +kernel)
theorem cs_PR_48 : cs_V "ProfileRights" 48 "java/util/ArrayList" y_AL_size 0 := ⟨ml_PR_48, kw_in 157 (by decide +kernel) (by decide +kernel), kw_in 158 (by decide +kernel) (by decide +kernel), by decide +kernel, by decide +kernel⟩
theorem ml_PR_219 : Cond.methodLink "ProfileRights" 219 y_PR_countRevoked ∈ kw_L := kw_in 160 (by decide +kernel) (by decide +kernel)
theorem cs_PR_219 : cs_V "ProfileRights" 219 "ProfileRights" y_PR_countRevoked 0 := ⟨ml_PR_219, kw_in 162 (by decide +kernel) (by decide +kernel), kw_pr (by decide +kernel) (by decide +kernel), by decide +kernel, by decide +kernel⟩
theorem ml_PR_201 : Cond.methodLink "ProfileRights" 201 y_AL_get ∈ kw_L := kw_in 164 (by decide +kernel) (by decide +kernel)
theorem cs_PR_201 : cs_V "ProfileRights" 201 "java/util/ArrayList" y_AL_get 1 := ⟨ml_PR_201, kw_in 165 (by decide +kernel) (by decide +kernel), kw_in 166 (by decide +kernel) (by decide +kernel), by decide +kernel, by decide +kernel⟩
theorem ml_AL_118 : Cond.methodLink "java/util/ArrayList" 118 y_OB_checkIndex ∈ kw_L := kw_in 168 (by decide +kernel) (by decide +kernel)
theorem cs_AL_118 : cs_S "java/util/ArrayList" 118 y_OB_checkIndex 2 := ⟨ml_AL_118, kw_in 169 (by decide +kernel) (by decide +kernel), by decide +kernel, by decide +kernel⟩
theorem ml_OB_105 : Cond.methodLink "java/util/Objects" 105 y_PC_checkIndex ∈ kw_L := kw_in 171 (by decide +kernel) (by decide +kernel)
theorem cs_OB_105 : cs_S "java/util/Objects" 105 y_PC_checkIndex 3 := ⟨ml_OB_105, kw_in 172 (by decide +kernel) (by decide +kernel), by decide +kernel, by decide +kernel⟩
theorem ml_AL_123 : Cond.methodLink "java/util/ArrayList" 123 y_AL_elementData ∈ kw_L := kw_in 174 (by decide +kernel) (by decide +kernel)
theorem cs_AL_123 : cs_V "java/util/ArrayList" 123 "java/util/ArrayList" y_AL_elementData 1 := ⟨ml_AL_123, kw_in 175 (by decide +kernel) (by decide +kernel), kw_in 176 (by decide +kernel) (by decide +kernel), by decide +kernel, by decide +kernel⟩
theorem ml_PR_222 : Cond.methodLink "ProfileRights" 222 y_PR_countEntries ∈ kw_L := kw_in 179 (by decide +kernel) (by decide +kernel)
theorem cs_PR_222 : cs_V "ProfileRights" 222 "ProfileRights" y_PR_countEntries 0 := ⟨ml_PR_222, kw_in 181 (by decide +kernel) (by decide +kernel), kw_pr (by decide +kernel) (by decide +kernel), by decide +kernel, by decide +kernel⟩
theorem ml_LW_73 : Cond.methodLink "ProfileRightsLaw" 73 y_LW_group ∈ kw_L := kw_in 184 (by decide +kernel) (by decide +kernel)
theorem cs_LW_73 : cs_S "ProfileRightsLaw" 73 y_LW_group 3 := ⟨ml_LW_73, kw_in 185 (by decide +kernel) (by decide +kernel), by decide +kernel, by decide +kernel⟩
theorem ml_LW_7 : Cond.methodLink "ProfileRightsLaw" 7 y_PR_group ∈ kw_L := kw_in 189 (by decide +kernel) (by decide +kernel)
theorem cs_LW_7 : cs_V "ProfileRightsLaw" 7 "ProfileRights" y_PR_group 1 := ⟨ml_LW_7, kw_in 190 (by decide +kernel) (by decide +kernel), kw_in 191 (by decide +kernel) (by decide +kernel), by decide +kernel, by decide +kernel⟩
theorem ml_PR_44 : Cond.methodLink "ProfileRights" 44 y_PR_groupOrNone ∈ kw_L := kw_in 193 (by decide +kernel) (by decide +kernel)
theorem cs_PR_44 : cs_V "ProfileRights" 44 "ProfileRights" y_PR_groupOrNone 1 := ⟨ml_PR_44, kw_in 195 (by decide +kernel) (by decide +kernel), kw_pr (by decide +kernel) (by decide +kernel), by decide +kernel, by decide +kernel⟩
theorem ml_PR_68 : Cond.methodLink "ProfileRights" 68 y_PR_groupAt ∈ kw_L := kw_in 197 (by decide +kernel) (by decide +kernel)
theorem cs_PR_68 : cs_V "ProfileRights" 68 "ProfileRights" y_PR_groupAt 1 := ⟨ml_PR_68, kw_in 199 (by decide +kernel) (by decide +kernel), kw_pr (by decide +kernel) (by decide +kernel), by decide +kernel, by decide +kernel⟩
theorem ml_TH_1 : Cond.methodLink "java/lang/Throwable" 1 y_OJ_init ∈ kw_L := kw_in 226 (by decide +kernel) (by decide +kernel)
theorem cs_TH_1 : cs_I "java/lang/Throwable" 1 y_OJ_init 0 := ⟨ml_TH_1, kw_in 29 (by decide +kernel) (by decide +kernel), rfl, by decide +kernel, by decide +kernel⟩
theorem ml_PR_109 : Cond.methodLink "ProfileRights" 109 y_IA_init ∈ kw_L := kw_in 242 (by decide +kernel) (by decide +kernel)
theorem cs_PR_109 : cs_I "ProfileRights" 109 y_IA_init 1 := ⟨ml_PR_109, kw_in 243 (by decide +kernel) (by decide +kernel), rfl, by decide +kernel, by decide +kernel⟩
theorem ml_IA_7 : Cond.methodLink "java/lang/IllegalArgumentException" 7 y_RE_init ∈ kw_L := kw_in 245 (by decide +kernel) (by decide +kernel)
theorem cs_IA_7 : cs_I "java/lang/IllegalArgumentException" 7 y_RE_init 1 := ⟨ml_IA_7, kw_in 246 (by decide +kernel) (by decide +kernel), rfl, by decide +kernel, by decide +kernel⟩
theorem ml_RE_7 : Cond.methodLink "java/lang/RuntimeException" 7 y_EX_init ∈ kw_L := kw_in 248 (by decide +kernel) (by decide +kernel)
theorem cs_RE_7 : cs_I "java/lang/RuntimeException" 7 y_EX_init 1 := ⟨ml_RE_7, kw_in 249 (by decide +kernel) (by decide +kernel), rfl, by decide +kernel, by decide +kernel⟩
theorem ml_EX_7 : Cond.methodLink "java/lang/Exception" 7 y_TH_init_1 ∈ kw_L := kw_in 251 (by decide +kernel) (by decide +kernel)
theorem cs_EX_7 : cs_I "java/lang/Exception" 7 y_TH_init_1 1 := ⟨ml_EX_7, kw_in 252 (by decide +kernel) (by decide +kernel), rfl, by decide +kernel, by decide +kernel⟩
theorem ml_PR_56 : Cond.methodLink "ProfileRights" 56 y_IS_init ∈ kw_L := kw_in 279 (by decide +kernel) (by decide +kernel)
theorem cs_PR_56 : cs_I "ProfileRights" 56 y_IS_init 1 := ⟨ml_PR_56, kw_in 280 (by decide +kernel) (by decide +kernel), rfl, by decide +kernel, by decide +kernel⟩
theorem ml_IS_7 : Cond.methodLink "java/lang/IllegalStateException" 7 y_RE_init ∈ kw_L := kw_in 282 (by decide +kernel) (by decide +kernel)
theorem cs_IS_7 : cs_I "java/lang/IllegalStateException" 7 y_RE_init 1 := ⟨ml_IS_7, kw_in 246 (by decide +kernel) (by decide +kernel), rfl, by decide +kernel, by decide +kernel⟩
theorem ml_PR_61 : Cond.methodLink "ProfileRights" 61 y_GR_init ∈ kw_L := kw_in 286 (by decide +kernel) (by decide +kernel)
theorem cs_PR_61 : cs_I "ProfileRights" 61 y_GR_init 2 := ⟨ml_PR_61, kw_in 287 (by decide +kernel) (by decide +kernel), rfl, by decide +kernel, by decide +kernel⟩
theorem ml_GR_1 : Cond.methodLink "ProfileRights$Group" 1 y_OJ_init ∈ kw_L := kw_in 289 (by decide +kernel) (by decide +kernel)
theorem cs_GR_1 : cs_I "ProfileRights$Group" 1 y_OJ_init 0 := ⟨ml_GR_1, kw_in 29 (by decide +kernel) (by decide +kernel), rfl, by decide +kernel, by decide +kernel⟩
theorem ml_PR_64 : Cond.methodLink "ProfileRights" 64 y_AL_add_0 ∈ kw_L := kw_in 300 (by decide +kernel) (by decide +kernel)
theorem cs_PR_64 : cs_V "ProfileRights" 64 "java/util/ArrayList" y_AL_add_0 1 := ⟨ml_PR_64, kw_in 301 (by decide +kernel) (by decide +kernel), kw_in 302 (by decide +kernel) (by decide +kernel), by decide +kernel, by decide +kernel⟩
theorem ml_AL_131 : Cond.methodLink "java/util/ArrayList" 131 y_AL_add_1 ∈ kw_L := kw_in 304 (by decide +kernel) (by decide +kernel)
theorem cs_AL_131 : cs_V "java/util/ArrayList" 131 "java/util/ArrayList" y_AL_add_1 3 := ⟨ml_AL_131, kw_in 306 (by decide +kernel) (by decide +kernel), kw_pr (by decide +kernel) (by decide +kernel), by decide +kernel, by decide +kernel⟩
theorem ml_AL_129 : Cond.methodLink "java/util/ArrayList" 129 y_AL_grow_0 ∈ kw_L := kw_in 308 (by decide +kernel) (by decide +kernel)
theorem cs_AL_129 : cs_V "java/util/ArrayList" 129 "java/util/ArrayList" y_AL_grow_0 0 := ⟨ml_AL_129, kw_in 310 (by decide +kernel) (by decide +kernel), kw_pr (by decide +kernel) (by decide +kernel), by decide +kernel, by decide +kernel⟩
theorem ml_AL_69 : Cond.methodLink "java/util/ArrayList" 69 y_AL_grow_1 ∈ kw_L := kw_in 312 (by decide +kernel) (by decide +kernel)
theorem cs_AL_69 : cs_V "java/util/ArrayList" 69 "java/util/ArrayList" y_AL_grow_1 1 := ⟨ml_AL_69, kw_in 314 (by decide +kernel) (by decide +kernel), kw_pr (by decide +kernel) (by decide +kernel), by decide +kernel, by decide +kernel⟩
theorem ml_AL_73 : Cond.methodLink "java/util/ArrayList" 73 y_AS_newLength ∈ kw_L := kw_in 316 (by decide +kernel) (by decide +kernel)
theorem cs_AL_73 : cs_S "java/util/ArrayList" 73 y_AS_newLength 3 := ⟨ml_AL_73, kw_in 317 (by decide +kernel) (by decide +kernel), by decide +kernel, by decide +kernel⟩
theorem ml_AS_194 : Cond.methodLink "jdk/internal/util/ArraysSupport" 194 y_MA_max ∈ kw_L := kw_in 319 (by decide +kernel) (by decide +kernel)
theorem cs_AS_194 : cs_S "jdk/internal/util/ArraysSupport" 194 y_MA_max 2 := ⟨ml_AS_194, kw_in 320 (by decide +kernel) (by decide +kernel), by decide +kernel, by decide +kernel⟩
theorem ml_AS_201 : Cond.methodLink "jdk/internal/util/ArraysSupport" 201 y_AS_hugeLength ∈ kw_L := kw_in 323 (by decide +kernel) (by decide +kernel)
theorem cs_AS_201 : cs_S "jdk/internal/util/ArraysSupport" 201 y_AS_hugeLength 2 := ⟨ml_AS_201, kw_in 324 (by decide +kernel) (by decide +kernel), by decide +kernel, by decide +kernel⟩
theorem ml_AL_66 : Cond.methodLink "java/util/ArrayList" 66 y_AR_copyOf_0 ∈ kw_L := kw_in 326 (by decide +kernel) (by decide +kernel)
theorem cs_AL_66 : cs_S "java/util/ArrayList" 66 y_AR_copyOf_0 2 := ⟨ml_AL_66, kw_in 327 (by decide +kernel) (by decide +kernel), by decide +kernel, by decide +kernel⟩
theorem ml_AR_300 : Cond.methodLink "java/util/Arrays" 300 y_AR_copyOf_1 ∈ kw_L := kw_in 344 (by decide +kernel) (by decide +kernel)
theorem cs_AR_300 : cs_S "java/util/Arrays" 300 y_AR_copyOf_1 3 := ⟨ml_AR_300, kw_in 345 (by decide +kernel) (by decide +kernel), by decide +kernel, by decide +kernel⟩
theorem ml_AR_304 : Cond.methodLink "java/util/Arrays" 304 y_MA_min ∈ kw_L := kw_in 350 (by decide +kernel) (by decide +kernel)
theorem cs_AR_304 : cs_S "java/util/Arrays" 304 y_MA_min 2 := ⟨ml_AR_304, kw_in 351 (by decide +kernel) (by decide +kernel), by decide +kernel, by decide +kernel⟩
theorem ml_AL_79 : Cond.methodLink "java/util/ArrayList" 79 y_MA_max ∈ kw_L := kw_in 356 (by decide +kernel) (by decide +kernel)
theorem cs_AL_79 : cs_S "java/util/ArrayList" 79 y_MA_max 2 := ⟨ml_AL_79, kw_in 320 (by decide +kernel) (by decide +kernel), by decide +kernel, by decide +kernel⟩
theorem ml_LW_83 : Cond.methodLink "ProfileRightsLaw" 83 y_LW_move ∈ kw_L := kw_in 358 (by decide +kernel) (by decide +kernel)
theorem cs_LW_83 : cs_S "ProfileRightsLaw" 83 y_LW_move 4 := ⟨ml_LW_83, kw_in 359 (by decide +kernel) (by decide +kernel), by decide +kernel, by decide +kernel⟩
theorem ml_LW_17 : Cond.methodLink "ProfileRightsLaw" 17 y_PR_move ∈ kw_L := kw_in 361 (by decide +kernel) (by decide +kernel)
theorem cs_LW_17 : cs_V "ProfileRightsLaw" 17 "ProfileRights" y_PR_move 2 := ⟨ml_LW_17, kw_in 362 (by decide +kernel) (by decide +kernel), kw_in 363 (by decide +kernel) (by decide +kernel), by decide +kernel, by decide +kernel⟩
theorem ml_PR_71 : Cond.methodLink "ProfileRights" 71 y_PR_isWithin ∈ kw_L := kw_in 365 (by decide +kernel) (by decide +kernel)
theorem cs_PR_71 : cs_S "ProfileRights" 71 y_PR_isWithin 2 := ⟨ml_PR_71, kw_in 366 (by decide +kernel) (by decide +kernel), by decide +kernel, by decide +kernel⟩
theorem ml_LW_87 : Cond.methodLink "ProfileRightsLaw" 87 y_LW_user ∈ kw_L := kw_in 368 (by decide +kernel) (by decide +kernel)
theorem cs_LW_87 : cs_S "ProfileRightsLaw" 87 y_LW_user 3 := ⟨ml_LW_87, kw_in 369 (by decide +kernel) (by decide +kernel), by decide +kernel, by decide +kernel⟩
theorem ml_LW_21 : Cond.methodLink "ProfileRightsLaw" 21 y_PR_user ∈ kw_L := kw_in 371 (by decide +kernel) (by decide +kernel)
theorem cs_LW_21 : cs_V "ProfileRightsLaw" 21 "ProfileRights" y_PR_user 1 := ⟨ml_LW_21, kw_in 372 (by decide +kernel) (by decide +kernel), kw_in 373 (by decide +kernel) (by decide +kernel), by decide +kernel, by decide +kernel⟩
theorem ml_PR_83 : Cond.methodLink "ProfileRights" 83 y_US_init ∈ kw_L := kw_in 377 (by decide +kernel) (by decide +kernel)
theorem cs_PR_83 : cs_I "ProfileRights" 83 y_US_init 2 := ⟨ml_PR_83, kw_in 378 (by decide +kernel) (by decide +kernel), rfl, by decide +kernel, by decide +kernel⟩
theorem ml_US_3 : Cond.methodLink "ProfileRights$User" 3 y_OJ_init ∈ kw_L := kw_in 380 (by decide +kernel) (by decide +kernel)
theorem cs_US_3 : cs_I "ProfileRights$User" 3 y_OJ_init 0 := ⟨ml_US_3, kw_in 29 (by decide +kernel) (by decide +kernel), rfl, by decide +kernel, by decide +kernel⟩
theorem ml_LW_90 : Cond.methodLink "ProfileRightsLaw" 90 y_LW_terminal ∈ kw_L := kw_in 406 (by decide +kernel) (by decide +kernel)
theorem cs_LW_90 : cs_S "ProfileRightsLaw" 90 y_LW_terminal 4 := ⟨ml_LW_90, kw_in 407 (by decide +kernel) (by decide +kernel), by decide +kernel, by decide +kernel⟩
theorem ml_LW_24 : Cond.methodLink "ProfileRightsLaw" 24 y_PR_terminal ∈ kw_L := kw_in 409 (by decide +kernel) (by decide +kernel)
theorem cs_LW_24 : cs_V "ProfileRightsLaw" 24 "ProfileRights" y_PR_terminal 2 := ⟨ml_LW_24, kw_in 410 (by decide +kernel) (by decide +kernel), kw_in 411 (by decide +kernel) (by decide +kernel), by decide +kernel, by decide +kernel⟩
theorem ml_PR_84 : Cond.methodLink "ProfileRights" 84 y_PR_userAt ∈ kw_L := kw_in 413 (by decide +kernel) (by decide +kernel)
theorem cs_PR_84 : cs_V "ProfileRights" 84 "ProfileRights" y_PR_userAt 1 := ⟨ml_PR_84, kw_in 415 (by decide +kernel) (by decide +kernel), kw_pr (by decide +kernel) (by decide +kernel), by decide +kernel, by decide +kernel⟩
theorem ml_PR_88 : Cond.methodLink "ProfileRights" 88 y_PR_testTerminal ∈ kw_L := kw_in 418 (by decide +kernel) (by decide +kernel)
theorem cs_PR_88 : cs_S "ProfileRights" 88 y_PR_testTerminal 1 := ⟨ml_PR_88, kw_in 419 (by decide +kernel) (by decide +kernel), by decide +kernel, by decide +kernel⟩
theorem ml_LW_93 : Cond.methodLink "ProfileRightsLaw" 93 y_LW_revoke ∈ kw_L := kw_in 422 (by decide +kernel) (by decide +kernel)
theorem cs_LW_93 : cs_S "ProfileRightsLaw" 93 y_LW_revoke 4 := ⟨ml_LW_93, kw_in 423 (by decide +kernel) (by decide +kernel), by decide +kernel, by decide +kernel⟩
theorem ml_LW_27 : Cond.methodLink "ProfileRightsLaw" 27 y_PR_revoke ∈ kw_L := kw_in 425 (by decide +kernel) (by decide +kernel)
theorem cs_LW_27 : cs_V "ProfileRightsLaw" 27 "ProfileRights" y_PR_revoke 2 := ⟨ml_LW_27, kw_in 426 (by decide +kernel) (by decide +kernel), kw_in 427 (by decide +kernel) (by decide +kernel), by decide +kernel, by decide +kernel⟩
theorem ml_LW_97 : Cond.methodLink "ProfileRightsLaw" 97 y_LW_pass ∈ kw_L := kw_in 429 (by decide +kernel) (by decide +kernel)
theorem cs_LW_97 : cs_S "ProfileRightsLaw" 97 y_LW_pass 4 := ⟨ml_LW_97, kw_in 430 (by decide +kernel) (by decide +kernel), by decide +kernel, by decide +kernel⟩
theorem ml_LW_31 : Cond.methodLink "ProfileRightsLaw" 31 y_PR_pass ∈ kw_L := kw_in 432 (by decide +kernel) (by decide +kernel)
theorem cs_LW_31 : cs_V "ProfileRightsLaw" 31 "ProfileRights" y_PR_pass 2 := ⟨ml_LW_31, kw_in 433 (by decide +kernel) (by decide +kernel), kw_in 434 (by decide +kernel) (by decide +kernel), by decide +kernel, by decide +kernel⟩
theorem ml_LW_100 : Cond.methodLink "ProfileRightsLaw" 100 y_LW_mode ∈ kw_L := kw_in 436 (by decide +kernel) (by decide +kernel)
theorem cs_LW_100 : cs_S "ProfileRightsLaw" 100 y_LW_mode 4 := ⟨ml_LW_100, kw_in 437 (by decide +kernel) (by decide +kernel), by decide +kernel, by decide +kernel⟩
theorem ml_LW_34 : Cond.methodLink "ProfileRightsLaw" 34 y_PR_mode ∈ kw_L := kw_in 439 (by decide +kernel) (by decide +kernel)
theorem cs_LW_34 : cs_V "ProfileRightsLaw" 34 "ProfileRights" y_PR_mode 2 := ⟨ml_LW_34, kw_in 440 (by decide +kernel) (by decide +kernel), kw_in 441 (by decide +kernel) (by decide +kernel), by decide +kernel, by decide +kernel⟩
theorem ml_PR_102 : Cond.methodLink "ProfileRights" 102 y_PR_testClass ∈ kw_L := kw_in 443 (by decide +kernel) (by decide +kernel)
theorem cs_PR_102 : cs_S "ProfileRights" 102 y_PR_testClass 1 := ⟨ml_PR_102, kw_in 444 (by decide +kernel) (by decide +kernel), by decide +kernel, by decide +kernel⟩
theorem ml_LW_103 : Cond.methodLink "ProfileRightsLaw" 103 y_LW_profile ∈ kw_L := kw_in 448 (by decide +kernel) (by decide +kernel)
theorem cs_LW_103 : cs_S "ProfileRightsLaw" 103 y_LW_profile 4 := ⟨ml_LW_103, kw_in 449 (by decide +kernel) (by decide +kernel), by decide +kernel, by decide +kernel⟩
theorem ml_LW_37 : Cond.methodLink "ProfileRightsLaw" 37 y_PR_profile ∈ kw_L := kw_in 451 (by decide +kernel) (by decide +kernel)
theorem cs_LW_37 : cs_V "ProfileRightsLaw" 37 "ProfileRights" y_PR_profile 2 := ⟨ml_LW_37, kw_in 452 (by decide +kernel) (by decide +kernel), kw_in 453 (by decide +kernel) (by decide +kernel), by decide +kernel, by decide +kernel⟩
theorem ml_PR_114 : Cond.methodLink "ProfileRights" 114 y_PF_init ∈ kw_L := kw_in 457 (by decide +kernel) (by decide +kernel)
theorem cs_PR_114 : cs_I "ProfileRights" 114 y_PF_init 2 := ⟨ml_PR_114, kw_in 458 (by decide +kernel) (by decide +kernel), rfl, by decide +kernel, by decide +kernel⟩
theorem ml_PF_3 : Cond.methodLink "ProfileRights$Profile" 3 y_OJ_init ∈ kw_L := kw_in 460 (by decide +kernel) (by decide +kernel)
theorem cs_PF_3 : cs_I "ProfileRights$Profile" 3 y_OJ_init 0 := ⟨ml_PF_3, kw_in 29 (by decide +kernel) (by decide +kernel), rfl, by decide +kernel, by decide +kernel⟩
theorem ml_PF_20 : Cond.methodLink "ProfileRights$Profile" 20 y_NM_init ∈ kw_L := kw_in 462 (by decide +kernel) (by decide +kernel)
theorem cs_PF_20 : cs_I "ProfileRights$Profile" 20 y_NM_init 0 := ⟨ml_PF_20, kw_in 60 (by decide +kernel) (by decide +kernel), rfl, by decide +kernel, by decide +kernel⟩
theorem ml_PF_27 : Cond.methodLink "ProfileRights$Profile" 27 y_AL_init ∈ kw_L := kw_in 464 (by decide +kernel) (by decide +kernel)
theorem cs_PF_27 : cs_I "ProfileRights$Profile" 27 y_AL_init 0 := ⟨ml_PF_27, kw_in 34 (by decide +kernel) (by decide +kernel), rfl, by decide +kernel, by decide +kernel⟩
theorem ml_LW_106 : Cond.methodLink "ProfileRightsLaw" 106 y_LW_name ∈ kw_L := kw_in 490 (by decide +kernel) (by decide +kernel)
theorem cs_LW_106 : cs_S "ProfileRightsLaw" 106 y_LW_name 4 := ⟨ml_LW_106, kw_in 491 (by decide +kernel) (by decide +kernel), by decide +kernel, by decide +kernel⟩
theorem ml_LW_40 : Cond.methodLink "ProfileRightsLaw" 40 y_PR_name ∈ kw_L := kw_in 493 (by decide +kernel) (by decide +kernel)
theorem cs_LW_40 : cs_V "ProfileRightsLaw" 40 "ProfileRights" y_PR_name 2 := ⟨ml_LW_40, kw_in 494 (by decide +kernel) (by decide +kernel), kw_in 495 (by decide +kernel) (by decide +kernel), by decide +kernel, by decide +kernel⟩
theorem ml_PR_117 : Cond.methodLink "ProfileRights" 117 y_PR_profileAt ∈ kw_L := kw_in 497 (by decide +kernel) (by decide +kernel)
theorem cs_PR_117 : cs_V "ProfileRights" 117 "ProfileRights" y_PR_profileAt 1 := ⟨ml_PR_117, kw_in 499 (by decide +kernel) (by decide +kernel), kw_pr (by decide +kernel) (by decide +kernel), by decide +kernel, by decide +kernel⟩
theorem ml_PR_130 : Cond.methodLink "ProfileRights" 130 y_NM_isFull ∈ kw_L := kw_in 503 (by decide +kernel) (by decide +kernel)
theorem cs_PR_130 : cs_V "ProfileRights" 130 "ProfileRights$Name" y_NM_isFull 0 := ⟨ml_PR_130, kw_in 129 (by decide +kernel) (by decide +kernel), kw_in 130 (by decide +kernel) (by decide +kernel), by decide +kernel, by decide +kernel⟩
theorem ml_LW_109 : Cond.methodLink "ProfileRightsLaw" 109 y_LW_universal ∈ kw_L := kw_in 505 (by decide +kernel) (by decide +kernel)
theorem cs_LW_109 : cs_S "ProfileRightsLaw" 109 y_LW_universal 5 := ⟨ml_LW_109, kw_in 506 (by decide +kernel) (by decide +kernel), by decide +kernel, by decide +kernel⟩
theorem ml_LW_43 : Cond.methodLink "ProfileRightsLaw" 43 y_PR_universal ∈ kw_L := kw_in 508 (by decide +kernel) (by decide +kernel)
theorem cs_LW_43 : cs_V "ProfileRightsLaw" 43 "ProfileRights" y_PR_universal 3 := ⟨ml_LW_43, kw_in 509 (by decide +kernel) (by decide +kernel), kw_in 510 (by decide +kernel) (by decide +kernel), by decide +kernel, by decide +kernel⟩
theorem ml_PR_142 : Cond.methodLink "ProfileRights" 142 y_PR_testLevel ∈ kw_L := kw_in 512 (by decide +kernel) (by decide +kernel)
theorem cs_PR_142 : cs_S "ProfileRights" 142 y_PR_testLevel 2 := ⟨ml_PR_142, kw_in 513 (by decide +kernel) (by decide +kernel), by decide +kernel, by decide +kernel⟩
theorem ml_LW_113 : Cond.methodLink "ProfileRightsLaw" 113 y_LW_permit ∈ kw_L := kw_in 517 (by decide +kernel) (by decide +kernel)
theorem cs_LW_113 : cs_S "ProfileRightsLaw" 113 y_LW_permit 5 := ⟨ml_LW_113, kw_in 518 (by decide +kernel) (by decide +kernel), by decide +kernel, by decide +kernel⟩
theorem ml_LW_47 : Cond.methodLink "ProfileRightsLaw" 47 y_PR_permit ∈ kw_L := kw_in 520 (by decide +kernel) (by decide +kernel)
theorem cs_LW_47 : cs_V "ProfileRightsLaw" 47 "ProfileRights" y_PR_permit 3 := ⟨ml_LW_47, kw_in 521 (by decide +kernel) (by decide +kernel), kw_in 522 (by decide +kernel) (by decide +kernel), by decide +kernel, by decide +kernel⟩
theorem ml_PR_153 : Cond.methodLink "ProfileRights" 153 y_PR_testHolder ∈ kw_L := kw_in 524 (by decide +kernel) (by decide +kernel)
theorem cs_PR_153 : cs_V "ProfileRights" 153 "ProfileRights" y_PR_testHolder 1 := ⟨ml_PR_153, kw_in 526 (by decide +kernel) (by decide +kernel), kw_pr (by decide +kernel) (by decide +kernel), by decide +kernel, by decide +kernel⟩
theorem ml_PR_156 : Cond.methodLink "ProfileRights" 156 y_PF_entryOf ∈ kw_L := kw_in 528 (by decide +kernel) (by decide +kernel)
theorem cs_PR_156 : cs_V "ProfileRights" 156 "ProfileRights$Profile" y_PF_entryOf 1 := ⟨ml_PR_156, kw_in 529 (by decide +kernel) (by decide +kernel), kw_in 530 (by decide +kernel) (by decide +kernel), by decide +kernel, by decide +kernel⟩
theorem ml_PF_42 : Cond.methodLink "ProfileRights$Profile" 42 y_AL_size ∈ kw_L := kw_in 532 (by decide +kernel) (by decide +kernel)
theorem cs_PF_42 : cs_V "ProfileRights$Profile" 42 "java/util/ArrayList" y_AL_size 0 := ⟨ml_PF_42, kw_in 157 (by decide +kernel) (by decide +kernel), kw_in 158 (by decide +kernel) (by decide +kernel), by decide +kernel, by decide +kernel⟩
theorem ml_PF_46 : Cond.methodLink "ProfileRights$Profile" 46 y_AL_get ∈ kw_L := kw_in 533 (by decide +kernel) (by decide +kernel)
theorem cs_PF_46 : cs_V "ProfileRights$Profile" 46 "java/util/ArrayList" y_AL_get 1 := ⟨ml_PF_46, kw_in 165 (by decide +kernel) (by decide +kernel), kw_in 166 (by decide +kernel) (by decide +kernel), by decide +kernel, by decide +kernel⟩
theorem ml_PR_165 : Cond.methodLink "ProfileRights" 165 y_PF_dropEntry ∈ kw_L := kw_in 535 (by decide +kernel) (by decide +kernel)
theorem cs_PR_165 : cs_V "ProfileRights" 165 "ProfileRights$Profile" y_PF_dropEntry 1 := ⟨ml_PR_165, kw_in 536 (by decide +kernel) (by decide +kernel), kw_in 537 (by decide +kernel) (by decide +kernel), by decide +kernel, by decide +kernel⟩
theorem ml_PF_55 : Cond.methodLink "ProfileRights$Profile" 55 y_AL_remove ∈ kw_L := kw_in 539 (by decide +kernel) (by decide +kernel)
theorem cs_PF_55 : cs_V "ProfileRights$Profile" 55 "java/util/ArrayList" y_AL_remove 1 := ⟨ml_PF_55, kw_in 540 (by decide +kernel) (by decide +kernel), kw_in 541 (by decide +kernel) (by decide +kernel), by decide +kernel, by decide +kernel⟩
theorem ml_AL_144 : Cond.methodLink "java/util/ArrayList" 144 y_AL_fastRemove ∈ kw_L := kw_in 543 (by decide +kernel) (by decide +kernel)
theorem cs_AL_144 : cs_V "java/util/ArrayList" 144 "java/util/ArrayList" y_AL_fastRemove 2 := ⟨ml_AL_144, kw_in 545 (by decide +kernel) (by decide +kernel), kw_pr (by decide +kernel) (by decide +kernel), by decide +kernel, by decide +kernel⟩
theorem ml_PR_168 : Cond.methodLink "ProfileRights" 168 y_PF_isFull ∈ kw_L := kw_in 548 (by decide +kernel) (by decide +kernel)
theorem cs_PR_168 : cs_V "ProfileRights" 168 "ProfileRights$Profile" y_PF_isFull 0 := ⟨ml_PR_168, kw_in 549 (by decide +kernel) (by decide +kernel), kw_in 550 (by decide +kernel) (by decide +kernel), by decide +kernel, by decide +kernel⟩
theorem ml_PR_174 : Cond.methodLink "ProfileRights" 174 y_EN_init ∈ kw_L := kw_in 555 (by decide +kernel) (by decide +kernel)
theorem cs_PR_174 : cs_I "ProfileRights" 174 y_EN_init 2 := ⟨ml_PR_174, kw_in 556 (by decide +kernel) (by decide +kernel), rfl, by decide +kernel, by decide +kernel⟩
theorem ml_EN_3 : Cond.methodLink "ProfileRights$Entry" 3 y_OJ_init ∈ kw_L := kw_in 558 (by decide +kernel) (by decide +kernel)
theorem cs_EN_3 : cs_I "ProfileRights$Entry" 3 y_OJ_init 0 := ⟨ml_EN_3, kw_in 29 (by decide +kernel) (by decide +kernel), rfl, by decide +kernel, by decide +kernel⟩
theorem ml_LW_116 : Cond.methodLink "ProfileRightsLaw" 116 y_LW_condition ∈ kw_L := kw_in 579 (by decide +kernel) (by decide +kernel)
theorem cs_LW_116 : cs_S "ProfileRightsLaw" 116 y_LW_condition 6 := ⟨ml_LW_116, kw_in 580 (by decide +kernel) (by decide +kernel), by decide +kernel, by decide +kernel⟩
theorem ml_LW_50 : Cond.methodLink "ProfileRightsLaw" 50 y_PR_condition ∈ kw_L := kw_in 582 (by decide +kernel) (by decide +kernel)
theorem cs_LW_50 : cs_V "ProfileRightsLaw" 50 "ProfileRights" y_PR_condition 4 := ⟨ml_LW_50, kw_in 583 (by decide +kernel) (by decide +kernel), kw_in 584 (by decide +kernel) (by decide +kernel), by decide +kernel, by decide +kernel⟩
theorem ml_LW_126 : Cond.methodLink "ProfileRightsLaw" 126 y_LW_may ∈ kw_L := kw_in 587 (by decide +kernel) (by decide +kernel)
theorem cs_LW_126 : cs_S "ProfileRightsLaw" 126 y_LW_may 6 := ⟨ml_LW_126, kw_in 588 (by decide +kernel) (by decide +kernel), by decide +kernel, by decide +kernel⟩
theorem ml_LW_54 : Cond.methodLink "ProfileRightsLaw" 54 y_PR_may ∈ kw_L := kw_in 590 (by decide +kernel) (by decide +kernel)
theorem cs_LW_54 : cs_V "ProfileRightsLaw" 54 "ProfileRights" y_PR_may 4 := ⟨ml_LW_54, kw_in 591 (by decide +kernel) (by decide +kernel), kw_in 592 (by decide +kernel) (by decide +kernel), by decide +kernel, by decide +kernel⟩
theorem ml_PR_189 : Cond.methodLink "ProfileRights" 189 y_PR_decide ∈ kw_L := kw_in 597 (by decide +kernel) (by decide +kernel)
theorem cs_PR_189 : cs_V "ProfileRights" 189 "ProfileRights" y_PR_decide 4 := ⟨ml_PR_189, kw_in 599 (by decide +kernel) (by decide +kernel), kw_pr (by decide +kernel) (by decide +kernel), by decide +kernel, by decide +kernel⟩
theorem ml_PR_237 : Cond.methodLink "ProfileRights" 237 y_PR_mostSpecial ∈ kw_L := kw_in 601 (by decide +kernel) (by decide +kernel)
theorem cs_PR_237 : cs_V "ProfileRights" 237 "ProfileRights" y_PR_mostSpecial 3 := ⟨ml_PR_237, kw_in 603 (by decide +kernel) (by decide +kernel), kw_pr (by decide +kernel) (by decide +kernel), by decide +kernel, by decide +kernel⟩
theorem ml_PR_254 : Cond.methodLink "ProfileRights" 254 y_PF_isOpenToAll ∈ kw_L := kw_in 605 (by decide +kernel) (by decide +kernel)
theorem cs_PR_254 : cs_V "ProfileRights" 254 "ProfileRights$Profile" y_PF_isOpenToAll 1 := ⟨ml_PR_254, kw_in 606 (by decide +kernel) (by decide +kernel), kw_in 607 (by decide +kernel) (by decide +kernel), by decide +kernel, by decide +kernel⟩
theorem ml_PF_38 : Cond.methodLink "ProfileRights$Profile" 38 y_PF_bears ∈ kw_L := kw_in 609 (by decide +kernel) (by decide +kernel)
theorem cs_PF_38 : cs_V "ProfileRights$Profile" 38 "ProfileRights$Profile" y_PF_bears 1 := ⟨ml_PF_38, kw_in 610 (by decide +kernel) (by decide +kernel), kw_in 611 (by decide +kernel) (by decide +kernel), by decide +kernel, by decide +kernel⟩
theorem ml_PR_257 : Cond.methodLink "ProfileRights" 257 y_NM_fits ∈ kw_L := kw_in 613 (by decide +kernel) (by decide +kernel)
theorem cs_PR_257 : cs_V "ProfileRights" 257 "ProfileRights$Name" y_NM_fits 1 := ⟨ml_PR_257, kw_in 614 (by decide +kernel) (by decide +kernel), kw_in 615 (by decide +kernel) (by decide +kernel), by decide +kernel, by decide +kernel⟩
theorem ml_NM_32 : Cond.methodLink "ProfileRights$Name" 32 y_NM_reachedBehind ∈ kw_L := kw_in 617 (by decide +kernel) (by decide +kernel)
theorem cs_NM_32 : cs_S "ProfileRights$Name" 32 y_NM_reachedBehind 3 := ⟨ml_NM_32, kw_in 618 (by decide +kernel) (by decide +kernel), by decide +kernel, by decide +kernel⟩
theorem ml_NM_36 : Cond.methodLink "ProfileRights$Name" 36 y_NM_placesOf ∈ kw_L := kw_in 620 (by decide +kernel) (by decide +kernel)
theorem cs_NM_36 : cs_V "ProfileRights$Name" 36 "ProfileRights$Name" y_NM_placesOf 1 := ⟨ml_NM_36, kw_in 622 (by decide +kernel) (by decide +kernel), kw_pr (by decide +kernel) (by decide +kernel), by decide +kernel, by decide +kernel⟩
theorem ml_PR_261 : Cond.methodLink "ProfileRights" 261 y_NM_isMoreSpecialThan ∈ kw_L := kw_in 624 (by decide +kernel) (by decide +kernel)
theorem cs_PR_261 : cs_V "ProfileRights" 261 "ProfileRights$Name" y_NM_isMoreSpecialThan 1 := ⟨ml_PR_261, kw_in 625 (by decide +kernel) (by decide +kernel), kw_in 626 (by decide +kernel) (by decide +kernel), by decide +kernel, by decide +kernel⟩
theorem ml_PR_244 : Cond.methodLink "ProfileRights" 244 y_PF_levelOf ∈ kw_L := kw_in 628 (by decide +kernel) (by decide +kernel)
theorem cs_PR_244 : cs_V "ProfileRights" 244 "ProfileRights$Profile" y_PF_levelOf 2 := ⟨ml_PR_244, kw_in 629 (by decide +kernel) (by decide +kernel), kw_in 630 (by decide +kernel) (by decide +kernel), by decide +kernel, by decide +kernel⟩
theorem ml_PF_61 : Cond.methodLink "ProfileRights$Profile" 61 y_PF_openEntryOf ∈ kw_L := kw_in 632 (by decide +kernel) (by decide +kernel)
theorem cs_PF_61 : cs_V "ProfileRights$Profile" 61 "ProfileRights$Profile" y_PF_openEntryOf 3 := ⟨ml_PF_61, kw_in 634 (by decide +kernel) (by decide +kernel), kw_pr (by decide +kernel) (by decide +kernel), by decide +kernel, by decide +kernel⟩
theorem ml_PF_78 : Cond.methodLink "ProfileRights$Profile" 78 y_PF_entryOf ∈ kw_L := kw_in 636 (by decide +kernel) (by decide +kernel)
theorem cs_PF_78 : cs_V "ProfileRights$Profile" 78 "ProfileRights$Profile" y_PF_entryOf 1 := ⟨ml_PF_78, kw_in 529 (by decide +kernel) (by decide +kernel), kw_in 530 (by decide +kernel) (by decide +kernel), by decide +kernel, by decide +kernel⟩
theorem ml_PF_82 : Cond.methodLink "ProfileRights$Profile" 82 y_EN_isOpen ∈ kw_L := kw_in 637 (by decide +kernel) (by decide +kernel)
theorem cs_PF_82 : cs_V "ProfileRights$Profile" 82 "ProfileRights$Entry" y_EN_isOpen 2 := ⟨ml_PF_82, kw_in 638 (by decide +kernel) (by decide +kernel), kw_in 639 (by decide +kernel) (by decide +kernel), by decide +kernel, by decide +kernel⟩
theorem ml_PR_248 : Cond.methodLink "ProfileRights" 248 y_PF_bears ∈ kw_L := kw_in 641 (by decide +kernel) (by decide +kernel)
theorem cs_PR_248 : cs_V "ProfileRights" 248 "ProfileRights$Profile" y_PF_bears 1 := ⟨ml_PR_248, kw_in 610 (by decide +kernel) (by decide +kernel), kw_in 611 (by decide +kernel) (by decide +kernel), by decide +kernel, by decide +kernel⟩
theorem ml_PR_193 : Cond.methodLink "ProfileRights" 193 y_TR_write ∈ kw_L := kw_in 642 (by decide +kernel) (by decide +kernel)
theorem cs_PR_193 : cs_V "ProfileRights" 193 "ProfileRights$Trail" y_TR_write 5 := ⟨ml_PR_193, kw_in 643 (by decide +kernel) (by decide +kernel), kw_in 644 (by decide +kernel) (by decide +kernel), by decide +kernel, by decide +kernel⟩
theorem ml_LW_138 : Cond.methodLink "ProfileRightsLaw" 138 y_LW_who ∈ kw_L := kw_in 646 (by decide +kernel) (by decide +kernel)
theorem cs_LW_138 : cs_S "ProfileRightsLaw" 138 y_LW_who 4 := ⟨ml_LW_138, kw_in 647 (by decide +kernel) (by decide +kernel), by decide +kernel, by decide +kernel⟩
theorem ml_LW_58 : Cond.methodLink "ProfileRightsLaw" 58 y_PR_who ∈ kw_L := kw_in 649 (by decide +kernel) (by decide +kernel)
theorem cs_LW_58 : cs_V "ProfileRightsLaw" 58 "ProfileRights" y_PR_who 2 := ⟨ml_LW_58, kw_in 650 (by decide +kernel) (by decide +kernel), kw_in 651 (by decide +kernel) (by decide +kernel), by decide +kernel, by decide +kernel⟩
theorem ml_LW_141 : Cond.methodLink "ProfileRightsLaw" 141 y_LW_acts ∈ kw_L := kw_in 653 (by decide +kernel) (by decide +kernel)
theorem cs_LW_141 : cs_S "ProfileRightsLaw" 141 y_LW_acts 4 := ⟨ml_LW_141, kw_in 654 (by decide +kernel) (by decide +kernel), by decide +kernel, by decide +kernel⟩
theorem ml_LW_61 : Cond.methodLink "ProfileRightsLaw" 61 y_PR_acts ∈ kw_L := kw_in 656 (by decide +kernel) (by decide +kernel)
theorem cs_LW_61 : cs_V "ProfileRightsLaw" 61 "ProfileRights" y_PR_acts 2 := ⟨ml_LW_61, kw_in 657 (by decide +kernel) (by decide +kernel), kw_in 658 (by decide +kernel) (by decide +kernel), by decide +kernel, by decide +kernel⟩
theorem ml_PR_208 : Cond.methodLink "ProfileRights" 208 y_US_standsFor ∈ kw_L := kw_in 660 (by decide +kernel) (by decide +kernel)
theorem cs_PR_208 : cs_V "ProfileRights" 208 "ProfileRights$User" y_US_standsFor 1 := ⟨ml_PR_208, kw_in 661 (by decide +kernel) (by decide +kernel), kw_in 662 (by decide +kernel) (by decide +kernel), by decide +kernel, by decide +kernel⟩
theorem ml_LW_144 : Cond.methodLink "ProfileRightsLaw" 144 y_LW_surrogate ∈ kw_L := kw_in 664 (by decide +kernel) (by decide +kernel)
theorem cs_LW_144 : cs_S "ProfileRightsLaw" 144 y_LW_surrogate 5 := ⟨ml_LW_144, kw_in 665 (by decide +kernel) (by decide +kernel), by decide +kernel, by decide +kernel⟩
theorem ml_LW_65 : Cond.methodLink "ProfileRightsLaw" 65 y_PR_surrogate ∈ kw_L := kw_in 667 (by decide +kernel) (by decide +kernel)
theorem cs_LW_65 : cs_V "ProfileRightsLaw" 65 "ProfileRights" y_PR_surrogate 3 := ⟨ml_LW_65, kw_in 668 (by decide +kernel) (by decide +kernel), kw_in 669 (by decide +kernel) (by decide +kernel), by decide +kernel, by decide +kernel⟩
theorem ml_PR_212 : Cond.methodLink "ProfileRights" 212 y_US_toggleStandingFor ∈ kw_L := kw_in 671 (by decide +kernel) (by decide +kernel)
theorem cs_PR_212 : cs_V "ProfileRights" 212 "ProfileRights$User" y_US_toggleStandingFor 1 := ⟨ml_PR_212, kw_in 672 (by decide +kernel) (by decide +kernel), kw_in 673 (by decide +kernel) (by decide +kernel), by decide +kernel, by decide +kernel⟩
theorem ml_LW_72 : Cond.methodLink "ProfileRightsLaw" 72 y_MD_init ∈ kw_L := kw_in 677 (by decide +kernel) (by decide +kernel)
theorem cs_LW_72 : cs_I "ProfileRightsLaw" 72 y_MD_init 0 := ⟨ml_LW_72, kw_in 678 (by decide +kernel) (by decide +kernel), rfl, by decide +kernel, by decide +kernel⟩
theorem ml_MD_1 : Cond.methodLink "ProfileRightsModel" 1 y_OJ_init ∈ kw_L := kw_in 680 (by decide +kernel) (by decide +kernel)
theorem cs_MD_1 : cs_I "ProfileRightsModel" 1 y_OJ_init 0 := ⟨ml_MD_1, kw_in 29 (by decide +kernel) (by decide +kernel), rfl, by decide +kernel, by decide +kernel⟩
theorem ml_LW_79 : Cond.methodLink "ProfileRightsLaw" 79 y_MD_thrown ∈ kw_L := kw_in 764 (by decide +kernel) (by decide +kernel)
theorem cs_LW_79 : cs_V "ProfileRightsLaw" 79 "ProfileRightsModel" y_MD_thrown 0 := ⟨ml_LW_79, kw_in 765 (by decide +kernel) (by decide +kernel), kw_in 766 (by decide +kernel) (by decide +kernel), by decide +kernel, by decide +kernel⟩
theorem ml_LW_78 : Cond.methodLink "ProfileRightsLaw" 78 y_MD_group ∈ kw_L := kw_in 768 (by decide +kernel) (by decide +kernel)
theorem cs_LW_78 : cs_V "ProfileRightsLaw" 78 "ProfileRightsModel" y_MD_group 1 := ⟨ml_LW_78, kw_in 769 (by decide +kernel) (by decide +kernel), kw_in 770 (by decide +kernel) (by decide +kernel), by decide +kernel, by decide +kernel⟩
theorem ml_MD_84 : Cond.methodLink "ProfileRightsModel" 84 y_MD_isGroup ∈ kw_L := kw_in 772 (by decide +kernel) (by decide +kernel)
theorem cs_MD_84 : cs_V "ProfileRightsModel" 84 "ProfileRightsModel" y_MD_isGroup 1 := ⟨ml_MD_84, kw_in 774 (by decide +kernel) (by decide +kernel), kw_pr (by decide +kernel) (by decide +kernel), by decide +kernel, by decide +kernel⟩
theorem ml_MD_88 : Cond.methodLink "ProfileRightsModel" 88 y_MD_fails ∈ kw_L := kw_in 776 (by decide +kernel) (by decide +kernel)
theorem cs_MD_88 : cs_V "ProfileRightsModel" 88 "ProfileRightsModel" y_MD_fails 2 := ⟨ml_MD_88, kw_in 778 (by decide +kernel) (by decide +kernel), kw_pr (by decide +kernel) (by decide +kernel), by decide +kernel, by decide +kernel⟩
theorem ml_LW_86 : Cond.methodLink "ProfileRightsLaw" 86 y_MD_move ∈ kw_L := kw_in 780 (by decide +kernel) (by decide +kernel)
theorem cs_LW_86 : cs_V "ProfileRightsLaw" 86 "ProfileRightsModel" y_MD_move 2 := ⟨ml_LW_86, kw_in 781 (by decide +kernel) (by decide +kernel), kw_in 782 (by decide +kernel) (by decide +kernel), by decide +kernel, by decide +kernel⟩
theorem ml_LW_89 : Cond.methodLink "ProfileRightsLaw" 89 y_MD_user ∈ kw_L := kw_in 784 (by decide +kernel) (by decide +kernel)
theorem cs_LW_89 : cs_V "ProfileRightsLaw" 89 "ProfileRightsModel" y_MD_user 1 := ⟨ml_LW_89, kw_in 785 (by decide +kernel) (by decide +kernel), kw_in 786 (by decide +kernel) (by decide +kernel), by decide +kernel, by decide +kernel⟩
theorem ml_LW_92 : Cond.methodLink "ProfileRightsLaw" 92 y_MD_terminal ∈ kw_L := kw_in 788 (by decide +kernel) (by decide +kernel)
theorem cs_LW_92 : cs_V "ProfileRightsLaw" 92 "ProfileRightsModel" y_MD_terminal 2 := ⟨ml_LW_92, kw_in 789 (by decide +kernel) (by decide +kernel), kw_in 790 (by decide +kernel) (by decide +kernel), by decide +kernel, by decide +kernel⟩
theorem ml_MD_92 : Cond.methodLink "ProfileRightsModel" 92 y_MD_isUser ∈ kw_L := kw_in 792 (by decide +kernel) (by decide +kernel)
theorem cs_MD_92 : cs_V "ProfileRightsModel" 92 "ProfileRightsModel" y_MD_isUser 1 := ⟨ml_MD_92, kw_in 794 (by decide +kernel) (by decide +kernel), kw_pr (by decide +kernel) (by decide +kernel), by decide +kernel, by decide +kernel⟩
theorem ml_MD_95 : Cond.methodLink "ProfileRightsModel" 95 y_MD_isTerminal ∈ kw_L := kw_in 796 (by decide +kernel) (by decide +kernel)
theorem cs_MD_95 : cs_S "ProfileRightsModel" 95 y_MD_isTerminal 1 := ⟨ml_MD_95, kw_in 797 (by decide +kernel) (by decide +kernel), by decide +kernel, by decide +kernel⟩
theorem ml_LW_96 : Cond.methodLink "ProfileRightsLaw" 96 y_MD_revoke ∈ kw_L := kw_in 799 (by decide +kernel) (by decide +kernel)
theorem cs_LW_96 : cs_V "ProfileRightsLaw" 96 "ProfileRightsModel" y_MD_revoke 2 := ⟨ml_LW_96, kw_in 800 (by decide +kernel) (by decide +kernel), kw_in 801 (by decide +kernel) (by decide +kernel), by decide +kernel, by decide +kernel⟩
theorem ml_LW_99 : Cond.methodLink "ProfileRightsLaw" 99 y_MD_pass ∈ kw_L := kw_in 803 (by decide +kernel) (by decide +kernel)
theorem cs_LW_99 : cs_V "ProfileRightsLaw" 99 "ProfileRightsModel" y_MD_pass 2 := ⟨ml_LW_99, kw_in 804 (by decide +kernel) (by decide +kernel), kw_in 805 (by decide +kernel) (by decide +kernel), by decide +kernel, by decide +kernel⟩
theorem ml_LW_143 : Cond.methodLink "ProfileRightsLaw" 143 y_MD_acts ∈ kw_L := kw_in 807 (by decide +kernel) (by decide +kernel)
theorem cs_LW_143 : cs_V "ProfileRightsLaw" 143 "ProfileRightsModel" y_MD_acts 2 := ⟨ml_LW_143, kw_in 808 (by decide +kernel) (by decide +kernel), kw_in 809 (by decide +kernel) (by decide +kernel), by decide +kernel, by decide +kernel⟩
theorem ml_LW_147 : Cond.methodLink "ProfileRightsLaw" 147 y_MD_surrogate ∈ kw_L := kw_in 811 (by decide +kernel) (by decide +kernel)
theorem cs_LW_147 : cs_V "ProfileRightsLaw" 147 "ProfileRightsModel" y_MD_surrogate 3 := ⟨ml_LW_147, kw_in 812 (by decide +kernel) (by decide +kernel), kw_in 813 (by decide +kernel) (by decide +kernel), by decide +kernel, by decide +kernel⟩
theorem ml_LW_102 : Cond.methodLink "ProfileRightsLaw" 102 y_MD_mode ∈ kw_L := kw_in 815 (by decide +kernel) (by decide +kernel)
theorem cs_LW_102 : cs_V "ProfileRightsLaw" 102 "ProfileRightsModel" y_MD_mode 2 := ⟨ml_LW_102, kw_in 816 (by decide +kernel) (by decide +kernel), kw_in 817 (by decide +kernel) (by decide +kernel), by decide +kernel, by decide +kernel⟩
theorem ml_MD_98 : Cond.methodLink "ProfileRightsModel" 98 y_MD_isClass ∈ kw_L := kw_in 819 (by decide +kernel) (by decide +kernel)
theorem cs_MD_98 : cs_S "ProfileRightsModel" 98 y_MD_isClass 1 := ⟨ml_MD_98, kw_in 820 (by decide +kernel) (by decide +kernel), by decide +kernel, by decide +kernel⟩
theorem ml_LW_105 : Cond.methodLink "ProfileRightsLaw" 105 y_MD_profile ∈ kw_L := kw_in 822 (by decide +kernel) (by decide +kernel)
theorem cs_LW_105 : cs_V "ProfileRightsLaw" 105 "ProfileRightsModel" y_MD_profile 2 := ⟨ml_LW_105, kw_in 823 (by decide +kernel) (by decide +kernel), kw_in 824 (by decide +kernel) (by decide +kernel), by decide +kernel, by decide +kernel⟩
theorem ml_LW_108 : Cond.methodLink "ProfileRightsLaw" 108 y_MD_name ∈ kw_L := kw_in 826 (by decide +kernel) (by decide +kernel)
theorem cs_LW_108 : cs_V "ProfileRightsLaw" 108 "ProfileRightsModel" y_MD_name 2 := ⟨ml_LW_108, kw_in 827 (by decide +kernel) (by decide +kernel), kw_in 828 (by decide +kernel) (by decide +kernel), by decide +kernel, by decide +kernel⟩
theorem ml_MD_101 : Cond.methodLink "ProfileRightsModel" 101 y_MD_isProfile ∈ kw_L := kw_in 830 (by decide +kernel) (by decide +kernel)
theorem cs_MD_101 : cs_V "ProfileRightsModel" 101 "ProfileRightsModel" y_MD_isProfile 1 := ⟨ml_MD_101, kw_in 832 (by decide +kernel) (by decide +kernel), kw_pr (by decide +kernel) (by decide +kernel), by decide +kernel, by decide +kernel⟩
theorem ml_MD_104 : Cond.methodLink "ProfileRightsModel" 104 y_MD_isSign ∈ kw_L := kw_in 834 (by decide +kernel) (by decide +kernel)
theorem cs_MD_104 : cs_S "ProfileRightsModel" 104 y_MD_isSign 1 := ⟨ml_MD_104, kw_in 835 (by decide +kernel) (by decide +kernel), by decide +kernel, by decide +kernel⟩
theorem ml_LW_112 : Cond.methodLink "ProfileRightsLaw" 112 y_MD_universal ∈ kw_L := kw_in 837 (by decide +kernel) (by decide +kernel)
theorem cs_LW_112 : cs_V "ProfileRightsLaw" 112 "ProfileRightsModel" y_MD_universal 3 := ⟨ml_LW_112, kw_in 838 (by decide +kernel) (by decide +kernel), kw_in 839 (by decide +kernel) (by decide +kernel), by decide +kernel, by decide +kernel⟩
theorem ml_LW_115 : Cond.methodLink "ProfileRightsLaw" 115 y_MD_permit ∈ kw_L := kw_in 841 (by decide +kernel) (by decide +kernel)
theorem cs_LW_115 : cs_V "ProfileRightsLaw" 115 "ProfileRightsModel" y_MD_permit 3 := ⟨ml_LW_115, kw_in 842 (by decide +kernel) (by decide +kernel), kw_in 843 (by decide +kernel) (by decide +kernel), by decide +kernel, by decide +kernel⟩
theorem ml_MD_107 : Cond.methodLink "ProfileRightsModel" 107 y_MD_isWho ∈ kw_L := kw_in 845 (by decide +kernel) (by decide +kernel)
theorem cs_MD_107 : cs_V "ProfileRightsModel" 107 "ProfileRightsModel" y_MD_isWho 1 := ⟨ml_MD_107, kw_in 847 (by decide +kernel) (by decide +kernel), kw_pr (by decide +kernel) (by decide +kernel), by decide +kernel, by decide +kernel⟩
theorem ml_MD_110 : Cond.methodLink "ProfileRightsModel" 110 y_MD_entry ∈ kw_L := kw_in 849 (by decide +kernel) (by decide +kernel)
theorem cs_MD_110 : cs_V "ProfileRightsModel" 110 "ProfileRightsModel" y_MD_entry 2 := ⟨ml_MD_110, kw_in 851 (by decide +kernel) (by decide +kernel), kw_pr (by decide +kernel) (by decide +kernel), by decide +kernel, by decide +kernel⟩
theorem ml_LW_119 : Cond.methodLink "ProfileRightsLaw" 119 y_MD_condition ∈ kw_L := kw_in 854 (by decide +kernel) (by decide +kernel)
theorem cs_LW_119 : cs_V "ProfileRightsLaw" 119 "ProfileRightsModel" y_MD_condition 4 := ⟨ml_LW_119, kw_in 855 (by decide +kernel) (by decide +kernel), kw_in 856 (by decide +kernel) (by decide +kernel), by decide +kernel, by decide +kernel⟩
theorem ml_LW_140 : Cond.methodLink "ProfileRightsLaw" 140 y_MD_who ∈ kw_L := kw_in 858 (by decide +kernel) (by decide +kernel)
theorem cs_LW_140 : cs_V "ProfileRightsLaw" 140 "ProfileRightsModel" y_MD_who 2 := ⟨ml_LW_140, kw_in 859 (by decide +kernel) (by decide +kernel), kw_in 860 (by decide +kernel) (by decide +kernel), by decide +kernel, by decide +kernel⟩
theorem ml_LW_123 : Cond.methodLink "ProfileRightsLaw" 123 y_MD_ask ∈ kw_L := kw_in 862 (by decide +kernel) (by decide +kernel)
theorem cs_LW_123 : cs_V "ProfileRightsLaw" 123 "ProfileRightsModel" y_MD_ask 1 := ⟨ml_LW_123, kw_in 863 (by decide +kernel) (by decide +kernel), kw_in 864 (by decide +kernel) (by decide +kernel), by decide +kernel, by decide +kernel⟩
theorem ml_LW_129 : Cond.methodLink "ProfileRightsLaw" 129 y_MD_may ∈ kw_L := kw_in 866 (by decide +kernel) (by decide +kernel)
theorem cs_LW_129 : cs_V "ProfileRightsLaw" 129 "ProfileRightsModel" y_MD_may 4 := ⟨ml_LW_129, kw_in 867 (by decide +kernel) (by decide +kernel), kw_in 868 (by decide +kernel) (by decide +kernel), by decide +kernel, by decide +kernel⟩
theorem ml_MD_146 : Cond.methodLink "ProfileRightsModel" 146 y_MD_answered ∈ kw_L := kw_in 870 (by decide +kernel) (by decide +kernel)
theorem cs_MD_146 : cs_V "ProfileRightsModel" 146 "ProfileRightsModel" y_MD_answered 6 := ⟨ml_MD_146, kw_in 872 (by decide +kernel) (by decide +kernel), kw_pr (by decide +kernel) (by decide +kernel), by decide +kernel, by decide +kernel⟩
theorem ml_MD_150 : Cond.methodLink "ProfileRightsModel" 150 y_MD_found ∈ kw_L := kw_in 874 (by decide +kernel) (by decide +kernel)
theorem cs_MD_150 : cs_V "ProfileRightsModel" 150 "ProfileRightsModel" y_MD_found 2 := ⟨ml_MD_150, kw_in 876 (by decide +kernel) (by decide +kernel), kw_pr (by decide +kernel) (by decide +kernel), by decide +kernel, by decide +kernel⟩
theorem ml_MD_125 : Cond.methodLink "ProfileRightsModel" 125 y_MD_fits ∈ kw_L := kw_in 878 (by decide +kernel) (by decide +kernel)
theorem cs_MD_125 : cs_V "ProfileRightsModel" 125 "ProfileRightsModel" y_MD_fits 1 := ⟨ml_MD_125, kw_in 880 (by decide +kernel) (by decide +kernel), kw_pr (by decide +kernel) (by decide +kernel), by decide +kernel, by decide +kernel⟩
theorem ml_MD_128 : Cond.methodLink "ProfileRightsModel" 128 y_MD_isMore ∈ kw_L := kw_in 882 (by decide +kernel) (by decide +kernel)
theorem cs_MD_128 : cs_V "ProfileRightsModel" 128 "ProfileRightsModel" y_MD_isMore 2 := ⟨ml_MD_128, kw_in 884 (by decide +kernel) (by decide +kernel), kw_pr (by decide +kernel) (by decide +kernel), by decide +kernel, by decide +kernel⟩
theorem ml_MD_121 : Cond.methodLink "ProfileRightsModel" 121 y_MD_special ∈ kw_L := kw_in 886 (by decide +kernel) (by decide +kernel)
theorem cs_MD_121 : cs_V "ProfileRightsModel" 121 "ProfileRightsModel" y_MD_special 2 := ⟨ml_MD_121, kw_in 888 (by decide +kernel) (by decide +kernel), kw_pr (by decide +kernel) (by decide +kernel), by decide +kernel, by decide +kernel⟩
theorem ml_MD_118 : Cond.methodLink "ProfileRightsModel" 118 y_MD_isWild ∈ kw_L := kw_in 890 (by decide +kernel) (by decide +kernel)
theorem cs_MD_118 : cs_S "ProfileRightsModel" 118 y_MD_isWild 1 := ⟨ml_MD_118, kw_in 891 (by decide +kernel) (by decide +kernel), by decide +kernel, by decide +kernel⟩
theorem ml_MD_153 : Cond.methodLink "ProfileRightsModel" 153 y_MD_levelOf ∈ kw_L := kw_in 893 (by decide +kernel) (by decide +kernel)
theorem cs_MD_153 : cs_V "ProfileRightsModel" 153 "ProfileRightsModel" y_MD_levelOf 3 := ⟨ml_MD_153, kw_in 895 (by decide +kernel) (by decide +kernel), kw_pr (by decide +kernel) (by decide +kernel), by decide +kernel, by decide +kernel⟩
theorem ml_MD_136 : Cond.methodLink "ProfileRightsModel" 136 y_MD_isOpen ∈ kw_L := kw_in 897 (by decide +kernel) (by decide +kernel)
theorem cs_MD_136 : cs_V "ProfileRightsModel" 136 "ProfileRightsModel" y_MD_isOpen 3 := ⟨ml_MD_136, kw_in 899 (by decide +kernel) (by decide +kernel), kw_pr (by decide +kernel) (by decide +kernel), by decide +kernel, by decide +kernel⟩
theorem ml_LW_133 : Cond.methodLink "ProfileRightsLaw" 133 y_MD_matched ∈ kw_L := kw_in 903 (by decide +kernel) (by decide +kernel)
theorem cs_LW_133 : cs_V "ProfileRightsLaw" 133 "ProfileRightsModel" y_MD_matched 0 := ⟨ml_LW_133, kw_in 904 (by decide +kernel) (by decide +kernel), kw_in 905 (by decide +kernel) (by decide +kernel), by decide +kernel, by decide +kernel⟩
theorem ml_LW_137 : Cond.methodLink "ProfileRightsLaw" 137 y_MD_audit ∈ kw_L := kw_in 907 (by decide +kernel) (by decide +kernel)
theorem cs_LW_137 : cs_V "ProfileRightsLaw" 137 "ProfileRightsModel" y_MD_audit 2 := ⟨ml_LW_137, kw_in 908 (by decide +kernel) (by decide +kernel), kw_in 909 (by decide +kernel) (by decide +kernel), by decide +kernel, by decide +kernel⟩
theorem ml_LW_151 : Cond.methodLink "ProfileRightsLaw" 151 y_MD_count ∈ kw_L := kw_in 911 (by decide +kernel) (by decide +kernel)
theorem cs_LW_151 : cs_V "ProfileRightsLaw" 151 "ProfileRightsModel" y_MD_count 1 := ⟨ml_LW_151, kw_in 912 (by decide +kernel) (by decide +kernel), kw_in 913 (by decide +kernel) (by decide +kernel), by decide +kernel, by decide +kernel⟩
theorem cl_LW_8 : Cond.classLink "ProfileRightsLaw" 8 "ProfileRights" ∈ kw_L := kw_in 23 (by decide +kernel) (by decide +kernel)
theorem nw_LW_8 : nw_ok "ProfileRightsLaw" 8 0 7 [.null, .null, .null, .null, .null, .null, .int 0] := ⟨"ProfileRights", T_PR, t_PR, rfl, i_PR, o_PR, cl_LW_8, kn_PR, ki_PR, by decide +kernel⟩
theorem cl_PR_9 : Cond.classLink "ProfileRights" 9 "java/util/ArrayList" ∈ kw_L := kw_in 31 (by decide +kernel) (by decide +kernel)
theorem nw_PR_9 : nw_ok "ProfileRights" 9 7 3 [.int 0, .null, .int 0] := ⟨"java/util/ArrayList", T_AL, t_AL, rfl, i_AL, o_AL, cl_PR_9, kn_AL, ki_AL, by decide +kernel⟩
theorem cl_PR_26 : Cond.classLink "ProfileRights" 26 "ProfileRights$Name" ∈ kw_L := kw_in 57 (by decide +kernel) (by decide +kernel)
theorem nw_PR_26 : nw_ok "ProfileRights" 26 3 4 [.null, .int 0, .int 0, .int 0] := ⟨"ProfileRights$Name", T_NM, t_NM, rfl, i_NM, o_NM, cl_PR_26, kn_NM, ki_NM, by decide +kernel⟩
theorem cl_PR_33 : Cond.classLink "ProfileRights" 33 "ProfileRights$Trail" ∈ kw_L := kw_in 78 (by decide +kernel) (by decide +kernel)
theorem nw_PR_33 : nw_ok "ProfileRights" 33 6 3 [.null, .int 0, .int 0] := ⟨"ProfileRights$Trail", T_TR, t_TR, rfl, i_TR, o_TR, cl_PR_33, kn_TR, ki_TR, by decide +kernel⟩
theorem cl_PR_81 : Cond.classLink "ProfileRights" 81 "ProfileRights$User" ∈ kw_L := kw_in 178 (by decide +kernel) (by decide +kernel)
theorem nw_PR_81 : nw_ok "ProfileRights" 81 2 6 [.int 0, .null, .int 0, .int 0, .int 0, .long 0] := ⟨"ProfileRights$User", T_US, t_US, rfl, i_US, o_US, cl_PR_81, kn_US, ki_US, by decide +kernel⟩
theorem cl_PR_112 : Cond.classLink "ProfileRights" 112 "ProfileRights$Profile" ∈ kw_L := kw_in 183 (by decide +kernel) (by decide +kernel)
theorem nw_PR_112 : nw_ok "ProfileRights" 112 5 6 [.int 0, .int 0, .null, .null, .int 0, .int 0] := ⟨"ProfileRights$Profile", T_PF, t_PF, rfl, i_PF, o_PF, cl_PR_112, kn_PF, ki_PF, by decide +kernel⟩
theorem cl_LW_13 : Cond.classLink "ProfileRightsLaw" 13 "java/lang/IllegalArgumentException" ∈ kw_L := kw_in 187 (by decide +kernel) (by decide +kernel)
theorem cl_LW_15 : Cond.classLink "ProfileRightsLaw" 15 "java/lang/IllegalStateException" ∈ kw_L := kw_in 188 (by decide +kernel) (by decide +kernel)
theorem cl_PR_105 : Cond.classLink "ProfileRights" 105 "java/lang/IllegalArgumentException" ∈ kw_L := kw_in 201 (by decide +kernel) (by decide +kernel)
theorem cl_PR_59 : Cond.classLink "ProfileRights" 59 "ProfileRights$Group" ∈ kw_L := kw_in 268 (by decide +kernel) (by decide +kernel)
theorem nw_PR_59 : nw_ok "ProfileRights" 59 1 2 [.int 0, .null] := ⟨"ProfileRights$Group", T_GR, t_GR, rfl, i_GR, o_GR, cl_PR_59, kn_GR, ki_GR, by decide +kernel⟩
theorem cl_PR_52 : Cond.classLink "ProfileRights" 52 "java/lang/IllegalStateException" ∈ kw_L := kw_in 269 (by decide +kernel) (by decide +kernel)
theorem cl_AR_110 : Cond.classLink "java/util/Arrays" 110 "[Ljava/lang/Object;" ∈ kw_L := kw_in 347 (by decide +kernel) (by decide +kernel)
theorem cl_AR_2 : Cond.classLink "java/util/Arrays" 2 "java/lang/Object" ∈ kw_L := kw_in 349 (by decide +kernel) (by decide +kernel)
theorem cl_AL_7 : Cond.classLink "java/util/ArrayList" 7 "java/lang/Object" ∈ kw_L := kw_in 357 (by decide +kernel) (by decide +kernel)
theorem cl_PF_18 : Cond.classLink "ProfileRights$Profile" 18 "ProfileRights$Name" ∈ kw_L := kw_in 461 (by decide +kernel) (by decide +kernel)
theorem nw_PF_18 : nw_ok "ProfileRights$Profile" 18 3 4 [.null, .int 0, .int 0, .int 0] := ⟨"ProfileRights$Name", T_NM, t_NM, rfl, i_NM, o_NM, cl_PF_18, kn_NM, ki_NM, by decide +kernel⟩
theorem cl_PF_25 : Cond.classLink "ProfileRights$Profile" 25 "java/util/ArrayList" ∈ kw_L := kw_in 463 (by decide +kernel) (by decide +kernel)
theorem nw_PF_25 : nw_ok "ProfileRights$Profile" 25 7 3 [.int 0, .null, .int 0] := ⟨"java/util/ArrayList", T_AL, t_AL, rfl, i_AL, o_AL, cl_PF_25, kn_AL, ki_AL, by decide +kernel⟩
theorem cl_PF_50 : Cond.classLink "ProfileRights$Profile" 50 "ProfileRights$Entry" ∈ kw_L := kw_in 534 (by decide +kernel) (by decide +kernel)
theorem nw_PF_50 : nw_ok "ProfileRights$Profile" 50 4 4 [.int 0, .int 0, .int 0, .int 0] := ⟨"ProfileRights$Entry", T_EN, t_EN, rfl, i_EN, o_EN, cl_PF_50, kn_EN, ki_EN, by decide +kernel⟩
theorem cl_PR_161 : Cond.classLink "ProfileRights" 161 "ProfileRights$Entry" ∈ kw_L := kw_in 553 (by decide +kernel) (by decide +kernel)
theorem nw_PR_161 : nw_ok "ProfileRights" 161 4 4 [.int 0, .int 0, .int 0, .int 0] := ⟨"ProfileRights$Entry", T_EN, t_EN, rfl, i_EN, o_EN, cl_PR_161, kn_EN, ki_EN, by decide +kernel⟩
theorem cl_LW_70 : Cond.classLink "ProfileRightsLaw" 70 "ProfileRightsModel" ∈ kw_L := kw_in 675 (by decide +kernel) (by decide +kernel)
theorem nw_LW_70 : nw_ok "ProfileRightsLaw" 70 8 27 [.int 0, .null, .null, .null, .null, .null, .null, .int 0, .int 0, .int 0, .null, .null, .null, .null, .null, .null, .null, .null, .null, .null, .null, .null, .int 0, .int 0, .null, .int 0, .null] := ⟨"ProfileRightsModel", T_MD, t_MD, rfl, i_MD, o_MD, cl_LW_70, kn_MD, ki_MD, by decide +kernel⟩
theorem kk_AS_200 : Cond.constant "jdk/internal/util/ArraysSupport" 200 (2147483639) ∈ kw_L := kw_in 322 (by decide +kernel) (by decide +kernel)
theorem kk_EN_21 : Cond.constant "ProfileRights$Entry" 21 (16777215) ∈ kw_L := kw_in 559 (by decide +kernel) (by decide +kernel)
theorem kk_PR_176 : Cond.constant "ProfileRights" 176 (16777215) ∈ kw_L := kw_in 586 (by decide +kernel) (by decide +kernel)
theorem kk_MD_114 : Cond.constant "ProfileRightsModel" 114 (16777215) ∈ kw_L := kw_in 853 (by decide +kernel) (by decide +kernel)
theorem kl_PR_185 : Cond.constantLong "ProfileRights" 185 (60) ∈ kw_L := kw_in 595 (by decide +kernel) (by decide +kernel)
theorem kl_PR_187 : Cond.constantLong "ProfileRights" 187 (24) ∈ kw_L := kw_in 596 (by decide +kernel) (by decide +kernel)
theorem kl_MD_132 : Cond.constantLong "ProfileRightsModel" 132 (60) ∈ kw_L := kw_in 901 (by decide +kernel) (by decide +kernel)
theorem kl_MD_134 : Cond.constantLong "ProfileRightsModel" 134 (24) ∈ kw_L := kw_in 902 (by decide +kernel) (by decide +kernel)
theorem kl_LW_124 : Cond.constantLong "ProfileRightsLaw" 124 (4294967295) ∈ kw_L := kw_in 915 (by decide +kernel) (by decide +kernel)
theorem ka_int : Cond.arrayClass .int ∈ kw_L := kw_in 77 (by decide +kernel) (by decide +kernel)
theorem ka_byte : Cond.arrayClass .byte ∈ kw_L := kw_in 267 (by decide +kernel) (by decide +kernel)
theorem ka_boolean : Cond.arrayClass .boolean ∈ kw_L := kw_in 763 (by decide +kernel) (by decide +kernel)
theorem ka_long : Cond.arrayClass .long ∈ kw_L := kw_in 916 (by decide +kernel) (by decide +kernel)
theorem kx_IA_IA : Cond.castable "java/lang/IllegalArgumentException" "java/lang/IllegalArgumentException" ∈ kw_L := kw_in 203 (by decide +kernel) (by decide +kernel)
theorem kx_IS_IS : Cond.castable "java/lang/IllegalStateException" "java/lang/IllegalStateException" ∈ kw_L := kw_in 271 (by decide +kernel) (by decide +kernel)
theorem kx_US_US : Cond.castable "ProfileRights$User" "ProfileRights$User" ∈ kw_L := kw_in 918 (by decide +kernel) (by decide +kernel)
theorem kx_PF_PF : Cond.castable "ProfileRights$Profile" "ProfileRights$Profile" ∈ kw_L := kw_in 919 (by decide +kernel) (by decide +kernel)
theorem kx_GR_GR : Cond.castable "ProfileRights$Group" "ProfileRights$Group" ∈ kw_L := kw_in 920 (by decide +kernel) (by decide +kernel)
theorem kx_EN_EN : Cond.castable "ProfileRights$Entry" "ProfileRights$Entry" ∈ kw_L := kw_in 921 (by decide +kernel) (by decide +kernel)
theorem kx_PR_OJ : Cond.castable "ProfileRights" "java/lang/Object" ∈ kw_L := kw_in 925 (by decide +kernel) (by decide +kernel)
theorem kx_NM_OJ : Cond.castable "ProfileRights$Name" "java/lang/Object" ∈ kw_L := kw_in 926 (by decide +kernel) (by decide +kernel)
theorem kx_TR_OJ : Cond.castable "ProfileRights$Trail" "java/lang/Object" ∈ kw_L := kw_in 927 (by decide +kernel) (by decide +kernel)
theorem kx_MD_OJ : Cond.castable "ProfileRightsModel" "java/lang/Object" ∈ kw_L := kw_in 928 (by decide +kernel) (by decide +kernel)
theorem kx_GR_OJ : Cond.castable "ProfileRights$Group" "java/lang/Object" ∈ kw_L := kw_in 929 (by decide +kernel) (by decide +kernel)
theorem kx_US_OJ : Cond.castable "ProfileRights$User" "java/lang/Object" ∈ kw_L := kw_in 930 (by decide +kernel) (by decide +kernel)
theorem kx_PF_OJ : Cond.castable "ProfileRights$Profile" "java/lang/Object" ∈ kw_L := kw_in 931 (by decide +kernel) (by decide +kernel)
theorem kx_EN_OJ : Cond.castable "ProfileRights$Entry" "java/lang/Object" ∈ kw_L := kw_in 932 (by decide +kernel) (by decide +kernel)
end
section
section WF
variable {p : Program} {l : Launch} {e : Env} {R : Room} {s : State} {m : MethodId} {args : Array Value} {below : List Frame} {meth : Method} {c : Code} {Q : State → Prop}
variable {cc : ByteArray} {own : String} {nL : Nat} {ret : Option FieldType} {hh : List (Nat × Nat × Nat × Nat)} {D : va_G} {HB : Heap}
variable {h : hp_T} {cells slots pc : Nat} {lv : List (Nat × Value)} {st rest : List Value} {post : ct_O → hp_T → Prop} {mc ms : Nat}
/-- the base, seen from the method's own start -/
theorem wk_seen (C : wk_C p s m args meth c cc own nL ret hh D HB) {T : State} {locs : List Loc} (X : Stand p l e R s m args below meth c T locs cells slots) {H : Heap} (hT : T.heap = H) (hS : va_S (hp_A HB) HB H locs) : va_S (hp_A HB) s.heap H locs := by
  refine ⟨by rw [← hT]; exact X.same.2.1, fun q h1 h2 => ?_, hS.2.2⟩
  have h3 : q < HB.size := Nat.not_le.mp h2
  rw [hS.2.1 q h3 h2, C.base.2.1 q h3 h2]
theorem wk_gets (C : wk_C p s m args meth c cc own nL ret hh D HB) {cN n d : String} {v : Value} {index : Nat} (hZ : va_Z cN n d v (hp_A HB) s HB) (hk : Cond.fieldLink own index cN n d ∈ kw_L) (hd : decode cc pc = .ok (.getstatic index, 3))
    (kk : Wk p l e R s m args below meth c nL D HB Q h cells slots (pc + 3) lv (v :: rest)) : Wk p l e R s m args below meth c nL D HB Q h cells slots pc lv rest := by
  intro H locs ls hP hS hl T hT X
  exact va_gets C.1 C.2.1 (hZ.kept (fun a h1 h2 => C.base.2.1 a h1 h2)) (wk_seen C X hT hS) C.ow (C.hts _ hk) (fun _ z => z) hd (kk H locs ls hP hS hl) T hT X
/-- 'throw new E("text")' -/
theorem wk_throw (C : wk_C p s m args meth c cc own nL ret [] D HB) (hlt : l.stackTraces = false) {E text : String} {names : List String} {ik is ic : Nat} (hE : Bundle.fit E = true) (hN : ∀ n ∈ names, Bundle.fit n = true) (hk : Cond.classLink own ik E ∈ kw_L) (hini : Cond.initialized E ∈ kw_L) (hstr : (own, is, text) ∈ st_L)
    (hat : ∀ w ∈ vx_atS own ic E names, w ∈ kw_L) (hg : (Cond.classLink own ik E :: Cond.initialized E :: vx_atS own ic E names).all vx_ot = true)
    (d0 : decode cc pc = .ok (.new ik, 3)) (d3 : decode cc (pc + 3) = .ok (.dup, 1)) (d4 : decode cc (pc + 4) = .ok (.ldc is, 2)) (d6 : decode cc (pc + 6) = .ok (.invokespecial ic, 3)) (d9 : decode cc (pc + 9) = .ok (.athrow, 1))
    (hf : names.length + 3 < R.frames) (hlo : (rest.map fun v => v.category).sum + (13 * (names.length + 1) + 43) ≤ R.locals) (hrc : cells + 1 ≤ R.cells) (hrs : slots + 6 ≤ R.slots) (hc : cells + 1 ≤ mc) (hs : slots + 6 ≤ ms) (hp : post (.inr E) h) :
    Wk p l e R s m args below meth c nL D HB (ct_Q below D HB post s mc ms) h cells slots pc lv rest := by
  intro H locs ls hP hS hl T hT X
  obtain ⟨e1, e2, e3, -⟩ := C.ev
  obtain ⟨sa, hsa⟩ := e3 _ hstr
  have htab : c.exceptionTable.toList = [] := List.map_eq_nil_iff.mp C.tab
  have kb : ∀ a : Nat, a < HB.size → ¬ hp_A HB a → s.heap[a]? = HB[a]? := fun a h1 h2 => C.base.2.1 a h1 h2
  obtain ⟨t, a1, o, b1, b2, b3⟩ := vx_throwS (Qc := fun _ _ _ _ => False) (XC := fun E' _ t => E' = E ∧ H.size ≤ t.heap.size ∧ ∀ q : Nat, q < H.size → t.heap[q]? = H[q]?) (free := fun q => HB.size ≤ q) (mc := mc) (ms := ms) C.1 C.2.1 hlt C.ow hE hN (C.hts _ hk) (C.hts _ hini) hsa (fun w hw => C.hts w (hat w hw)) (fun w hw => List.all_eq_true.mp hg w hw)
    (e1.kept kb) (e2.kept kb) (wk_seen C X hT hS) (hl.1.trans C.2.2.1.symm) d0 d3 d4 d6 d9 (by rw [htab]; intro y hy; cases hy) hf hlo hrc hrs C.locks (fun t _ h2 h3 => ⟨rfl, h2, h3⟩) hS.2.2 hc hs T hT X
  rcases b3 with ⟨b4, -⟩ | ⟨q, rfl, E', ce, L, ⟨rfl, x1, x2⟩, x3, x4, x5, x6, x7, x8⟩
  · exact b4.elim
  · refine ⟨t, a1, .threw q, b1, b2, ⟨E', ce, h, hp, fun a x hx => ⟨(hP a x hx).1, (hP a x hx).2.kept (x2 a (hP.lt hx))⟩, ⟨Nat.le_trans hS.1 x1, fun z h1 h2 => ?_, fun _ z => by cases z⟩, x3, x4, x5⟩, L, x6, x7, x8⟩
    rw [x2 z (Nat.lt_of_lt_of_le h1 hS.1)]
    exact hS.2.1 z h1 h2
/-- an exception that the method's own table takes -/
theorem wx_catch (C : wk_C p s m args meth c cc own nL ret hh D HB) {E name : String} {k a b hp2 ct : Nat} (hk : hh[k]? = some (a, b, hp2, ct)) (hin : a ≤ pc ∧ pc < b) (hct : ct ≠ 0) (hlink : Cond.classLink own ct name ∈ kw_L) (hcast : Cond.castable E name ∈ kw_L)
    (hpass : ∀ j, j < k → ∀ z : Nat × Nat × Nat × Nat, hh[j]? = some z → z.2.2.2 ≠ 0 ∧ ∃ nm : String, Cond.classLink own z.2.2.2 nm ∈ kw_L ∧ va_Nc E nm s)
    (kk : ∀ x : Nat, Wk p l e R s m args below meth c nL D HB Q h cells slots hp2 lv [.ref x]) : Wx p l e R s m args below meth c nL D HB Q h cells slots pc lv E := by
  intro x ce T locs ls st hx1 hx2 hx3 hP hS hl X
  have htab := C.tab
  have hlen : k < c.exceptionTable.toList.length := by
    rw [← htab, List.getElem?_map] at hk
    cases hz : c.exceptionTable.toList[k]? with
    | none => rw [hz] at hk; cases hk
    | some z => exact (List.getElem?_eq_some_iff.mp hz).1
  have hrow : ∀ (j : Nat) (y : ExceptionTableEntry), c.exceptionTable.toList[j]? = some y → hh[j]? = some (y.startPc, y.endPc, y.handlerPc, y.catchType) := by
    intro j y hy
    rw [← htab, List.getElem?_map, hy]
    rfl
  have hkk := hrow k _ (List.getElem?_eq_getElem hlen)
  rw [hk] at hkk
  have e0 := Option.some.inj hkk
  have e1 : a = (c.exceptionTable.toList[k]).startPc := congrArg (·.1) e0
  have e2 : b = (c.exceptionTable.toList[k]).endPc := congrArg (·.2.1) e0
  have e3 : hp2 = (c.exceptionTable.toList[k]).handlerPc := congrArg (·.2.2.1) e0
  have e4 : ct = (c.exceptionTable.toList[k]).catchType := congrArg (·.2.2.2) e0
  have hsplit : c.exceptionTable.toList = c.exceptionTable.toList.take k ++ c.exceptionTable.toList[k] :: c.exceptionTable.toList.drop (k + 1) := by
    rw [← List.drop_eq_getElem_cons hlen, List.take_append_drop]
  refine vx_catch (own := own) (name := name) (E := E) (ce := ce) (q := x) (H := T.heap) (locs := locs) (cells := cells) (slots := slots) C.ow _ _ _ hsplit ?_ ?_ (by rw [← e4]; exact hct) (by rw [← e4]; exact C.hts _ hlink) (C.hts _ hcast) hx1 hx2 hx3 ?_ T rfl X
  · intro z hz
    obtain ⟨j, hj⟩ := List.getElem?_of_mem hz
    have hjk : j < k := by
      have := (List.getElem?_eq_some_iff.mp hj).1
      rw [List.length_take] at this
      omega
    rw [List.getElem?_take_of_lt hjk] at hj
    obtain ⟨z1, nm, z2, z3⟩ := hpass j hjk _ (hrow j z hj)
    exact Or.inr ⟨z1, nm, C.hts _ z2, z3⟩
  · unfold covers
    rw [← e1, ← e2]
    simp [hin.1, hin.2]
  · rw [← e3]
    exact kk x T.heap locs ls hP hS hl
theorem wk_cast (C : wk_C p s m args meth c cc own nL ret hh D HB) {a ci index : Nat} {fs : List Value} {r : vw_C} (ha : h a = some (.inr (ci, fs))) (hr : vwCl[ci]? = some r) (hk : Cond.classLink own index r.1 ∈ kw_L) (hd : decode cc pc = .ok (.checkcast index, 3))
    (kk : Wk p l e R s m args below meth c nL D HB Q h cells slots (pc + 3) lv (.ref a :: rest)) : Wk p l e R s m args below meth c nL D HB Q h cells slots pc lv (.ref a :: rest) :=
  fun H locs ls hP hS hl => va_castS (cC := D.1 ci) C.1 C.2.1 C.ow (C.hts _ hk) (C.K.1 ci _ hr).2 (va_recv C.K (hP.one ha) hr (q0 := 0) rfl) hd (kk H locs ls hP hS hl)
theorem wk_obj (C : wk_C p s m args meth c cc own nL ret hh D HB) {a index : Nat} (hk : Cond.methodLink own index Lib.objectInit ∈ kw_L) (hi : Cond.instanceMethod Lib.objectInit ∈ kw_L) (hcd : Cond.code Lib.objectInit ⟨#[0xb1]⟩ 1 none ∈ kw_L) (hf : 1 ≤ R.frames) (hlo : (rest.map fun v => v.category).sum + 12 ≤ R.locals) (hd : decode cc pc = .ok (.invokespecial index, 3))
    (kk : Wk p l e R s m args below meth c nL D HB Q h cells slots (pc + 3) lv rest) : Wk p l e R s m args below meth c nL D HB Q h cells slots pc lv (.ref a :: rest) := by
  intro H locs ls hP hS hl
  refine W.objInit C.1 C.2.1 C.ow (C.hts _ hk) (C.hts _ hi) (C.hts _ hcd) rfl (hl.1.trans C.2.2.1.symm) rfl hd hf (by show 2 * 0 + _ + 12 ≤ _; rw [Nat.mul_zero, Nat.zero_add]; exact hlo) ?_
  exact kk H locs ls hP hS hl
theorem wk_aald (C : wk_C p s m args meth c cc own nL ret hh D HB) {a n y : Nat} {f : Nat → Option Nat} {i : Int32} (ha : h a = some (.inl (D.1 102, n, .inr (.inr (.inr (.inr f)))))) (hi : vp_in i n) (hy : f i.toNatClampNeg = some y) (hd : decode cc pc = .ok (.aaload, 1))
    (kk : Wk p l e R s m args below meth c nL D HB Q h cells slots (pc + 1) lv (.ref y :: rest)) : Wk p l e R s m args below meth c nL D HB Q h cells slots pc lv (.int i :: .ref a :: rest) := by
  intro H locs ls hP hS hl
  refine va_aldq (D := D) C.1 C.2.1 C.K (hP.one ha) 0 2 rfl rfl hi hd ?_
  rw [hy]
  exact kk H locs ls hP hS hl
theorem wk_aast (C : wk_C p s m args meth c cc own nL ret hh D HB) {a n y ci : Nat} {f : Nat → Option Nat} {i : Int32} {fs : List Value} {r : vw_C} (ha : h a = some (.inl (D.1 102, n, .inr (.inr (.inr (.inr f)))))) (hi : vp_in i n) (hy : h y = some (.inr (ci, fs))) (hr : vwCl[ci]? = some r) (hk : Cond.castable r.1 "java/lang/Object" ∈ kw_L) (hd : decode cc pc = .ok (.aastore, 1))
    (kk : Wk p l e R s m args below meth c nL D HB Q (hp_up h a (.inl (D.1 102, n, .inr (.inr (.inr (.inr (va_up f i.toNatClampNeg (some y)))))))) cells slots (pc + 1) lv rest) : Wk p l e R s m args below meth c nL D HB Q h cells slots pc lv (.ref y :: .int i :: .ref a :: rest) := by
  intro H locs ls hP hS hl
  obtain ⟨q0, hq⟩ := hP.at ha
  obtain ⟨q1, hq1⟩ := hP.at hy
  exact va_astqO (D := D) (E := "java/lang/Object") C.1 C.2.1 C.K hP.P hP.D hS q0 2 q1 ci hq rfl (va_Nw.of rfl (C.hts _ hk)) hq1 hr hi hd (fun H1 locs1 p1 d1 s1 => kk H1 locs1 ls (hP.set hq p1) s1 hl)
theorem wk_aastN (C : wk_C p s m args meth c cc own nL ret hh D HB) {a n : Nat} {f : Nat → Option Nat} {i : Int32} (ha : h a = some (.inl (D.1 102, n, .inr (.inr (.inr (.inr f)))))) (hi : vp_in i n) (hd : decode cc pc = .ok (.aastore, 1))
    (kk : Wk p l e R s m args below meth c nL D HB Q (hp_up h a (.inl (D.1 102, n, .inr (.inr (.inr (.inr (va_up f i.toNatClampNeg none))))))) cells slots (pc + 1) lv rest) : Wk p l e R s m args below meth c nL D HB Q h cells slots pc lv (.null :: .int i :: .ref a :: rest) := by
  intro H locs ls hP hS hl
  obtain ⟨q0, hq⟩ := hP.at ha
  exact va_astqN (D := D) C.1 C.2.1 C.K hP.P hP.D hS q0 2 hq rfl hi hd (fun H1 locs1 p1 d1 s1 => kk H1 locs1 ls (hP.set hq p1) s1 hl)
theorem wk_alen (C : wk_C p s m args meth c cc own nL ret hh D HB) {a t0 : Nat} {cA : ClassId} {x : vp_A} {ty : FieldType} (ha : h a = some (.inl (cA, x))) (ht : (ty_L D)[t0]? = some (cA, ty)) (hd : decode cc pc = .ok (.arraylength, 1))
    (kk : Wk p l e R s m args below meth c nL D HB Q h cells slots (pc + 1) lv (.int (nI x.1) :: rest)) : Wk p l e R s m args below meth c nL D HB Q h cells slots pc lv (.ref a :: rest) :=
  fun H locs ls hP hS hl => va_alen (D := D) C.1 C.2.1 C.K (hP.one ha) 0 t0 rfl ht rfl hd (kk H locs ls hP hS hl)
theorem wk_zald (C : wk_C p s m args meth c cc own nL ret hh D HB) {a n : Nat} {f : Nat → Int32} {i : Int32} (ha : h a = some (.inl (D.1 103, n, .inl f))) (hi : vp_in i n) (hd : decode cc pc = .ok (.baload, 1))
    (kk : Wk p l e R s m args below meth c nL D HB Q h cells slots (pc + 1) lv (.int (f i.toNatClampNeg) :: rest)) : Wk p l e R s m args below meth c nL D HB Q h cells slots pc lv (.int i :: .ref a :: rest) :=
  fun H locs ls hP hS hl => va_zald (D := D) C.1 C.2.1 C.K (hP.one ha) 0 3 rfl rfl hi hd (kk H locs ls hP hS hl)
theorem wk_zast (C : wk_C p s m args meth c cc own nL ret hh D HB) {a n : Nat} {f : Nat → Int32} {i x : Int32} (ha : h a = some (.inl (D.1 103, n, .inl f))) (hi : vp_in i n) (hx : vp_nar .boolean x = x) (hd : decode cc pc = .ok (.bastore, 1))
    (kk : Wk p l e R s m args below meth c nL D HB Q (hp_up h a (.inl (D.1 103, n, .inl (upd f i.toNatClampNeg x)))) cells slots (pc + 1) lv rest) : Wk p l e R s m args below meth c nL D HB Q h cells slots pc lv (.int x :: .int i :: .ref a :: rest) := by
  intro H locs ls hP hS hl
  obtain ⟨q0, hq⟩ := hP.at ha
  refine va_zast (D := D) C.1 C.2.1 C.K hP.P hP.D hS q0 3 hq rfl hi hd (fun H1 locs1 p1 d1 s1 => ?_)
  rw [hx] at p1
  exact kk H1 locs1 ls (hP.set hq p1) s1 hl
/-- the class of an array, by its component's type -/
theorem wk_arr (C : wk_C p s m args meth c cc own nL ret hh D HB) {t0 : Nat} {cA cB : ClassId} {ty : FieldType} (ht : (ty_L D)[t0]? = some (cA, ty)) (hK : va_K D vwCl (ty_L D ++ [(cB, ty)]) s) : cB = cA := by
  have h1 := (C.K.2 t0 _ ht).2
  have h2 := (hK.2 (ty_L D).length (cB, ty) (by simp)).2
  cases ty <;> first | exact Option.some.inj (h2.symm.trans h1) | (obtain ⟨_, _, _, _, _, e1⟩ := h1; obtain ⟨_, _, _, _, _, e2⟩ := h2; exact Option.some.inj (e2.symm.trans e1))
theorem wk_newi (C : wk_C p s m args meth c cc own nL ret hh D HB) {n : Int32} {N : Nat} (hw : Cond.arrayClass .int ∈ kw_L) (hn : n = nI N) (hN : N ≤ 100000) (hc : cells + 1 ≤ R.cells) (hs : slots + N ≤ R.slots) (hd : decode cc pc = .ok (.newarray .int, 2))
    (kk : ∀ q : Nat, h q = none → Wk p l e R s m args below meth c nL D HB Q (hp_up h q (.inl (D.1 100, N, .inl (fun _ => 0)))) (cells + 1) (slots + N) (pc + 2) lv (.ref q :: rest)) : Wk p l e R s m args below meth c nL D HB Q h cells slots pc lv (.int n :: rest) := by
  intro H locs ls hP hS hl
  subst hn
  refine va_newa (D := D) (atype := .int) (ty := .int) (a0 := (N, .inl (fun _ => 0))) C.1 C.2.1 (C.hts _ hw) rfl C.K hP.P hP.D hS (fun q z => z) (fun _ => rfl) (nI_pos (by omega)) (nI_clamp (by omega)) (by show N * 4 ≤ _; omega) hc hs hd (fun q cA H1 k1 p1 d1 s1 => ?_)
  have e1 := wk_arr C (t0 := 0) rfl k1
  subst e1
  obtain ⟨p2, hn⟩ := hP.new p1 d1
  exact kk q hn H1 locs ls p2 s1 hl
theorem wk_newl (C : wk_C p s m args meth c cc own nL ret hh D HB) {n : Int32} {N : Nat} (hw : Cond.arrayClass .long ∈ kw_L) (hn : n = nI N) (hN : N ≤ 100000) (hc : cells + 1 ≤ R.cells) (hs : slots + N ≤ R.slots) (hd : decode cc pc = .ok (.newarray .long, 2))
    (kk : ∀ q : Nat, h q = none → Wk p l e R s m args below meth c nL D HB Q (hp_up h q (.inl (D.1 101, N, .inr (.inl (fun _ => 0))))) (cells + 1) (slots + N) (pc + 2) lv (.ref q :: rest)) : Wk p l e R s m args below meth c nL D HB Q h cells slots pc lv (.int n :: rest) := by
  intro H locs ls hP hS hl
  subst hn
  refine va_newa (D := D) (atype := .long) (ty := .long) (a0 := (N, .inr (.inl (fun _ => 0)))) C.1 C.2.1 (C.hts _ hw) rfl C.K hP.P hP.D hS (fun q z => z) (fun _ => rfl) (nI_pos (by omega)) (nI_clamp (by omega)) (by show N * 8 ≤ _; omega) hc hs hd (fun q cA H1 k1 p1 d1 s1 => ?_)
  have e1 := wk_arr C (t0 := 1) rfl k1
  subst e1
  obtain ⟨p2, hn⟩ := hP.new p1 d1
  exact kk q hn H1 locs ls p2 s1 hl
theorem wk_newz (C : wk_C p s m args meth c cc own nL ret hh D HB) {n : Int32} {N : Nat} (hw : Cond.arrayClass .boolean ∈ kw_L) (hn : n = nI N) (hN : N ≤ 100000) (hc : cells + 1 ≤ R.cells) (hs : slots + N ≤ R.slots) (hd : decode cc pc = .ok (.newarray .boolean, 2))
    (kk : ∀ q : Nat, h q = none → Wk p l e R s m args below meth c nL D HB Q (hp_up h q (.inl (D.1 103, N, .inl (fun _ => 0)))) (cells + 1) (slots + N) (pc + 2) lv (.ref q :: rest)) : Wk p l e R s m args below meth c nL D HB Q h cells slots pc lv (.int n :: rest) := by
  intro H locs ls hP hS hl
  subst hn
  refine va_newa (D := D) (atype := .boolean) (ty := .boolean) (a0 := (N, .inl (fun _ => 0))) C.1 C.2.1 (C.hts _ hw) rfl C.K hP.P hP.D hS (fun q z => z) (fun _ => rfl) (nI_pos (by omega)) (nI_clamp (by omega)) (by show N * 1 ≤ _; omega) hc hs hd (fun q cA H1 k1 p1 d1 s1 => ?_)
  have e1 := wk_arr C (t0 := 3) rfl k1
  subst e1
  obtain ⟨p2, hn⟩ := hP.new p1 d1
  exact kk q hn H1 locs ls p2 s1 hl
theorem wk_ldc (C : wk_C p s m args meth c cc own nL ret hh D HB) {index : Nat} {v : Int32} (hk : Cond.constant own index v ∈ kw_L) (hd : decode cc pc = .ok (.ldc index, 2)) (kk : Wk p l e R s m args below meth c nL D HB Q h cells slots (pc + 2) lv (.int v :: rest)) : Wk p l e R s m args below meth c nL D HB Q h cells slots pc lv rest :=
  fun H locs ls hP hS hl => lv_ldc C.1 C.2.1 C.ow (C.hts _ hk) hd (kk H locs ls hP hS hl)
theorem wk_ldc2 (C : wk_C p s m args meth c cc own nL ret hh D HB) {index : Nat} {v : Int64} (hk : Cond.constantLong own index v ∈ kw_L) (hd : decode cc pc = .ok (.ldc2_w index, 3)) (kk : Wk p l e R s m args below meth c nL D HB Q h cells slots (pc + 3) lv (.long v :: rest)) : Wk p l e R s m args below meth c nL D HB Q h cells slots pc lv rest :=
  fun H locs ls hP hS hl => lv_ldc2 C.1 C.2.1 C.ow (C.hts _ hk) hd (kk H locs ls hP hS hl)
theorem wk_lcmp (C : wk_C p s m args meth c cc own nL ret hh D HB) {x y : Int64} (hd : decode cc pc = .ok (.lcmp, 1)) (kk : Wk p l e R s m args below meth c nL D HB Q h cells slots (pc + 1) lv (.int (lg_cmp x y) :: rest)) : Wk p l e R s m args below meth c nL D HB Q h cells slots pc lv (.long y :: .long x :: rest) :=
  fun H locs ls hP hS hl => W.lcmp C.1 C.2.1 hd (kk H locs ls hP hS hl)
theorem wk_tabO (C : wk_C p s m args meth c cc own nL ret hh D HB) {dflt lo hi : Int} {offs : Array Int} {len : Nat} {x : Int32} {tgt : Nat} (hd : decode cc pc = .ok (.tableswitch dflt lo hi offs, len)) (hx : x.toInt < lo ∨ hi < x.toInt) (ht : (pc : Int) + dflt = (tgt : Int)) (kk : Wk p l e R s m args below meth c nL D HB Q h cells slots tgt lv rest) : Wk p l e R s m args below meth c nL D HB Q h cells slots pc lv (.int x :: rest) :=
  fun H locs ls hP hS hl => lv_tableOut C.1 C.2.1 hd hx ht (kk H locs ls hP hS hl)
theorem wk_tabI (C : wk_C p s m args meth c cc own nL ret hh D HB) {dflt lo hi : Int} {offs : Array Int} {len : Nat} {x : Int32} {off : Int} {tgt : Nat} (hd : decode cc pc = .ok (.tableswitch dflt lo hi offs, len)) (h1 : ¬ x.toInt < lo) (h2 : ¬ hi < x.toInt) (ho : offs[(x.toInt - lo).toNat]? = some off) (ht : (pc : Int) + off = (tgt : Int)) (kk : Wk p l e R s m args below meth c nL D HB Q h cells slots tgt lv rest) : Wk p l e R s m args below meth c nL D HB Q h cells slots pc lv (.int x :: rest) :=
  fun H locs ls hP hS hl => lv_tableIn C.1 C.2.1 hd h1 h2 ho ht (kk H locs ls hP hS hl)
theorem wk_lsw (C : wk_C p s m args meth c cc own nL ret hh D HB) {dflt : Int} {ps : Array (Int × Int)} {len : Nat} {x : Int32} {off : Int} {tgt : Nat} (hd : decode cc pc = .ok (.lookupswitch dflt ps, len)) (hp : (ps.toList.zip (ps.toList.drop 1)).all (fun (a, next) => a.1 < next.1) = true) (ho : Op.lookupswitch.offset ps.toList dflt x.toInt = off) (ht : (pc : Int) + off = (tgt : Int)) (kk : Wk p l e R s m args below meth c nL D HB Q h cells slots tgt lv rest) : Wk p l e R s m args below meth c nL D HB Q h cells slots pc lv (.int x :: rest) :=
  fun H locs ls hP hS hl => lv_lookup C.1 C.2.1 hd hp ho ht (kk H locs ls hP hS hl)
/-- what comes off the stack gets a name -/
theorem wk_top {x : Int32} (k : ∀ y : Int32, y = x → Wk p l e R s m args below meth c nL D HB Q h cells slots pc lv (.int y :: rest)) : Wk p l e R s m args below meth c nL D HB Q h cells slots pc lv (.int x :: rest) := k x rfl
end WF
end
section
section WG
variable {p : Program} {l : Launch} {e : Env} {R : Room} {s : State} {m : MethodId} {args : Array Value} {below : List Frame} {meth : Method} {c : Code} {Q : State → Prop}
variable {cc : ByteArray} {own : String} {nL : Nat} {ret : Option FieldType} {hh : List (Nat × Nat × Nat × Nat)} {D : va_G} {HB : Heap}
variable {h : hp_T} {cells slots pc : Nat} {lv : List (Nat × Value)} {st rest : List Value}
/-- the length of an array that lies in the base -/
theorem wk_tlen (C : wk_C p s m args meth c cc own nL ret hh D HB) {ty : FieldType} {t N : Nat} {f : Nat → Value} (hZ : va_T ty t N f (hp_A HB) s HB) (hd : decode cc pc = .ok (.arraylength, 1))
    (kk : Wk p l e R s m args below meth c nL D HB Q h cells slots (pc + 1) lv (.int (nI N) :: rest)) : Wk p l e R s m args below meth c nL D HB Q h cells slots pc lv (.ref t :: rest) := by
  intro H locs ls hP hS hl T hT X
  exact va_tlen C.1 C.2.1 (hZ.kept (fun a h1 h2 => C.base.2.1 a h1 h2)) (wk_seen C X hT hS) rfl hd (kk H locs ls hP hS hl) T hT X
theorem wk_newq (C : wk_C p s m args meth c cc own nL ret hh D HB) {n : Int32} {N index : Nat} (hk : Cond.classLink own index "java/lang/Object" ∈ kw_L) (hn : n = nI N) (hN : N ≤ 100000) (hc : cells + 1 ≤ R.cells) (hs : slots + N ≤ R.slots) (hd : decode cc pc = .ok (.anewarray index, 3))
    (kk : ∀ q : Nat, h q = none → Wk p l e R s m args below meth c nL D HB Q (hp_up h q (.inl (D.1 102, N, .inr (.inr (.inr (.inr (fun _ => none))))))) (cells + 1) (slots + N) (pc + 3) lv (.ref q :: rest)) : Wk p l e R s m args below meth c nL D HB Q h cells slots pc lv (.int n :: rest) := by
  intro H locs ls hP hS hl
  subst hn
  refine va_newq (D := D) (C := "java/lang/Object") C.1 C.2.1 C.ow (C.hts _ hk) C.ev.2.2.2.2.2.2.1 C.K hP.P hP.D hS (fun q z => z) (nI_pos (by omega)) (nI_clamp (by omega)) (by omega) hc hs hd (fun q cA H1 k1 p1 d1 s1 => ?_)
  have e1 := wk_arr C (t0 := 2) rfl k1
  subst e1
  obtain ⟨p2, hn⟩ := hP.new p1 d1
  exact kk q hn H1 locs ls p2 s1 hl
/-- an object that may lie in an array of Objects -/
def ob_ok (h : hp_T) (y : Nat) : Prop := ∃ (ci : Nat) (fs : List Value) (r : vw_C), h y = some (.inr (ci, fs)) ∧ vwCl[ci]? = some r ∧ Cond.castable r.1 "java/lang/Object" ∈ kw_L
theorem wk_aastO (C : wk_C p s m args meth c cc own nL ret hh D HB) {a n y : Nat} {f : Nat → Option Nat} {i : Int32} (ha : h a = some (.inl (D.1 102, n, .inr (.inr (.inr (.inr f)))))) (hi : vp_in i n) (hy : ob_ok h y) (hd : decode cc pc = .ok (.aastore, 1))
    (kk : Wk p l e R s m args below meth c nL D HB Q (hp_up h a (.inl (D.1 102, n, .inr (.inr (.inr (.inr (va_up f i.toNatClampNeg (some y)))))))) cells slots (pc + 1) lv rest) : Wk p l e R s m args below meth c nL D HB Q h cells slots pc lv (.ref y :: .int i :: .ref a :: rest) := by
  obtain ⟨ci, fs, r, h1, h2, h3⟩ := hy
  exact wk_aast C ha hi h1 h2 h3 hd kk
theorem wk_copy (C : wk_C p s m args meth c cc own nL ret hh D HB) {index a0 a n0 n1 sp dp n : Nat} {f g : Nat → Option Nat} {xs xd xn : Int32} (hk : Cond.methodLink own index arraycopyName ∈ kw_L) (hnat : Cond.native arraycopyName ∈ kw_L) (hst : Cond.static arraycopyName ∈ kw_L) (hini : Cond.initialized "java/lang/System" ∈ kw_L)
    (ha0 : h a0 = some (.inl (D.1 102, n0, .inr (.inr (.inr (.inr f)))))) (ha1 : h a = some (.inl (D.1 102, n1, .inr (.inr (.inr (.inr g)))))) (e1 : xs = nI sp) (e2 : xd = nI dp) (e3 : xn = nI n) (b0 : n0 ≤ 100000) (b1 : n1 ≤ 100000) (h4 : sp + n ≤ n0) (h5 : dp + n ≤ n1) (hel : ∀ i : Nat, i < n → ∀ y : Nat, f (sp + i) = some y → ob_ok h y)
    (hf : 1 ≤ R.frames) (hlo : (rest.map fun v => v.category).sum + (nativeFrameWords "java/lang/System" "arraycopy" 5 + 11) ≤ R.locals) (hd : decode cc pc = .ok (.invokestatic index, 3))
    (kk : Wk p l e R s m args below meth c nL D HB Q (hp_up h a (.inl (D.1 102, n1, .inr (.inr (.inr (.inr (va_cpy f g sp dp n))))))) cells slots (pc + 3) lv rest) : Wk p l e R s m args below meth c nL D HB Q h cells slots pc lv (.int xn :: .int xd :: .ref a :: .int xs :: .ref a0 :: rest) := by
  intro H locs ls hP hS hl
  subst e1; subst e2; subst e3
  obtain ⟨q0, hq0⟩ := hP.at ha0
  obtain ⟨q1, hq1⟩ := hP.at ha1
  have c1 : (nI sp).toNatClampNeg = sp := nI_clamp (by omega)
  have c2 : (nI dp).toNatClampNeg = dp := nI_clamp (by omega)
  have c3 : (nI n).toNatClampNeg = n := nI_clamp (by omega)
  refine va_copyM (D := D) (E0 := "java/lang/Object") (E1 := "java/lang/Object") C.1 C.2.1 (C.2.2.1.trans hl.1.symm) C.ow (C.hts _ hk) (C.hts _ hnat) (C.hts _ hst) (C.hts _ hini) C.K hP.P hP.D hS q0 q1 2 2 hq0 hq1 rfl rfl (nI_pos (by omega)) (nI_pos (by omega)) (nI_pos (by omega)) (by rw [c1, c3]; exact h4) (by rw [c2, c3]; exact h5) ?_ hf hlo hd (fun H1 locs1 p1 d1 s1 => ?_)
  · intro i hi y hy
    rw [c3] at hi
    rw [c1] at hy
    obtain ⟨ci, fs, r, g1, g2, g3⟩ := hel i hi y hy
    exact va_rAny C.K (hP.one g1) (q0 := 0) rfl g2 (vb_asgC (va_Nw.of rfl (C.hts _ g3)))
  · rw [c1, c2, c3] at p1
    exact kk H1 locs1 ls (hP.set hq1 p1) s1 hl
theorem wk_getC (C : wk_C p s m args meth c cc own nL ret hh D HB) {a index : Nat} {x : vp_A} (ha : h a = some (.inl (D.1 102, x))) (hk : Cond.methodLink own index ⟨"java/lang/Object", "getClass", "()Ljava/lang/Class;"⟩ ∈ kw_L) (hdc : Cond.declares ⟨"java/lang/Object", "getClass", "()Ljava/lang/Class;"⟩ ∈ kw_L)
    (hsl : Cond.selects "[Ljava/lang/Object;" ⟨"java/lang/Object", "getClass", "()Ljava/lang/Class;"⟩ ⟨"java/lang/Object", "getClass", "()Ljava/lang/Class;"⟩ ∈ kw_L) (hin : Cond.instanceMethod ⟨"java/lang/Object", "getClass", "()Ljava/lang/Class;"⟩ ∈ kw_L) (hnt : Cond.native ⟨"java/lang/Object", "getClass", "()Ljava/lang/Class;"⟩ ∈ kw_L)
    (hf : 1 ≤ R.frames) (hlo : (rest.map fun v => v.category).sum + 14 ≤ R.locals) (hd : decode cc pc = .ok (.invokevirtual index, 3))
    (kk : Wk p l e R s m args below meth c nL D HB Q h cells slots (pc + 3) lv (.ref (D.2 201 0) :: rest)) : Wk p l e R s m args below meth c nL D HB Q h cells slots pc lv (.ref a :: rest) := by
  intro H locs ls hP hS hl
  have hc := (hP a _ ha).2
  refine va_getC (C := "[Ljava/lang/Object;") C.1 C.2.1 (C.2.2.1.trans hl.1.symm) C.ow (C.hts _ hk) (C.hts _ hdc) (C.hts _ hsl) (C.hts _ hin) (C.hts _ hnt) C.ev.2.2.2.2.2.2.2 ⟨vp_cell (D.1 102) x, hc, ?_, ?_⟩ hf hlo hd (kk H locs ls hP hS hl)
  · obtain ⟨n, f | f | f | f | f⟩ := x <;> rfl
  · rw [va_nmO (C := "java/lang/Object") (C.K.2 2 _ rfl).2 (by decide +kernel)]
    obtain ⟨n, f | f | f | f | f⟩ := x <;> rfl
theorem wk_ldcM (C : wk_C p s m args meth c cc own nL ret hh D HB) {index : Nat} (hk : Cond.classLink own index "[Ljava/lang/Object;" ∈ kw_L) (hd : decode cc pc = .ok (.ldc index, 2))
    (kk : Wk p l e R s m args below meth c nL D HB Q h cells slots (pc + 2) lv (.ref (D.2 201 0) :: rest)) : Wk p l e R s m args below meth c nL D HB Q h cells slots pc lv rest :=
  fun H locs ls hP hS hl => va_ldcM C.1 C.2.1 C.ow (C.hts _ hk) C.ev.2.2.2.2.2.2.2 hd (kk H locs ls hP hS hl)
end WG
theorem kg_dc : Cond.declares ⟨"java/lang/Object", "getClass", "()Ljava/lang/Class;"⟩ ∈ kw_L := kw_in 924 (by decide +kernel) (by decide +kernel)
theorem kg_sl : Cond.selects "[Ljava/lang/Object;" ⟨"java/lang/Object", "getClass", "()Ljava/lang/Class;"⟩ ⟨"java/lang/Object", "getClass", "()Ljava/lang/Class;"⟩ ∈ kw_L := kw_in 923 (by decide +kernel) (by decide +kernel)
theorem kg_in : Cond.instanceMethod ⟨"java/lang/Object", "getClass", "()Ljava/lang/Class;"⟩ ∈ kw_L := kw_in 330 (by decide +kernel) (by decide +kernel)
theorem kg_nt : Cond.native ⟨"java/lang/Object", "getClass", "()Ljava/lang/Class;"⟩ ∈ kw_L := kw_in 343 (by decide +kernel) (by decide +kernel)
theorem kg_lk : Cond.methodLink "java/util/Arrays" 86 ⟨"java/lang/Object", "getClass", "()Ljava/lang/Class;"⟩ ∈ kw_L := kw_in 329 (by decide +kernel) (by decide +kernel)
theorem kp_nt : Cond.native arraycopyName ∈ kw_L := kw_in 355 (by decide +kernel) (by decide +kernel)
theorem kp_st : Cond.static arraycopyName ∈ kw_L := kw_in 354 (by decide +kernel) (by decide +kernel)
theorem kp_AR : Cond.methodLink "java/util/Arrays" 150 arraycopyName ∈ kw_L := kw_in 353 (by decide +kernel) (by decide +kernel)
theorem kp_AL : Cond.methodLink "java/util/ArrayList" 112 arraycopyName ∈ kw_L := kw_in 547 (by decide +kernel) (by decide +kernel)
end
section
theorem kj_in : Cond.instanceMethod Lib.objectInit ∈ kw_L := kw_in 29 (by decide +kernel) (by decide +kernel)
theorem kj_cd : Cond.code Lib.objectInit ⟨#[0xb1]⟩ 1 none ∈ kw_L := kw_in 30 (by decide +kernel) (by decide +kernel)
theorem hp_uu {h : hp_T} {a : Nat} {x y : va_E} : hp_up (hp_up h a x) a y = hp_up h a y := by
  funext q
  unfold hp_up
  split <;> rfl
theorem at_IA : ∀ w ∈ vx_atS "ProfileRights" 109 "java/lang/IllegalArgumentException" ["java/lang/RuntimeException", "java/lang/Exception"], w ∈ kw_L := by decide +kernel
theorem ag_IA : (Cond.classLink "ProfileRights" 105 "java/lang/IllegalArgumentException" :: Cond.initialized "java/lang/IllegalArgumentException" :: vx_atS "ProfileRights" 109 "java/lang/IllegalArgumentException" ["java/lang/RuntimeException", "java/lang/Exception"]).all vx_ot = true := by decide +kernel
theorem at_IS : ∀ w ∈ vx_atS "ProfileRights" 56 "java/lang/IllegalStateException" ["java/lang/RuntimeException", "java/lang/Exception"], w ∈ kw_L := by decide +kernel
theorem ag_IS : (Cond.classLink "ProfileRights" 52 "java/lang/IllegalStateException" :: Cond.initialized "java/lang/IllegalStateException" :: vx_atS "ProfileRights" 56 "java/lang/IllegalStateException" ["java/lang/RuntimeException", "java/lang/Exception"]).all vx_ot = true := by decide +kernel
def eA : String := "java/lang/IllegalArgumentException"
def eS : String := "java/lang/IllegalStateException"
section TH
variable {p : Program} {l : Launch} {e : Env} {R : Room} {s : State} {m : MethodId} {args : Array Value} {below : List Frame} {meth : Method} {c : Code} {Q : State → Prop}
variable {cc : ByteArray} {nL : Nat} {ret : Option FieldType} {D : va_G} {HB : Heap}
variable {h : hp_T} {cells slots pc : Nat} {lv : List (Nat × Value)} {rest : List Value} {post : ct_O → hp_T → Prop} {mc ms : Nat}
theorem Wk.he {h2 : hp_T} {st : List Value} (e1 : h = h2) (k : Wk p l e R s m args below meth c nL D HB Q h2 cells slots pc lv st) : Wk p l e R s m args below meth c nL D HB Q h cells slots pc lv st := e1 ▸ k
theorem wk_thrA (C : wk_C p s m args meth c cc "ProfileRights" nL ret [] D HB) (hlt : l.stackTraces = false) {text : String} {is : Nat} (hstr : ("ProfileRights", is, text) ∈ st_L) (d0 : decode cc pc = .ok (.new 105, 3)) (d3 : decode cc (pc + 3) = .ok (.dup, 1)) (d4 : decode cc (pc + 4) = .ok (.ldc is, 2)) (d6 : decode cc (pc + 6) = .ok (.invokespecial 109, 3)) (d9 : decode cc (pc + 9) = .ok (.athrow, 1))
    (hf : 5 < R.frames) (hlo : (rest.map fun v => v.category).sum + 82 ≤ R.locals) (hrc : cells + 1 ≤ R.cells) (hrs : slots + 6 ≤ R.slots) (hc : cells + 1 ≤ mc) (hs : slots + 6 ≤ ms) (hp : post (.inr eA) h) : Wk p l e R s m args below meth c nL D HB (ct_Q below D HB post s mc ms) h cells slots pc lv rest :=
  wk_throw C hlt (E := "java/lang/IllegalArgumentException") (names := ["java/lang/RuntimeException", "java/lang/Exception"]) (by decide) (by decide) cl_PR_105 ki_IA hstr at_IA ag_IA d0 d3 d4 d6 d9 hf hlo hrc hrs hc hs hp
theorem wk_thrS (C : wk_C p s m args meth c cc "ProfileRights" nL ret [] D HB) (hlt : l.stackTraces = false) {text : String} {is : Nat} (hstr : ("ProfileRights", is, text) ∈ st_L) (d0 : decode cc pc = .ok (.new 52, 3)) (d3 : decode cc (pc + 3) = .ok (.dup, 1)) (d4 : decode cc (pc + 4) = .ok (.ldc is, 2)) (d6 : decode cc (pc + 6) = .ok (.invokespecial 56, 3)) (d9 : decode cc (pc + 9) = .ok (.athrow, 1))
    (hf : 5 < R.frames) (hlo : (rest.map fun v => v.category).sum + 82 ≤ R.locals) (hrc : cells + 1 ≤ R.cells) (hrs : slots + 6 ≤ R.slots) (hc : cells + 1 ≤ mc) (hs : slots + 6 ≤ ms) (hp : post (.inr eS) h) : Wk p l e R s m args below meth c nL D HB (ct_Q below D HB post s mc ms) h cells slots pc lv rest :=
  wk_throw C hlt (E := "java/lang/IllegalStateException") (names := ["java/lang/RuntimeException", "java/lang/Exception"]) (by decide) (by decide) cl_PR_52 ki_IS hstr at_IS ag_IS d0 d3 d4 d6 d9 hf hlo hrc hrs hc hs hp
end TH
end
section
theorem k_EN_init_0 : px_dec prog_2_method_1_code [.aload_n 0] 0 = true := by decide +kernel
theorem d_EN_init_1 : decode prog_2_method_1_code 1 = .ok (.invokespecial 3, 3) := by decide +kernel
theorem k_EN_init_4 : px_dec prog_2_method_1_code [.aload_n 0, .iload_n 1] 4 = true := by decide +kernel
theorem d_EN_init_6 : decode prog_2_method_1_code 6 = .ok (.putfield 9, 3) := by decide +kernel
theorem k_EN_init_9 : px_dec prog_2_method_1_code [.aload_n 0, .iload_n 2] 9 = true := by decide +kernel
theorem d_EN_init_11 : decode prog_2_method_1_code 11 = .ok (.putfield 15, 3) := by decide +kernel
theorem k_EN_init_14 : px_dec prog_2_method_1_code [.aload_n 0, .iconst 0] 14 = true := by decide +kernel
theorem d_EN_init_16 : decode prog_2_method_1_code 16 = .ok (.putfield 18, 3) := by decide +kernel
theorem k_EN_init_19 : px_dec prog_2_method_1_code [.aload_n 0] 19 = true := by decide +kernel
theorem d_EN_init_20 : decode prog_2_method_1_code 20 = .ok (.ldc 21, 2) := by decide +kernel
theorem d_EN_init_22 : decode prog_2_method_1_code 22 = .ok (.putfield 22, 3) := by decide +kernel
theorem d_EN_init_25 : decode prog_2_method_1_code 25 = .ok (.return_, 1) := by decide +kernel
set_option maxRecDepth 100000 in
set_option maxHeartbeats 4000000 in
theorem c_EN_init (l : Launch) (D : va_G) (HB : Heap) (h : hp_T) (a : Nat) (f0 f1 f2 f3 p1 p2 : Int32) (ha : h a = some (.inr (4, [.int f0, .int f1, .int f2, .int f3]))) : ct_M l y_EN_init (.code y_EN_init prog_2_method_1_code 3 (Option.none : Option Jvm.ClassFile.FieldType)) ({ frames := 1, cells := 0, slots := 0, locals := 14 }) D HB [.ref a, .int p1, .int p2] h (fun o h2 => o = .inl none ∧ h2 = hp_up h a (.inr (4, [.int p1, .int p2, .int 0, .int 16777215]))) := by
  refine ct_of (by decide) (Nat.le_of_ble_eq_true rfl) rfl ?_
  intro p e s m args below meth c C hnm
  refine wk_run C k_EN_init_0 (pc2 := 1) (lv2 := [(0, .ref a), (1, .int p1), (2, .int p2)]) (st2 := [.ref a]) rfl ?_
  refine wk_obj C ml_EN_3 kj_in kj_cd (by decide) (by decide) d_EN_init_1 ?_
  refine wk_run C k_EN_init_4 (pc2 := 6) (lv2 := [(0, .ref a), (1, .int p1), (2, .int p2)]) (st2 := [.int p1, .ref a]) rfl ?_
  refine wk_putF (fs2 := [.int p1, .int f1, .int f2, .int f3]) C ff_EN_9 hnm ha rfl rfl (Nat.le_of_ble_eq_true rfl) rfl d_EN_init_6 ?_
  refine wk_run C k_EN_init_9 (pc2 := 11) (lv2 := [(0, .ref a), (1, .int p1), (2, .int p2)]) (st2 := [.int p2, .ref a]) rfl ?_
  refine wk_put (fs2 := [.int p1, .int p2, .int f2, .int f3]) C fd_EN_15 hp_us rfl rfl (Nat.le_of_ble_eq_true rfl) rfl d_EN_init_11 ?_
  refine Wk.he hp_uu ?_
  refine wk_run C k_EN_init_14 (pc2 := 16) (lv2 := [(0, .ref a), (1, .int p1), (2, .int p2)]) (st2 := [.int 0, .ref a]) rfl ?_
  refine wk_put (fs2 := [.int p1, .int p2, .int 0, .int f3]) C fd_EN_18 hp_us rfl rfl (Nat.le_of_ble_eq_true rfl) rfl d_EN_init_16 ?_
  refine Wk.he hp_uu ?_
  refine wk_run C k_EN_init_19 (pc2 := 20) (lv2 := [(0, .ref a), (1, .int p1), (2, .int p2)]) (st2 := [.ref a]) rfl ?_
  refine wk_ldc C kk_EN_21 d_EN_init_20 ?_
  refine wk_put (fs2 := [.int p1, .int p2, .int 0, .int 16777215]) C fd_EN_22 hp_us rfl rfl (Nat.le_of_ble_eq_true rfl) rfl d_EN_init_22 ?_
  refine Wk.he hp_uu ?_
  exact wk_vret C ⟨rfl, rfl⟩ (by decide) (by decide) d_EN_init_25
theorem k_GR_init_0 : px_dec prog_3_method_1_code [.aload_n 0] 0 = true := by decide +kernel
theorem d_GR_init_1 : decode prog_3_method_1_code 1 = .ok (.invokespecial 1, 3) := by decide +kernel
theorem k_GR_init_4 : px_dec prog_3_method_1_code [.aload_n 0, .iload_n 1] 4 = true := by decide +kernel
theorem d_GR_init_6 : decode prog_3_method_1_code 6 = .ok (.putfield 7, 3) := by decide +kernel
theorem k_GR_init_9 : px_dec prog_3_method_1_code [.aload_n 0, .aload_n 2] 9 = true := by decide +kernel
theorem d_GR_init_11 : decode prog_3_method_1_code 11 = .ok (.putfield 13, 3) := by decide +kernel
theorem d_GR_init_14 : decode prog_3_method_1_code 14 = .ok (.return_, 1) := by decide +kernel
set_option maxRecDepth 100000 in
set_option maxHeartbeats 4000000 in
theorem c_GR_initR (l : Launch) (D : va_G) (HB : Heap) (h : hp_T) (a : Nat) (f0 p1 : Int32) (q : Nat) (ha : h a = some (.inr (1, [.int f0, .null]))) : ct_M l y_GR_init (.code y_GR_init prog_3_method_1_code 3 (Option.none : Option Jvm.ClassFile.FieldType)) ({ frames := 1, cells := 0, slots := 0, locals := 14 }) D HB [.ref a, .int p1, .ref q] h (fun o h2 => o = .inl none ∧ h2 = hp_up h a (.inr (1, [.int p1, .ref q]))) := by
  refine ct_of (by decide) (Nat.le_of_ble_eq_true rfl) rfl ?_
  intro p e s m args below meth c C hnm
  refine wk_run C k_GR_init_0 (pc2 := 1) (lv2 := [(0, .ref a), (1, .int p1), (2, .ref q)]) (st2 := [.ref a]) rfl ?_
  refine wk_obj C ml_GR_1 kj_in kj_cd (by decide) (by decide) d_GR_init_1 ?_
  refine wk_run C k_GR_init_4 (pc2 := 6) (lv2 := [(0, .ref a), (1, .int p1), (2, .ref q)]) (st2 := [.int p1, .ref a]) rfl ?_
  refine wk_putF (fs2 := [.int p1, .null]) C ff_GR_7 hnm ha rfl rfl (Nat.le_of_ble_eq_true rfl) rfl d_GR_init_6 ?_
  refine wk_run C k_GR_init_9 (pc2 := 11) (lv2 := [(0, .ref a), (1, .int p1), (2, .ref q)]) (st2 := [.ref q, .ref a]) rfl ?_
  refine wk_put (fs2 := [.int p1, .ref q]) C fd_GR_13 hp_us rfl rfl (Nat.le_of_ble_eq_true rfl) rfl d_GR_init_11 ?_
  refine Wk.he hp_uu ?_
  exact wk_vret C ⟨rfl, rfl⟩ (by decide) (by decide) d_GR_init_14
set_option maxRecDepth 100000 in
set_option maxHeartbeats 4000000 in
theorem c_GR_initN (l : Launch) (D : va_G) (HB : Heap) (h : hp_T) (a : Nat) (f0 p1 : Int32) (ha : h a = some (.inr (1, [.int f0, .null]))) : ct_M l y_GR_init (.code y_GR_init prog_3_method_1_code 3 (Option.none : Option Jvm.ClassFile.FieldType)) ({ frames := 1, cells := 0, slots := 0, locals := 14 }) D HB [.ref a, .int p1, .null] h (fun o h2 => o = .inl none ∧ h2 = hp_up h a (.inr (1, [.int p1, .null]))) := by
  refine ct_of (by decide) (Nat.le_of_ble_eq_true rfl) rfl ?_
  intro p e s m args below meth c C hnm
  refine wk_run C k_GR_init_0 (pc2 := 1) (lv2 := [(0, .ref a), (1, .int p1), (2, .null)]) (st2 := [.ref a]) rfl ?_
  refine wk_obj C ml_GR_1 kj_in kj_cd (by decide) (by decide) d_GR_init_1 ?_
  refine wk_run C k_GR_init_4 (pc2 := 6) (lv2 := [(0, .ref a), (1, .int p1), (2, .null)]) (st2 := [.int p1, .ref a]) rfl ?_
  refine wk_putF (fs2 := [.int p1, .null]) C ff_GR_7 hnm ha rfl rfl (Nat.le_of_ble_eq_true rfl) rfl d_GR_init_6 ?_
  refine wk_run C k_GR_init_9 (pc2 := 11) (lv2 := [(0, .ref a), (1, .int p1), (2, .null)]) (st2 := [.null, .ref a]) rfl ?_
  refine wk_put (fs2 := [.int p1, .null]) C fd_GR_13 hp_us rfl rfl (Nat.le_of_ble_eq_true rfl) rfl d_GR_init_11 ?_
  refine Wk.he hp_uu ?_
  exact wk_vret C ⟨rfl, rfl⟩ (by decide) (by decide) d_GR_init_14
theorem k_PR_testClass_0 : px_dec prog_1_method_27_code [.iload_n 0] 0 = true := by decide +kernel
theorem d_PR_testClass_1 : decode prog_1_method_27_code 1 = .ok (.ifCond .lt 9, 3) := by decide +kernel
theorem d_PR_testClass_10 : decode prog_1_method_27_code 10 = .ok (.new 105, 3) := by decide +kernel
theorem d_PR_testClass_13 : decode prog_1_method_27_code 13 = .ok (.dup, 1) := by decide +kernel
theorem d_PR_testClass_14 : decode prog_1_method_27_code 14 = .ok (.ldc 231, 2) := by decide +kernel
theorem d_PR_testClass_16 : decode prog_1_method_27_code 16 = .ok (.invokespecial 109, 3) := by decide +kernel
theorem d_PR_testClass_19 : decode prog_1_method_27_code 19 = .ok (.athrow, 1) := by decide +kernel
theorem k_PR_testClass_4 : px_dec prog_1_method_27_code [.iload_n 0, .bipush 8] 4 = true := by decide +kernel
theorem d_PR_testClass_7 : decode prog_1_method_27_code 7 = .ok (.if_icmp .lt 13, 3) := by decide +kernel
theorem d_PR_testClass_20 : decode prog_1_method_27_code 20 = .ok (.return_, 1) := by decide +kernel
set_option maxRecDepth 100000 in
set_option maxHeartbeats 4000000 in
theorem c_PR_testClass (l : Launch) (D : va_G) (HB : Heap) (h : hp_T) (hlt : l.stackTraces = false) (p1 : Int32) : ct_M l y_PR_testClass (.code y_PR_testClass prog_1_method_27_code 1 (Option.none : Option Jvm.ClassFile.FieldType)) ({ frames := 6, cells := 1, slots := 6, locals := 84 }) D HB [.int p1] h (fun o h2 => h2 = h ∧ o = if p1 < 0 ∨ 8 ≤ p1 then .inr eA else .inl none) := by
  refine ct_of (by decide) (Nat.le_of_ble_eq_true rfl) rfl ?_
  intro p e s m args below meth c C hnm
  refine wk_run C k_PR_testClass_0 (pc2 := 1) (lv2 := [(0, .int p1)]) (st2 := [.int p1]) rfl ?_
  refine wk_br C d_PR_testClass_1 (P := p1 < 0) (tgt := 10) (rest := []) rfl (by decide) (fun c1 => ?_) (fun c1 => ?_)
  ·
    exact wk_thrA C hlt (text := "no such class") (is := 231) (by decide) d_PR_testClass_10 d_PR_testClass_13 d_PR_testClass_14 d_PR_testClass_16 d_PR_testClass_19 (by decide) (by decide) (by decide) (by decide) (by decide) (by decide) ⟨rfl, (if_pos (Or.inl c1)).symm⟩
  ·
    refine wk_run C k_PR_testClass_4 (pc2 := 7) (lv2 := [(0, .int p1)]) (st2 := [.int 8, .int p1]) rfl ?_
    refine wk_br C d_PR_testClass_7 (P := p1 < 8) (tgt := 20) (rest := []) rfl (by decide) (fun c2 => ?_) (fun c2 => ?_)
    ·
      exact wk_vret C ⟨rfl, (if_neg (fun z => z.elim c1 (fun z => absurd c2 (Int32.not_lt.mpr z)))).symm⟩ (by decide) (by decide) d_PR_testClass_20
    ·
      exact wk_thrA C hlt (text := "no such class") (is := 231) (by decide) d_PR_testClass_10 d_PR_testClass_13 d_PR_testClass_14 d_PR_testClass_16 d_PR_testClass_19 (by decide) (by decide) (by decide) (by decide) (by decide) (by decide) ⟨rfl, (if_pos (Or.inr (Int32.not_lt.mp c2))).symm⟩
end
section
theorem km_max : Cond.code Lib.Math.max.name Lib.Math.max.code 2 (some .int) ∈ kw_L := kw_in 321 (by decide +kernel) (by decide +kernel)
theorem km_maxs : Cond.static Lib.Math.max.name ∈ kw_L := kw_in 320 (by decide +kernel) (by decide +kernel)
theorem km_AS_194 : Cond.methodLink "jdk/internal/util/ArraysSupport" 194 Lib.Math.max.name ∈ kw_L := kw_in 319 (by decide +kernel) (by decide +kernel)
theorem km_AL_79 : Cond.methodLink "java/util/ArrayList" 79 Lib.Math.max.name ∈ kw_L := kw_in 356 (by decide +kernel) (by decide +kernel)
theorem wk_mmax {p : Program} {l : Launch} {e : Env} {R : Room} {s : State} {m : MethodId} {args : Array Value} {below : List Frame} {meth : Method} {c : Code} {Q : State → Prop} {cc : ByteArray} {own : String} {nL : Nat} {ret : Option FieldType} {hh : List (Nat × Nat × Nat × Nat)} {D : va_G} {HB : Heap} {h : hp_T} {cells slots pc : Nat} {lv : List (Nat × Value)} {rest : List Value} (C : wk_C p s m args meth c cc own nL ret hh D HB) {index : Nat} {x y : Int32} (hk : Cond.methodLink own index Lib.Math.max.name ∈ kw_L) (hf : 1 ≤ R.frames) (hlo : (rest.map fun v => v.category).sum + 13 ≤ R.locals) (hc : cells ≤ R.cells) (hs : slots ≤ R.slots) (hd : decode cc pc = .ok (.invokestatic index, 3))
    (kk : Wk p l e R s m args below meth c nL D HB Q h cells slots (pc + 3) lv (.int (if x < y then y else x) :: rest)) : Wk p l e R s m args below meth c nL D HB Q h cells slots pc lv (.int y :: .int x :: rest) :=
  fun H locs ls hP hS hl => va_mmax C.1 C.2.1 (C.2.2.1.trans hl.1.symm) C.ow (C.hts _ hk) (C.hts _ km_maxs) (C.hts _ ki_MA) (C.hts _ km_max) hf hlo hc hs hd (kk H locs ls hP hS hl)
theorem km_min : Cond.code Lib.Math.min.name Lib.Math.min.code 2 (some .int) ∈ kw_L := kw_in 352 (by decide +kernel) (by decide +kernel)
theorem km_mins : Cond.static Lib.Math.min.name ∈ kw_L := kw_in 351 (by decide +kernel) (by decide +kernel)
theorem km_AR_304 : Cond.methodLink "java/util/Arrays" 304 Lib.Math.min.name ∈ kw_L := kw_in 350 (by decide +kernel) (by decide +kernel)
theorem wk_mmin {p : Program} {l : Launch} {e : Env} {R : Room} {s : State} {m : MethodId} {args : Array Value} {below : List Frame} {meth : Method} {c : Code} {Q : State → Prop} {cc : ByteArray} {own : String} {nL : Nat} {ret : Option FieldType} {hh : List (Nat × Nat × Nat × Nat)} {D : va_G} {HB : Heap} {h : hp_T} {cells slots pc : Nat} {lv : List (Nat × Value)} {rest : List Value} (C : wk_C p s m args meth c cc own nL ret hh D HB) {index : Nat} {x y : Int32} (hk : Cond.methodLink own index Lib.Math.min.name ∈ kw_L) (hf : 1 ≤ R.frames) (hlo : (rest.map fun v => v.category).sum + 13 ≤ R.locals) (hc : cells ≤ R.cells) (hs : slots ≤ R.slots) (hd : decode cc pc = .ok (.invokestatic index, 3))
    (kk : Wk p l e R s m args below meth c nL D HB Q h cells slots (pc + 3) lv (.int (if y < x then y else x) :: rest)) : Wk p l e R s m args below meth c nL D HB Q h cells slots pc lv (.int y :: .int x :: rest) :=
  fun H locs ls hP hS hl => va_mmin C.1 C.2.1 (C.2.2.1.trans hl.1.symm) C.ow (C.hts _ hk) (C.hts _ km_mins) (C.hts _ ki_MA) (C.hts _ km_min) hf hlo hc hs hd (kk H locs ls hP hS hl)
theorem k_BC_init_0 : px_dec prog_21_method_1_code [.aload_n 0] 0 = true := by decide +kernel
theorem d_BC_init_1 : decode prog_21_method_1_code 1 = .ok (.invokespecial 1, 3) := by decide +kernel
theorem d_BC_init_4 : decode prog_21_method_1_code 4 = .ok (.return_, 1) := by decide +kernel
set_option maxRecDepth 100000 in
set_option maxHeartbeats 4000000 in
theorem c_BC_init (l : Launch) (D : va_G) (HB : Heap) (h : hp_T) (a : Nat) : ct_M l y_BC_init (.code y_BC_init prog_21_method_1_code 1 (Option.none : Option Jvm.ClassFile.FieldType)) ({ frames := 1, cells := 0, slots := 0, locals := 12 }) D HB [.ref a] h (fun o h2 => o = .inl none ∧ h2 = h) := by
  refine ct_of (by decide) (Nat.le_of_ble_eq_true rfl) rfl ?_
  intro p e s m args below meth c C hnm
  refine wk_run C k_BC_init_0 (pc2 := 1) (lv2 := [(0, .ref a)]) (st2 := [.ref a]) rfl ?_
  refine wk_obj C ml_BC_1 kj_in kj_cd (by decide) (by decide) d_BC_init_1 ?_
  exact wk_vret C ⟨rfl, rfl⟩ (by decide) (by decide) d_BC_init_4
theorem k_BL_init_0 : px_dec prog_22_method_1_code [.aload_n 0] 0 = true := by decide +kernel
theorem d_BL_init_1 : decode prog_22_method_1_code 1 = .ok (.invokespecial 1, 3) := by decide +kernel
theorem k_BL_init_4 : px_dec prog_22_method_1_code [.aload_n 0, .iconst 0] 4 = true := by decide +kernel
theorem d_BL_init_6 : decode prog_22_method_1_code 6 = .ok (.putfield 7, 3) := by decide +kernel
theorem d_BL_init_9 : decode prog_22_method_1_code 9 = .ok (.return_, 1) := by decide +kernel
set_option maxRecDepth 100000 in
set_option maxHeartbeats 4000000 in
theorem c_BL_init (l : Launch) (D : va_G) (HB : Heap) (h : hp_T) (a : Nat) (f0 f2 : Int32) (v1 : Value) (ha : h a = some (.inr (7, [.int f0, v1, .int f2]))) : ct_M l y_BL_init (.code y_BL_init prog_22_method_1_code 1 (Option.none : Option Jvm.ClassFile.FieldType)) ({ frames := 2, cells := 0, slots := 0, locals := 32 }) D HB [.ref a] h (fun o h2 => o = .inl none ∧ h2 = hp_up h a (.inr (7, [.int 0, v1, .int f2]))) := by
  refine ct_of (by decide) (Nat.le_of_ble_eq_true rfl) rfl ?_
  intro p e s m args below meth c C hnm
  refine wk_run C k_BL_init_0 (pc2 := 1) (lv2 := [(0, .ref a)]) (st2 := [.ref a]) rfl ?_
  refine wk_callI (rest := []) C (c_BC_init l D HB h a) cs_BL_1 kc_BC_init ki_BC rfl rfl (Nat.le_of_ble_eq_true rfl) (Nat.le_of_ble_eq_true rfl) (Nat.le_of_ble_eq_true rfl) (Nat.le_of_ble_eq_true rfl) (Nat.le_of_ble_eq_true rfl) d_BL_init_1 (fun v h2 hq => ?_) (fun _ _ z => nomatch z.1)
  obtain ⟨e1, e2⟩ := hq; cases e1; subst e2
  refine wk_run C k_BL_init_4 (pc2 := 6) (lv2 := [(0, .ref a)]) (st2 := [.int 0, .ref a]) rfl ?_
  refine wk_put (fs2 := [.int 0, v1, .int f2]) C fd_BL_7 ha rfl rfl (Nat.le_of_ble_eq_true rfl) rfl d_BL_init_6 ?_
  exact wk_vret C ⟨rfl, rfl⟩ (by decide) (by decide) d_BL_init_9
theorem fs_AL_39 : Cond.fieldLink "java/util/ArrayList" 39 "java/util/ArrayList" "DEFAULTCAPACITY_EMPTY_ELEMENTDATA" "[Ljava/lang/Object;" ∈ kw_L := kw_in 43 (by decide +kernel) (by decide +kernel)
theorem k_AL_init_0 : px_dec prog_23_method_2_code [.aload_n 0] 0 = true := by decide +kernel
theorem d_AL_init_1 : decode prog_23_method_2_code 1 = .ok (.invokespecial 1, 3) := by decide +kernel
theorem k_AL_init_4 : px_dec prog_23_method_2_code [.aload_n 0] 4 = true := by decide +kernel
theorem d_AL_init_5 : decode prog_23_method_2_code 5 = .ok (.getstatic 39, 3) := by decide +kernel
theorem d_AL_init_8 : decode prog_23_method_2_code 8 = .ok (.putfield 9, 3) := by decide +kernel
theorem d_AL_init_11 : decode prog_23_method_2_code 11 = .ok (.return_, 1) := by decide +kernel
set_option maxRecDepth 100000 in
set_option maxHeartbeats 4000000 in
theorem c_AL_init (l : Launch) (D : va_G) (HB : Heap) (h : hp_T) (a : Nat) (f0 f2 : Int32) (v1 : Value) (ha : h a = some (.inr (7, [.int f0, v1, .int f2]))) : ct_M l y_AL_init (.code y_AL_init prog_23_method_2_code 1 (Option.none : Option Jvm.ClassFile.FieldType)) ({ frames := 3, cells := 0, slots := 0, locals := 52 }) D HB [.ref a] h (fun o h2 => o = .inl none ∧ h2 = hp_up h a (.inr (7, [.int 0, .ref (D.2 200 0), .int f2]))) := by
  refine ct_of (by decide) (Nat.le_of_ble_eq_true rfl) rfl ?_
  intro p e s m args below meth c C hnm
  refine wk_run C k_AL_init_0 (pc2 := 1) (lv2 := [(0, .ref a)]) (st2 := [.ref a]) rfl ?_
  refine wk_callI (rest := []) C (c_BL_init l D HB h a f0 f2 v1 ha) cs_AL_1 kc_BL_init ki_BL rfl rfl (Nat.le_of_ble_eq_true rfl) (Nat.le_of_ble_eq_true rfl) (Nat.le_of_ble_eq_true rfl) (Nat.le_of_ble_eq_true rfl) (Nat.le_of_ble_eq_true rfl) d_AL_init_1 (fun v h2 hq => ?_) (fun _ _ z => nomatch z.1)
  obtain ⟨e1, e2⟩ := hq; cases e1; subst e2
  refine wk_run C k_AL_init_4 (pc2 := 5) (lv2 := [(0, .ref a)]) (st2 := [.ref a]) rfl ?_
  refine wk_gets C C.ev.2.2.2.2.1 fs_AL_39 d_AL_init_5 ?_
  refine wk_put (fs2 := [.int 0, .ref (D.2 200 0), .int f2]) C fd_AL_9 hp_us rfl rfl (Nat.le_of_ble_eq_true rfl) rfl d_AL_init_8 ?_
  refine Wk.he hp_uu ?_
  exact wk_vret C ⟨rfl, rfl⟩ (by decide) (by decide) d_AL_init_11
theorem k_AL_size_0 : px_dec prog_23_method_8_code [.aload_n 0] 0 = true := by decide +kernel
theorem d_AL_size_1 : decode prog_23_method_8_code 1 = .ok (.getfield 48, 3) := by decide +kernel
theorem d_AL_size_4 : decode prog_23_method_8_code 4 = .ok (.ireturn, 1) := by decide +kernel
set_option maxRecDepth 100000 in
set_option maxHeartbeats 4000000 in
theorem c_AL_size (l : Launch) (D : va_G) (HB : Heap) (h : hp_T) (a : Nat) (f0 f2 : Int32) (v1 : Value) (ha : h a = some (.inr (7, [.int f0, v1, .int f2]))) : ct_M l y_AL_size (.code y_AL_size prog_23_method_8_code 1 (Option.some Jvm.ClassFile.FieldType.int)) ({ frames := 0, cells := 0, slots := 0, locals := 0 }) D HB [.ref a] h (fun o h2 => o = .inl (some (.int f2)) ∧ h2 = h) := by
  refine ct_of (by decide) (Nat.le_of_ble_eq_true rfl) rfl ?_
  intro p e s m args below meth c C hnm
  refine wk_run C k_AL_size_0 (pc2 := 1) (lv2 := [(0, .ref a)]) (st2 := [.ref a]) rfl ?_
  refine wk_get C fd_AL_48 ha rfl d_AL_size_1 ?_
  exact wk_iret C ⟨rfl, rfl⟩ (by decide) (by decide) d_AL_size_4
theorem k_PC_checkIndex_0 : px_dec prog_31_method_11_code [.iload_n 0] 0 = true := by decide +kernel
theorem d_PC_checkIndex_1 : decode prog_31_method_11_code 1 = .ok (.ifCond .lt 8, 3) := by decide +kernel
theorem k_PC_checkIndex_4 : px_dec prog_31_method_11_code [.iload_n 0, .iload_n 1] 4 = true := by decide +kernel
theorem d_PC_checkIndex_6 : decode prog_31_method_11_code 6 = .ok (.if_icmp .lt 10, 3) := by decide +kernel
theorem k_PC_checkIndex_16 : px_dec prog_31_method_11_code [.iload_n 0] 16 = true := by decide +kernel
theorem d_PC_checkIndex_17 : decode prog_31_method_11_code 17 = .ok (.ireturn, 1) := by decide +kernel
set_option maxRecDepth 100000 in
set_option maxHeartbeats 4000000 in
theorem c_PC_checkIndex (l : Launch) (D : va_G) (HB : Heap) (h : hp_T) (i n : Int32) (h0 : ¬ i < 0) (h1 : i < n) : ct_M l y_PC_checkIndex (.code y_PC_checkIndex prog_31_method_11_code 3 (Option.some Jvm.ClassFile.FieldType.int)) ({ frames := 0, cells := 0, slots := 0, locals := 0 }) D HB [.int i, .int n, .null] h (fun o h2 => o = .inl (some (.int i)) ∧ h2 = h) := by
  refine ct_of (by decide) (Nat.le_of_ble_eq_true rfl) rfl ?_
  intro p e s m args below meth c C hnm
  refine wk_run C k_PC_checkIndex_0 (pc2 := 1) (lv2 := [(0, .int i), (1, .int n), (2, .null)]) (st2 := [.int i]) rfl ?_
  refine wk_br C d_PC_checkIndex_1 (P := i < 0) (tgt := 9) (rest := []) rfl (by decide) (fun c1 => ?_) (fun c1 => ?_)
  · exact absurd c1 h0
  ·
    refine wk_run C k_PC_checkIndex_4 (pc2 := 6) (lv2 := [(0, .int i), (1, .int n), (2, .null)]) (st2 := [.int n, .int i]) rfl ?_
    refine wk_br C d_PC_checkIndex_6 (P := i < n) (tgt := 16) (rest := []) rfl (by decide) (fun c2 => ?_) (fun c2 => ?_)
    ·
      refine wk_run C k_PC_checkIndex_16 (pc2 := 17) (lv2 := [(0, .int i), (1, .int n), (2, .null)]) (st2 := [.int i]) rfl ?_
      exact wk_iret C ⟨rfl, rfl⟩ (by decide) (by decide) d_PC_checkIndex_17
    · exact absurd h1 c2
theorem k_OB_checkIndex_0 : px_dec prog_27_method_17_code [.iload_n 0, .iload_n 1, .aconst_null] 0 = true := by decide +kernel
theorem d_OB_checkIndex_3 : decode prog_27_method_17_code 3 = .ok (.invokestatic 105, 3) := by decide +kernel
theorem d_OB_checkIndex_6 : decode prog_27_method_17_code 6 = .ok (.ireturn, 1) := by decide +kernel
set_option maxRecDepth 100000 in
set_option maxHeartbeats 4000000 in
theorem c_OB_checkIndex (l : Launch) (D : va_G) (HB : Heap) (h : hp_T) (i n : Int32) (h0 : ¬ i < 0) (h1 : i < n) : ct_M l y_OB_checkIndex (.code y_OB_checkIndex prog_27_method_17_code 2 (Option.some Jvm.ClassFile.FieldType.int)) ({ frames := 1, cells := 0, slots := 0, locals := 22 }) D HB [.int i, .int n] h (fun o h2 => o = .inl (some (.int i)) ∧ h2 = h) := by
  refine ct_of (by decide) (Nat.le_of_ble_eq_true rfl) rfl ?_
  intro p e s m args below meth c C hnm
  refine wk_run C k_OB_checkIndex_0 (pc2 := 3) (lv2 := [(0, .int i), (1, .int n)]) (st2 := [.null, .int n, .int i]) rfl ?_
  refine wk_callS (rest := []) C (c_PC_checkIndex l D HB h i n h0 h1) cs_OB_105 kc_PC_checkIndex ki_PC rfl rfl (Nat.le_of_ble_eq_true rfl) (Nat.le_of_ble_eq_true rfl) (Nat.le_of_ble_eq_true rfl) (Nat.le_of_ble_eq_true rfl) (Nat.le_of_ble_eq_true rfl) d_OB_checkIndex_3 (fun v h2 hq => ?_) (fun _ _ z => nomatch z.1)
  obtain ⟨e1, e2⟩ := hq; cases e1; subst e2
  exact wk_iret C ⟨rfl, rfl⟩ (by decide) (by decide) d_OB_checkIndex_6
theorem k_AL_elementData_0 : px_dec prog_23_method_18_code [.aload_n 0] 0 = true := by decide +kernel
theorem d_AL_elementData_1 : decode prog_23_method_18_code 1 = .ok (.getfield 9, 3) := by decide +kernel
theorem k_AL_elementData_4 : px_dec prog_23_method_18_code [.iload_n 1] 4 = true := by decide +kernel
theorem d_AL_elementData_5 : decode prog_23_method_18_code 5 = .ok (.aaload, 1) := by decide +kernel
theorem d_AL_elementData_6 : decode prog_23_method_18_code 6 = .ok (.areturn, 1) := by decide +kernel
set_option maxRecDepth 100000 in
set_option maxHeartbeats 4000000 in
theorem c_AL_elementData (l : Launch) (D : va_G) (HB : Heap) (h : hp_T) (a b cap y : Nat) (f0 f2 i : Int32) (g : Nat → Option Nat) (ha : h a = some (.inr (7, [.int f0, .ref b, .int f2]))) (hb : h b = some (.inl (D.1 102, cap, .inr (.inr (.inr (.inr g)))))) (hi : vp_in i cap) (hy : g i.toNatClampNeg = some y) : ct_M l y_AL_elementData (.code y_AL_elementData prog_23_method_18_code 2 (Option.some (Jvm.ClassFile.FieldType.object "java/lang/Object"))) ({ frames := 0, cells := 0, slots := 0, locals := 0 }) D HB [.ref a, .int i] h (fun o h2 => o = .inl (some (.ref y)) ∧ h2 = h) := by
  refine ct_of (by decide) (Nat.le_of_ble_eq_true rfl) rfl ?_
  intro p e s m args below meth c C hnm
  refine wk_run C k_AL_elementData_0 (pc2 := 1) (lv2 := [(0, .ref a), (1, .int i)]) (st2 := [.ref a]) rfl ?_
  refine wk_get C fd_AL_9 ha rfl d_AL_elementData_1 ?_
  refine wk_run C k_AL_elementData_4 (pc2 := 5) (lv2 := [(0, .ref a), (1, .int i)]) (st2 := [.int i, .ref b]) rfl ?_
  refine wk_aald C hb hi hy d_AL_elementData_5 ?_
  exact wk_aret C rfl (Or.inl ⟨_, rfl⟩) (Or.inr ⟨_, rfl⟩) ⟨rfl, rfl⟩ (by decide) (by decide) d_AL_elementData_6
theorem k_AL_get_0 : px_dec prog_23_method_20_code [.iload_n 1, .aload_n 0] 0 = true := by decide +kernel
theorem d_AL_get_2 : decode prog_23_method_20_code 2 = .ok (.getfield 48, 3) := by decide +kernel
theorem d_AL_get_5 : decode prog_23_method_20_code 5 = .ok (.invokestatic 118, 3) := by decide +kernel
theorem k_AL_get_8 : px_dec prog_23_method_20_code [.pop, .aload_n 0, .iload_n 1] 8 = true := by decide +kernel
theorem d_AL_get_11 : decode prog_23_method_20_code 11 = .ok (.invokevirtual 123, 3) := by decide +kernel
theorem d_AL_get_14 : decode prog_23_method_20_code 14 = .ok (.areturn, 1) := by decide +kernel
set_option maxRecDepth 100000 in
set_option maxHeartbeats 4000000 in
theorem c_AL_get (l : Launch) (D : va_G) (HB : Heap) (h : hp_T) (a b cap y : Nat) (f0 f2 i : Int32) (g : Nat → Option Nat) (ha : h a = some (.inr (7, [.int f0, .ref b, .int f2]))) (hb : h b = some (.inl (D.1 102, cap, .inr (.inr (.inr (.inr g)))))) (hi : vp_in i cap) (hy : g i.toNatClampNeg = some y) (h0 : ¬ i < 0) (h1 : i < f2) : ct_M l y_AL_get (.code y_AL_get prog_23_method_20_code 2 (Option.some (Jvm.ClassFile.FieldType.object "java/lang/Object"))) ({ frames := 2, cells := 0, slots := 0, locals := 43 }) D HB [.ref a, .int i] h (fun o h2 => o = .inl (some (.ref y)) ∧ h2 = h) := by
  refine ct_of (by decide) (Nat.le_of_ble_eq_true rfl) rfl ?_
  intro p e s m args below meth c C hnm
  refine wk_run C k_AL_get_0 (pc2 := 2) (lv2 := [(0, .ref a), (1, .int i)]) (st2 := [.ref a, .int i]) rfl ?_
  refine wk_get C fd_AL_48 ha rfl d_AL_get_2 ?_
  refine wk_callS (rest := []) C (c_OB_checkIndex l D HB h i f2 h0 h1) cs_AL_118 kc_OB_checkIndex ki_OB rfl rfl (Nat.le_of_ble_eq_true rfl) (Nat.le_of_ble_eq_true rfl) (Nat.le_of_ble_eq_true rfl) (Nat.le_of_ble_eq_true rfl) (Nat.le_of_ble_eq_true rfl) d_AL_get_5 (fun v h2 hq => ?_) (fun _ _ z => nomatch z.1)
  obtain ⟨e1, e2⟩ := hq; cases e1; subst e2
  refine wk_run C k_AL_get_8 (pc2 := 11) (lv2 := [(0, .ref a), (1, .int i)]) (st2 := [.int i, .ref a]) rfl ?_
  refine wk_callV (cl := ("java/util/ArrayList", T_AL, 3)) (rest := []) C (c_AL_elementData l D HB h2 a b cap y f0 f2 i g ha hb hi hy) cs_AL_123 kc_AL_elementData ki_AL ha rfl rfl rfl (Nat.le_of_ble_eq_true rfl) (Nat.le_of_ble_eq_true rfl) (Nat.le_of_ble_eq_true rfl) (Nat.le_of_ble_eq_true rfl) (Nat.le_of_ble_eq_true rfl) d_AL_get_11 (fun v h2 hq => ?_) (fun _ _ z => nomatch z.1)
  obtain ⟨e1, e2⟩ := hq; cases e1; subst e2
  exact wk_aret C rfl (Or.inl ⟨_, rfl⟩) (Or.inr ⟨_, rfl⟩) ⟨rfl, rfl⟩ (by decide) (by decide) d_AL_get_14
end
section
theorem nl_eq {n : Nat} (h2 : 2 ≤ n) (hn : n ≤ 1000) : nI n + (if nI 1 < nI (n / 2) then nI (n / 2) else nI 1) = nI (n + n / 2) := by
  by_cases c : 1 < n / 2
  · rw [if_pos (nI_lt c (by omega))]
    exact nI_add n (n / 2)
  · rw [if_neg (nI_nlt (by omega) (by decide))]
    have hd : n / 2 = 1 := by omega
    rw [hd]
    exact nI_add n 1
theorem hp_ne {h : hp_T} {a q : Nat} {x : va_E} (ha : h a = some x) (hq : h q = none) : a ≠ q := fun z => by
  rw [z, hq] at ha
  cases ha
theorem ob_ok.up {h : hp_T} {y q : Nat} {x : va_E} (hy : ob_ok h y) (hq : h q = none) : ob_ok (hp_up h q x) y := by
  obtain ⟨ci, fs, r, h1, h2, h3⟩ := hy
  exact ⟨ci, fs, r, by rw [hp_un (hp_ne h1 hq)]; exact h1, h2, h3⟩
theorem ob_ok.ne {h : hp_T} {y b : Nat} {c : ClassId × vp_A} {x : va_E} (hy : ob_ok h y) (hb : h b = some (.inl c)) : ob_ok (hp_up h b x) y := by
  obtain ⟨ci, fs, r, h1, h2, h3⟩ := hy
  have hn : y ≠ b := fun z => by rw [z, hb] at h1; cases h1
  exact ⟨ci, fs, r, by rw [hp_un hn]; exact h1, h2, h3⟩
theorem ob_ok.fld {h : hp_T} {y a k : Nat} {fs1 fs2 : List Value} (hy : ob_ok h y) (ha : h a = some (.inr (k, fs1))) : ob_ok (hp_up h a (.inr (k, fs2))) y := by
  obtain ⟨ci, fs, r, h1, h2, h3⟩ := hy
  by_cases hn : y = a
  · subst hn
    rw [ha] at h1
    cases h1
    exact ⟨k, fs2, r, hp_us, h2, h3⟩
  · exact ⟨ci, fs, r, by rw [hp_un hn]; exact h1, h2, h3⟩

theorem k_AS_newLength_0 : px_dec prog_30_method_27_code [.iload_n 0, .iload_n 1, .iload_n 2] 0 = true := by decide +kernel
theorem d_AS_newLength_3 : decode prog_30_method_27_code 3 = .ok (.invokestatic 194, 3) := by decide +kernel
theorem k_AS_newLength_6 : px_dec prog_30_method_27_code [.iadd, .istore_n 3, .iconst 0, .iload_n 3] 6 = true := by decide +kernel
theorem d_AS_newLength_10 : decode prog_30_method_27_code 10 = .ok (.if_icmp .ge 11, 3) := by decide +kernel
theorem k_AS_newLength_13 : px_dec prog_30_method_27_code [.iload_n 3] 13 = true := by decide +kernel
theorem d_AS_newLength_14 : decode prog_30_method_27_code 14 = .ok (.ldc 200, 2) := by decide +kernel
theorem d_AS_newLength_16 : decode prog_30_method_27_code 16 = .ok (.if_icmp .gt 5, 3) := by decide +kernel
theorem k_AS_newLength_19 : px_dec prog_30_method_27_code [.iload_n 3] 19 = true := by decide +kernel
theorem d_AS_newLength_20 : decode prog_30_method_27_code 20 = .ok (.ireturn, 1) := by decide +kernel
set_option maxRecDepth 100000 in
set_option maxHeartbeats 4000000 in
theorem c_AS_newLength (l : Launch) (D : va_G) (HB : Heap) (h : hp_T) (n : Nat) (h2 : 2 ≤ n) (hn : n ≤ 1000) : ct_M l y_AS_newLength (.code y_AS_newLength prog_30_method_27_code 4 (Option.some Jvm.ClassFile.FieldType.int)) ({ frames := 1, cells := 0, slots := 0, locals := 15 }) D HB [.int (nI n), .int (nI 1), .int (nI (n / 2))] h (fun o h2 => o = .inl (some (.int (nI (n + n / 2)))) ∧ h2 = h) := by
  refine ct_of (by decide) (Nat.le_of_ble_eq_true rfl) rfl ?_
  intro p e s m args below meth c C hnm
  refine wk_run C k_AS_newLength_0 (pc2 := 3) (lv2 := [(0, .int (nI n)), (1, .int (nI 1)), (2, .int (nI (n / 2)))]) (st2 := [.int (nI (n / 2)), .int (nI 1), .int (nI n)]) rfl ?_
  refine wk_mmax C km_AS_194 (by decide) (Nat.le_of_ble_eq_true rfl) (Nat.zero_le _) (Nat.zero_le _) d_AS_newLength_3 ?_
  refine wk_top (fun z ez => ?_)
  have ev : nI n + z = nI (n + n / 2) := by rw [ez]; exact nl_eq h2 hn
  refine wk_run C k_AS_newLength_6 (pc2 := 10) (lv2 := [(3, .int ((nI n) + z)), (0, .int (nI n)), (1, .int (nI 1)), (2, .int (nI (n / 2)))]) (st2 := [.int ((nI n) + z), .int 0]) rfl ?_
  refine wk_br C d_AS_newLength_10 (P := ((nI n) + z) ≤ 0) (tgt := 21) (rest := []) rfl (by decide) (fun c1 => ?_) (fun c1 => ?_)
  · exact absurd (by rw [← ev]; exact c1) (nI_nle (n := n + n / 2) (by omega) (by omega))
  ·
    refine wk_run C k_AS_newLength_13 (pc2 := 14) (lv2 := [(3, .int ((nI n) + z)), (0, .int (nI n)), (1, .int (nI 1)), (2, .int (nI (n / 2)))]) (st2 := [.int ((nI n) + z)]) rfl ?_
    refine wk_ldc C kk_AS_200 d_AS_newLength_14 ?_
    refine wk_br C d_AS_newLength_16 (P := 2147483639 < ((nI n) + z)) (tgt := 21) (rest := []) rfl (by decide) (fun c2 => ?_) (fun c2 => ?_)
    · exact absurd (by rw [← ev]; exact c2) (show ¬ nI 2147483639 < nI (n + n / 2) from nI_nlt (by omega) (by decide))
    ·
      refine wk_run C k_AS_newLength_19 (pc2 := 20) (lv2 := [(3, .int ((nI n) + z)), (0, .int (nI n)), (1, .int (nI 1)), (2, .int (nI (n / 2)))]) (st2 := [.int ((nI n) + z)]) rfl ?_
      exact wk_iret C ⟨by rw [ev], rfl⟩ (by decide) (by decide) d_AS_newLength_20
theorem k_AR_copyOf_1_0 : px_dec prog_24_method_120_code [.aload_n 2] 0 = true := by decide +kernel
theorem d_AR_copyOf_1_1 : decode prog_24_method_120_code 1 = .ok (.ldc 110, 2) := by decide +kernel
theorem d_AR_copyOf_1_3 : decode prog_24_method_120_code 3 = .ok (.if_acmp .ne 10, 3) := by decide +kernel
theorem k_AR_copyOf_1_6 : px_dec prog_24_method_120_code [.iload_n 1] 6 = true := by decide +kernel
theorem d_AR_copyOf_1_7 : decode prog_24_method_120_code 7 = .ok (.anewarray 2, 3) := by decide +kernel
theorem d_AR_copyOf_1_10 : decode prog_24_method_120_code 10 = .ok (.goto 14, 3) := by decide +kernel
theorem k_AR_copyOf_1_24 : px_dec prog_24_method_120_code [.astore_n 3, .aload_n 0, .iconst 0, .aload_n 3, .iconst 0, .aload_n 0] 24 = true := by decide +kernel
theorem d_AR_copyOf_1_30 : decode prog_24_method_120_code 30 = .ok (.arraylength, 1) := by decide +kernel
theorem k_AR_copyOf_1_31 : px_dec prog_24_method_120_code [.iload_n 1] 31 = true := by decide +kernel
theorem d_AR_copyOf_1_32 : decode prog_24_method_120_code 32 = .ok (.invokestatic 304, 3) := by decide +kernel
theorem d_AR_copyOf_1_35 : decode prog_24_method_120_code 35 = .ok (.invokestatic 150, 3) := by decide +kernel
theorem k_AR_copyOf_1_38 : px_dec prog_24_method_120_code [.aload_n 3] 38 = true := by decide +kernel
theorem d_AR_copyOf_1_39 : decode prog_24_method_120_code 39 = .ok (.areturn, 1) := by decide +kernel
set_option maxRecDepth 100000 in
set_option maxHeartbeats 4000000 in
theorem c_AR_copyOf_1 (l : Launch) (D : va_G) (HB : Heap) (h : hp_T) (b cap N : Nat) (g : Nat → Option Nat) (hb : h b = some (.inl (D.1 102, cap, .inr (.inr (.inr (.inr g)))))) (hc : cap ≤ N) (hN : N ≤ 110) (hg : ∀ i : Nat, i < cap → ∀ y : Nat, g i = some y → ob_ok h y) : ct_M l y_AR_copyOf_1 (.code y_AR_copyOf_1 prog_24_method_120_code 4 (Option.some (Jvm.ClassFile.FieldType.array (Jvm.ClassFile.FieldType.object "java/lang/Object")))) ({ frames := 1, cells := 1, slots := 110, locals := 100 }) D HB [.ref b, .int (nI N), .ref (D.2 201 0)] h (fun o h2 => ∃ q : Nat, h q = none ∧ o = .inl (some (.ref q)) ∧ h2 = hp_up h q (.inl (D.1 102, N, .inr (.inr (.inr (.inr (va_cpy g (fun _ => none) 0 0 cap))))))) := by
  refine ct_of (by decide) (Nat.le_of_ble_eq_true rfl) rfl ?_
  intro p e s m args below meth c C hnm
  refine wk_run C k_AR_copyOf_1_0 (pc2 := 1) (lv2 := [(0, .ref b), (1, .int (nI N)), (2, .ref (D.2 201 0))]) (st2 := [.ref (D.2 201 0)]) rfl ?_
  refine wk_ldcM C cl_AR_110 d_AR_copyOf_1_1 ?_
  refine wk_ane C d_AR_copyOf_1_3 (tgt := 13) (by decide) (fun z => absurd rfl z) (fun _ => ?_)
  refine wk_run C k_AR_copyOf_1_6 (pc2 := 7) (lv2 := [(0, .ref b), (1, .int (nI N)), (2, .ref (D.2 201 0))]) (st2 := [.int (nI N)]) rfl ?_
  refine wk_newq C cl_AR_2 rfl (by omega) (by decide) (by show 0 + N ≤ 110; omega) d_AR_copyOf_1_7 (fun q hq => ?_)
  have hbq : b ≠ q := hp_ne hb hq
  have hb2 := (hp_un (h := h) (x := (.inl (D.1 102, N, .inr (.inr (.inr (.inr (fun _ => none))))))) hbq).trans hb
  refine wk_goto C d_AR_copyOf_1_10 (tgt := 24) (by decide) ?_
  refine wk_run C k_AR_copyOf_1_24 (pc2 := 30) (lv2 := [(3, .ref q), (0, .ref b), (1, .int (nI N)), (2, .ref (D.2 201 0))]) (st2 := [.ref b, .int 0, .ref q, .int 0, .ref b]) rfl ?_
  refine wk_alen C (t0 := 2) hb2 rfl d_AR_copyOf_1_30 ?_
  refine wk_run C k_AR_copyOf_1_31 (pc2 := 32) (lv2 := [(3, .ref q), (0, .ref b), (1, .int (nI N)), (2, .ref (D.2 201 0))]) (st2 := [.int (nI N), .int (nI cap), .int 0, .ref q, .int 0, .ref b]) rfl ?_
  refine wk_mmin C km_AR_304 (by decide) (Nat.le_of_ble_eq_true rfl) (by decide) (by show 0 + N ≤ 110; omega) d_AR_copyOf_1_32 ?_
  rw [if_neg (show ¬ nI N < nI cap from nI_nlt hc (by omega))]
  refine wk_copy (n := cap) C kp_AR kp_nt kp_st ki_SY hb2 hp_us nI_0.symm nI_0.symm rfl (by omega) (by omega) (by omega) (by omega) (fun i hi y hy => (hg i hi y (by rw [Nat.zero_add] at hy; exact hy)).up hq) (by decide) (by decide) d_AR_copyOf_1_35 ?_
  refine Wk.he hp_uu ?_
  refine wk_run C k_AR_copyOf_1_38 (pc2 := 39) (lv2 := [(3, .ref q), (0, .ref b), (1, .int (nI N)), (2, .ref (D.2 201 0))]) (st2 := [.ref q]) rfl ?_
  exact wk_aret C rfl (Or.inr ⟨_, rfl⟩) (Or.inr ⟨_, rfl⟩) ⟨q, hq, rfl, rfl⟩ (by decide) (by show 0 + N ≤ 110; omega) d_AR_copyOf_1_39
theorem k_AR_copyOf_0_0 : px_dec prog_24_method_119_code [.aload_n 0, .iload_n 1, .aload_n 0] 0 = true := by decide +kernel
theorem d_AR_copyOf_0_3 : decode prog_24_method_119_code 3 = .ok (.invokevirtual 86, 3) := by decide +kernel
theorem d_AR_copyOf_0_6 : decode prog_24_method_119_code 6 = .ok (.invokestatic 300, 3) := by decide +kernel
theorem d_AR_copyOf_0_9 : decode prog_24_method_119_code 9 = .ok (.areturn, 1) := by decide +kernel
set_option maxRecDepth 100000 in
set_option maxHeartbeats 4000000 in
theorem c_AR_copyOf_0 (l : Launch) (D : va_G) (HB : Heap) (h : hp_T) (b cap N : Nat) (g : Nat → Option Nat) (hb : h b = some (.inl (D.1 102, cap, .inr (.inr (.inr (.inr g)))))) (hc : cap ≤ N) (hN : N ≤ 110) (hg : ∀ i : Nat, i < cap → ∀ y : Nat, g i = some y → ob_ok h y) : ct_M l y_AR_copyOf_0 (.code y_AR_copyOf_0 prog_24_method_119_code 2 (Option.some (Jvm.ClassFile.FieldType.array (Jvm.ClassFile.FieldType.object "java/lang/Object")))) ({ frames := 2, cells := 1, slots := 110, locals := 123 }) D HB [.ref b, .int (nI N)] h (fun o h2 => ∃ q : Nat, h q = none ∧ o = .inl (some (.ref q)) ∧ h2 = hp_up h q (.inl (D.1 102, N, .inr (.inr (.inr (.inr (va_cpy g (fun _ => none) 0 0 cap))))))) := by
  refine ct_of (by decide) (Nat.le_of_ble_eq_true rfl) rfl ?_
  intro p e s m args below meth c C hnm
  refine wk_run C k_AR_copyOf_0_0 (pc2 := 3) (lv2 := [(0, .ref b), (1, .int (nI N))]) (st2 := [.ref b, .int (nI N), .ref b]) rfl ?_
  refine wk_getC C hb kg_lk kg_dc kg_sl kg_in kg_nt (by decide) (Nat.le_of_ble_eq_true rfl) d_AR_copyOf_0_3 ?_
  refine wk_callS (rest := []) C (c_AR_copyOf_1 l D HB h b cap N g hb hc hN hg) cs_AR_300 kc_AR_copyOf_1 ki_AR rfl rfl (Nat.le_of_ble_eq_true rfl) (Nat.le_of_ble_eq_true rfl) (Nat.le_of_ble_eq_true rfl) (Nat.le_of_ble_eq_true rfl) (Nat.le_of_ble_eq_true rfl) d_AR_copyOf_0_6 (fun v h2 hq => ?_) (fun _ _ z => by obtain ⟨_, _, z, _⟩ := z; cases z)
  obtain ⟨q, hq1, e1, e2⟩ := hq; cases e1; subst e2
  exact wk_aret C rfl (Or.inr ⟨_, rfl⟩) (Or.inr ⟨_, rfl⟩) ⟨q, hq1, rfl, rfl⟩ (by decide) (by decide) d_AR_copyOf_0_9
theorem k_AL_grow_1_0 : px_dec prog_23_method_6_code [.aload_n 0] 0 = true := by decide +kernel
theorem d_AL_grow_1_1 : decode prog_23_method_6_code 1 = .ok (.getfield 9, 3) := by decide +kernel
theorem d_AL_grow_1_4 : decode prog_23_method_6_code 4 = .ok (.arraylength, 1) := by decide +kernel
theorem k_AL_grow_1_5 : px_dec prog_23_method_6_code [.istore_n 2, .iload_n 2] 5 = true := by decide +kernel
theorem d_AL_grow_1_7 : decode prog_23_method_6_code 7 = .ok (.ifCond .gt 13, 3) := by decide +kernel
theorem k_AL_grow_1_20 : px_dec prog_23_method_6_code [.iload_n 2, .iload_n 1, .iload_n 2, .isub, .iload_n 2, .iconst 1, .ishr] 20 = true := by decide +kernel
theorem d_AL_grow_1_27 : decode prog_23_method_6_code 27 = .ok (.invokestatic 73, 3) := by decide +kernel
theorem k_AL_grow_1_30 : px_dec prog_23_method_6_code [.istore_n 3, .aload_n 0, .aload_n 0] 30 = true := by decide +kernel
theorem d_AL_grow_1_33 : decode prog_23_method_6_code 33 = .ok (.getfield 9, 3) := by decide +kernel
theorem k_AL_grow_1_36 : px_dec prog_23_method_6_code [.iload_n 3] 36 = true := by decide +kernel
theorem d_AL_grow_1_37 : decode prog_23_method_6_code 37 = .ok (.invokestatic 66, 3) := by decide +kernel
theorem k_AL_grow_1_40 : px_dec prog_23_method_6_code [.dup_x1] 40 = true := by decide +kernel
theorem d_AL_grow_1_41 : decode prog_23_method_6_code 41 = .ok (.putfield 9, 3) := by decide +kernel
theorem d_AL_grow_1_44 : decode prog_23_method_6_code 44 = .ok (.areturn, 1) := by decide +kernel
set_option maxRecDepth 100000 in
set_option maxHeartbeats 4000000 in
theorem c_AL_grow_1b (l : Launch) (D : va_G) (HB : Heap) (h : hp_T) (a b cap : Nat) (md sz : Int32) (g : Nat → Option Nat) (ha : h a = some (.inr (7, [.int md, .ref b, .int sz]))) (hb : h b = some (.inl (D.1 102, cap, .inr (.inr (.inr (.inr g)))))) (hc : 2 ≤ cap) (hN : cap ≤ 73) (hg : ∀ i : Nat, i < cap → ∀ y : Nat, g i = some y → ob_ok h y) : ct_M l y_AL_grow_1 (.code y_AL_grow_1 prog_23_method_6_code 4 (Option.some (Jvm.ClassFile.FieldType.array (Jvm.ClassFile.FieldType.object "java/lang/Object")))) ({ frames := 3, cells := 1, slots := 110, locals := 148 }) D HB [.ref a, .int (nI (cap + 1))] h (fun o h2 => ∃ q : Nat, h q = none ∧ o = .inl (some (.ref q)) ∧ h2 = hp_up (hp_up h q (.inl (D.1 102, (cap + cap / 2), .inr (.inr (.inr (.inr (va_cpy g (fun _ => none) 0 0 cap))))))) a (.inr (7, [.int md, .ref q, .int sz]))) := by
  refine ct_of (by decide) (Nat.le_of_ble_eq_true rfl) rfl ?_
  intro p e s m args below meth c C hnm
  refine wk_run C k_AL_grow_1_0 (pc2 := 1) (lv2 := [(0, .ref a), (1, .int (nI (cap + 1)))]) (st2 := [.ref a]) rfl ?_
  refine wk_get C fd_AL_9 ha rfl d_AL_grow_1_1 ?_
  refine wk_alen C (t0 := 2) hb rfl d_AL_grow_1_4 ?_
  refine wk_run C k_AL_grow_1_5 (pc2 := 7) (lv2 := [(2, .int (nI cap)), (0, .ref a), (1, .int (nI (cap + 1)))]) (st2 := [.int (nI cap)]) rfl ?_
  refine wk_br C d_AL_grow_1_7 (P := 0 < (nI cap)) (tgt := 20) (rest := []) rfl (by decide) (fun c1 => ?_) (fun c1 => ?_)
  ·
    refine wk_run C k_AL_grow_1_20 (pc2 := 27) (lv2 := [(2, .int (nI cap)), (0, .ref a), (1, .int (nI (cap + 1)))]) (st2 := [.int ((nI cap) >>> (1 &&& 31)), .int ((nI (cap + 1)) - (nI cap)), .int (nI cap)]) rfl ?_
    have e1 : nI (cap + 1) - nI cap = nI 1 := by rw [pk_sub (by omega)]; congr 1; omega
    have e2 : nI cap >>> ((1 : Int32) &&& 31) = nI (cap / 2) := by have k := pk_shrN (n := cap) (by omega) ((1 : Int32) &&& 31) 1 (by decide); rw [Nat.pow_one] at k; exact k
    rw [e1, e2]
    refine wk_callS (rest := []) C (c_AS_newLength l D HB h cap hc (by omega)) cs_AL_73 kc_AS_newLength ki_AS rfl rfl (Nat.le_of_ble_eq_true rfl) (Nat.le_of_ble_eq_true rfl) (Nat.le_of_ble_eq_true rfl) (Nat.le_of_ble_eq_true rfl) (Nat.le_of_ble_eq_true rfl) d_AL_grow_1_27 (fun v h2 hq => ?_) (fun _ _ z => nomatch z.1)
    obtain ⟨e3, e4⟩ := hq; cases e3; subst e4
    refine wk_run C k_AL_grow_1_30 (pc2 := 33) (lv2 := [(3, .int (nI (cap + cap / 2))), (2, .int (nI cap)), (0, .ref a), (1, .int (nI (cap + 1)))]) (st2 := [.ref a, .ref a]) rfl ?_
    refine wk_get C fd_AL_9 ha rfl d_AL_grow_1_33 ?_
    refine wk_run C k_AL_grow_1_36 (pc2 := 37) (lv2 := [(3, .int (nI (cap + cap / 2))), (2, .int (nI cap)), (0, .ref a), (1, .int (nI (cap + 1)))]) (st2 := [.int (nI (cap + cap / 2)), .ref b, .ref a]) rfl ?_
    refine wk_callS (rest := [.ref a]) C (c_AR_copyOf_0 l D HB h2 b cap (cap + cap / 2) g hb (by omega) (by omega) hg) cs_AL_66 kc_AR_copyOf_0 ki_AR rfl rfl (Nat.le_of_ble_eq_true rfl) (Nat.le_of_ble_eq_true rfl) (Nat.le_of_ble_eq_true rfl) (Nat.le_of_ble_eq_true rfl) (Nat.le_of_ble_eq_true rfl) d_AL_grow_1_37 (fun v h3 hq => ?_) (fun _ _ z => by obtain ⟨_, _, z, _⟩ := z; cases z)
    obtain ⟨q, hq1, e1, e2⟩ := hq; cases e1; subst e2
    refine wk_run C k_AL_grow_1_40 (pc2 := 41) (lv2 := [(3, .int (nI (cap + cap / 2))), (2, .int (nI cap)), (0, .ref a), (1, .int (nI (cap + 1)))]) (st2 := [.ref q, .ref a, .ref q]) rfl ?_
    refine wk_put (fs2 := [.int md, .ref q, .int sz]) C fd_AL_9 ((hp_un (hp_ne ha hq1)).trans ha) rfl rfl (Nat.le_of_ble_eq_true rfl) rfl d_AL_grow_1_41 ?_
    exact wk_aret C rfl (Or.inr ⟨_, rfl⟩) (Or.inr ⟨_, rfl⟩) ⟨q, hq1, rfl, rfl⟩ (by decide) (by decide) d_AL_grow_1_44
  · exact absurd (show nI 0 < nI cap from nI_lt (by omega) (by omega)) c1
theorem k_AL_grow_1_10 : px_dec prog_23_method_6_code [.aload_n 0] 10 = true := by decide +kernel
theorem d_AL_grow_1_11 : decode prog_23_method_6_code 11 = .ok (.getfield 9, 3) := by decide +kernel
theorem d_AL_grow_1_14 : decode prog_23_method_6_code 14 = .ok (.getstatic 39, 3) := by decide +kernel
theorem d_AL_grow_1_17 : decode prog_23_method_6_code 17 = .ok (.if_acmp .eq 28, 3) := by decide +kernel
theorem k_AL_grow_1_45 : px_dec prog_23_method_6_code [.aload_n 0, .bipush 10, .iload_n 1] 45 = true := by decide +kernel
theorem d_AL_grow_1_49 : decode prog_23_method_6_code 49 = .ok (.invokestatic 79, 3) := by decide +kernel
theorem d_AL_grow_1_52 : decode prog_23_method_6_code 52 = .ok (.anewarray 7, 3) := by decide +kernel
theorem k_AL_grow_1_55 : px_dec prog_23_method_6_code [.dup_x1] 55 = true := by decide +kernel
theorem d_AL_grow_1_56 : decode prog_23_method_6_code 56 = .ok (.putfield 9, 3) := by decide +kernel
theorem d_AL_grow_1_59 : decode prog_23_method_6_code 59 = .ok (.areturn, 1) := by decide +kernel
set_option maxRecDepth 100000 in
set_option maxHeartbeats 4000000 in
theorem c_AL_grow_1a (l : Launch) (D : va_G) (HB : Heap) (h : hp_T) (a : Nat) (md sz : Int32) (ha : h a = some (.inr (7, [.int md, .ref (D.2 200 0), .int sz]))) : ct_M l y_AL_grow_1 (.code y_AL_grow_1 prog_23_method_6_code 4 (Option.some (Jvm.ClassFile.FieldType.array (Jvm.ClassFile.FieldType.object "java/lang/Object")))) ({ frames := 3, cells := 1, slots := 110, locals := 148 }) D HB [.ref a, .int 1] h (fun o h2 => ∃ q : Nat, h q = none ∧ o = .inl (some (.ref q)) ∧ h2 = hp_up (hp_up h q (.inl (D.1 102, 10, .inr (.inr (.inr (.inr (fun _ => none))))))) a (.inr (7, [.int md, .ref q, .int sz]))) := by
  refine ct_of (by decide) (Nat.le_of_ble_eq_true rfl) rfl ?_
  intro p e s m args below meth c C hnm
  refine wk_run C k_AL_grow_1_0 (pc2 := 1) (lv2 := [(0, .ref a), (1, .int 1)]) (st2 := [.ref a]) rfl ?_
  refine wk_get C fd_AL_9 ha rfl d_AL_grow_1_1 ?_
  refine wk_tlen C C.ev.2.2.2.2.2.1 d_AL_grow_1_4 ?_
  refine wk_run C k_AL_grow_1_5 (pc2 := 7) (lv2 := [(2, .int (nI 0)), (0, .ref a), (1, .int 1)]) (st2 := [.int (nI 0)]) rfl ?_
  refine wk_br C d_AL_grow_1_7 (P := 0 < (nI 0)) (tgt := 20) (rest := []) rfl (by decide) (fun c1 => ?_) (fun c1 => ?_)
  · exact absurd c1 (by decide)
  ·
    refine wk_run C k_AL_grow_1_10 (pc2 := 11) (lv2 := [(2, .int (nI 0)), (0, .ref a), (1, .int 1)]) (st2 := [.ref a]) rfl ?_
    refine wk_get C fd_AL_9 ha rfl d_AL_grow_1_11 ?_
    refine wk_gets C C.ev.2.2.2.2.1 fs_AL_39 d_AL_grow_1_14 ?_
    refine wk_aeq C d_AL_grow_1_17 (tgt := 45) (by decide) (fun _ => ?_) (fun z => absurd rfl z)
    refine wk_run C k_AL_grow_1_45 (pc2 := 49) (lv2 := [(2, .int (nI 0)), (0, .ref a), (1, .int 1)]) (st2 := [.int 1, .int 10, .ref a]) rfl ?_
    refine wk_mmax C km_AL_79 (by decide) (Nat.le_of_ble_eq_true rfl) (by decide) (by decide) d_AL_grow_1_49 ?_
    rw [if_neg (show ¬ (10 : Int32) < 1 by decide)]
    refine wk_newq (N := 10) C cl_AL_7 rfl (by omega) (by decide) (by decide) d_AL_grow_1_52 (fun q hq => ?_)
    refine wk_run C k_AL_grow_1_55 (pc2 := 56) (lv2 := [(2, .int (nI 0)), (0, .ref a), (1, .int 1)]) (st2 := [.ref q, .ref a, .ref q]) rfl ?_
    refine wk_put (fs2 := [.int md, .ref q, .int sz]) C fd_AL_9 ((hp_un (hp_ne ha hq)).trans ha) rfl rfl (Nat.le_of_ble_eq_true rfl) rfl d_AL_grow_1_56 ?_
    exact wk_aret C rfl (Or.inr ⟨_, rfl⟩) (Or.inr ⟨_, rfl⟩) ⟨q, hq, rfl, rfl⟩ (by decide) (by decide) d_AL_grow_1_59
end
section
/-- the list object at a, its array at b: n elements, the i-th one at f i -/
def al_ok (D : va_G) (h : hp_T) (a b n : Nat) (f : Nat → Nat) : Prop := ∃ md : Int32, h a = some (.inr (7, [.int md, .ref b, .int (nI n)])) ∧ ((n = 0 ∧ b = D.2 200 0) ∨ ∃ (cap : Nat) (g : Nat → Option Nat), h b = some (.inl (D.1 102, cap, .inr (.inr (.inr (.inr g))))) ∧ n ≤ cap ∧ 2 ≤ cap ∧ cap ≤ 110 ∧ ∀ i, i < n → g i = some (f i))
/-- .. and what was beside it stays -/
def al_fr (h h2 : hp_T) (a b : Nat) : Prop := ∀ (q : Nat) (x : va_E), q ≠ a → q ≠ b → h q = some x → h2 q = some x
def al_cat (f : Nat → Nat) (n y : Nat) : Nat → Nat := fun i => if i = n then y else f i
def al_del (f : Nat → Nat) (j : Nat) : Nat → Nat := fun k => if k < j then f k else f (k + 1)
theorem al_cat_lt {f : Nat → Nat} {n y i : Nat} (h : i < n) : al_cat f n y i = f i := if_neg (Nat.ne_of_lt h)
theorem al_cat_n {f : Nat → Nat} {n y : Nat} : al_cat f n y n = y := if_pos rfl

theorem k_AL_grow_0_0 : px_dec prog_23_method_7_code [.aload_n 0, .aload_n 0] 0 = true := by decide +kernel
theorem d_AL_grow_0_2 : decode prog_23_method_7_code 2 = .ok (.getfield 48, 3) := by decide +kernel
theorem k_AL_grow_0_5 : px_dec prog_23_method_7_code [.iconst 1, .iadd] 5 = true := by decide +kernel
theorem d_AL_grow_0_7 : decode prog_23_method_7_code 7 = .ok (.invokevirtual 69, 3) := by decide +kernel
theorem d_AL_grow_0_10 : decode prog_23_method_7_code 10 = .ok (.areturn, 1) := by decide +kernel
set_option maxRecDepth 100000 in
set_option maxHeartbeats 4000000 in
theorem c_AL_grow_0b (l : Launch) (D : va_G) (HB : Heap) (h : hp_T) (a b cap : Nat) (md : Int32) (g : Nat → Option Nat) (ha : h a = some (.inr (7, [.int md, .ref b, .int (nI cap)]))) (hb : h b = some (.inl (D.1 102, cap, .inr (.inr (.inr (.inr g)))))) (hc : 2 ≤ cap) (hN : cap ≤ 73) (hg : ∀ i : Nat, i < cap → ∀ y : Nat, g i = some y → ob_ok h y) : ct_M l y_AL_grow_0 (.code y_AL_grow_0 prog_23_method_7_code 1 (Option.some (Jvm.ClassFile.FieldType.array (Jvm.ClassFile.FieldType.object "java/lang/Object")))) ({ frames := 4, cells := 1, slots := 110, locals := 171 }) D HB [.ref a] h (fun o h2 => ∃ q : Nat, h q = none ∧ o = .inl (some (.ref q)) ∧ h2 = hp_up (hp_up h q (.inl (D.1 102, (cap + cap / 2), .inr (.inr (.inr (.inr (va_cpy g (fun _ => none) 0 0 cap))))))) a (.inr (7, [.int md, .ref q, .int (nI cap)]))) := by
  refine ct_of (by decide) (Nat.le_of_ble_eq_true rfl) rfl ?_
  intro p e s m args below meth c C hnm
  refine wk_run C k_AL_grow_0_0 (pc2 := 2) (lv2 := [(0, .ref a)]) (st2 := [.ref a, .ref a]) rfl ?_
  refine wk_get C fd_AL_48 ha rfl d_AL_grow_0_2 ?_
  refine wk_run C k_AL_grow_0_5 (pc2 := 7) (lv2 := [(0, .ref a)]) (st2 := [.int ((nI cap) + 1), .ref a]) rfl ?_
  rw [nI_1]
  refine wk_callV (cl := ("java/util/ArrayList", T_AL, 3)) (rest := []) C (c_AL_grow_1b l D HB h a b cap md (nI cap) g ha hb hc hN hg) cs_AL_69 kc_AL_grow_1 ki_AL ha rfl rfl rfl (Nat.le_of_ble_eq_true rfl) (Nat.le_of_ble_eq_true rfl) (Nat.le_of_ble_eq_true rfl) (Nat.le_of_ble_eq_true rfl) (Nat.le_of_ble_eq_true rfl) d_AL_grow_0_7 (fun v h2 hq => ?_) (fun _ _ z => by obtain ⟨_, _, z, _⟩ := z; cases z)
  obtain ⟨q, hq1, e1, e2⟩ := hq; cases e1; subst e2
  exact wk_aret C rfl (Or.inr ⟨_, rfl⟩) (Or.inr ⟨_, rfl⟩) ⟨q, hq1, rfl, rfl⟩ (by decide) (by decide) d_AL_grow_0_10
set_option maxRecDepth 100000 in
set_option maxHeartbeats 4000000 in
theorem c_AL_grow_0a (l : Launch) (D : va_G) (HB : Heap) (h : hp_T) (a : Nat) (md : Int32) (ha : h a = some (.inr (7, [.int md, .ref (D.2 200 0), .int (nI 0)]))) : ct_M l y_AL_grow_0 (.code y_AL_grow_0 prog_23_method_7_code 1 (Option.some (Jvm.ClassFile.FieldType.array (Jvm.ClassFile.FieldType.object "java/lang/Object")))) ({ frames := 4, cells := 1, slots := 110, locals := 171 }) D HB [.ref a] h (fun o h2 => ∃ q : Nat, h q = none ∧ o = .inl (some (.ref q)) ∧ h2 = hp_up (hp_up h q (.inl (D.1 102, 10, .inr (.inr (.inr (.inr (fun _ => none))))))) a (.inr (7, [.int md, .ref q, .int (nI 0)]))) := by
  refine ct_of (by decide) (Nat.le_of_ble_eq_true rfl) rfl ?_
  intro p e s m args below meth c C hnm
  refine wk_run C k_AL_grow_0_0 (pc2 := 2) (lv2 := [(0, .ref a)]) (st2 := [.ref a, .ref a]) rfl ?_
  refine wk_get C fd_AL_48 ha rfl d_AL_grow_0_2 ?_
  refine wk_run C k_AL_grow_0_5 (pc2 := 7) (lv2 := [(0, .ref a)]) (st2 := [.int ((nI 0) + 1), .ref a]) rfl ?_
  rw [show nI 0 + 1 = 1 from rfl]
  refine wk_callV (cl := ("java/util/ArrayList", T_AL, 3)) (rest := []) C (c_AL_grow_1a l D HB h a md (nI 0) ha) cs_AL_69 kc_AL_grow_1 ki_AL ha rfl rfl rfl (Nat.le_of_ble_eq_true rfl) (Nat.le_of_ble_eq_true rfl) (Nat.le_of_ble_eq_true rfl) (Nat.le_of_ble_eq_true rfl) (Nat.le_of_ble_eq_true rfl) d_AL_grow_0_7 (fun v h2 hq => ?_) (fun _ _ z => by obtain ⟨_, _, z, _⟩ := z; cases z)
  obtain ⟨q, hq1, e1, e2⟩ := hq; cases e1; subst e2
  exact wk_aret C rfl (Or.inr ⟨_, rfl⟩) (Or.inr ⟨_, rfl⟩) ⟨q, hq1, rfl, rfl⟩ (by decide) (by decide) d_AL_grow_0_10
theorem al_push {D : va_G} {h : hp_T} {a b n cap y : Nat} {f : Nat → Nat} {g : Nat → Option Nat} {md md2 : Int32} {fs : List Value} (ha : h a = some (.inr (7, fs))) (hb : h b = some (.inl (D.1 102, cap, .inr (.inr (.inr (.inr g)))))) (hn : n < cap) (h2 : 2 ≤ cap) (hc : cap ≤ 110) (hg : ∀ i, i < n → g i = some (f i)) :
    al_ok D (hp_up (hp_up h b (.inl (D.1 102, cap, .inr (.inr (.inr (.inr (va_up g n (some y)))))))) a (.inr (7, [.int md2, .ref b, .int (nI (n + 1))]))) a b (n + 1) (al_cat f n y) := by
  have hne : b ≠ a := fun z => by rw [z, ha] at hb; cases hb
  refine ⟨md2, hp_us, Or.inr ⟨cap, va_up g n (some y), by rw [hp_un hne]; exact hp_us, by omega, h2, hc, fun i hi => ?_⟩⟩
  by_cases z : i = n
  · subst z; rw [va_up_self, al_cat_n]
  · rw [va_up_ne _ _ z, al_cat_lt (by omega)]; exact hg i (by omega)

theorem k_AL_add_1_0 : px_dec prog_23_method_24_code [.iload_n 3, .aload_n 2] 0 = true := by decide +kernel
theorem d_AL_add_1_2 : decode prog_23_method_24_code 2 = .ok (.arraylength, 1) := by decide +kernel
theorem d_AL_add_1_3 : decode prog_23_method_24_code 3 = .ok (.if_icmp .ne 8, 3) := by decide +kernel
theorem k_AL_add_1_6 : px_dec prog_23_method_24_code [.aload_n 0] 6 = true := by decide +kernel
theorem d_AL_add_1_7 : decode prog_23_method_24_code 7 = .ok (.invokevirtual 129, 3) := by decide +kernel
theorem k_AL_add_1_10 : px_dec prog_23_method_24_code [.astore_n 2, .aload_n 2, .iload_n 3, .aload_n 1] 10 = true := by decide +kernel
theorem d_AL_add_1_14 : decode prog_23_method_24_code 14 = .ok (.aastore, 1) := by decide +kernel
theorem k_AL_add_1_15 : px_dec prog_23_method_24_code [.aload_n 0, .iload_n 3, .iconst 1, .iadd] 15 = true := by decide +kernel
theorem d_AL_add_1_19 : decode prog_23_method_24_code 19 = .ok (.putfield 48, 3) := by decide +kernel
theorem d_AL_add_1_22 : decode prog_23_method_24_code 22 = .ok (.return_, 1) := by decide +kernel
theorem k_AL_add_1_11 : px_dec prog_23_method_24_code [.aload_n 2, .iload_n 3, .aload_n 1] 11 = true := by decide +kernel
set_option maxRecDepth 100000 in
set_option maxHeartbeats 4000000 in
theorem c_AL_add_1 (l : Launch) (D : va_G) (HB : Heap) (h : hp_T) (a b n y : Nat) (f : Nat → Nat) (hL : al_ok D h a b n f) (hn : n ≤ 73) (hf : ∀ i : Nat, i < n → ob_ok h (f i)) (hy : ob_ok h y) : ct_M l y_AL_add_1 (.code y_AL_add_1 prog_23_method_24_code 4 (Option.none : Option Jvm.ClassFile.FieldType)) ({ frames := 5, cells := 1, slots := 110, locals := 192 }) D HB [.ref a, .ref y, .ref b, .int (nI n)] h (fun o h2 => o = .inl none ∧ ∃ b2 : Nat, al_ok D h2 a b2 (n + 1) (al_cat f n y) ∧ (b2 = b ∨ h b2 = none) ∧ al_fr h h2 a b) := by
  refine ct_of (by decide) (Nat.le_of_ble_eq_true rfl) rfl ?_
  intro p e s m args below meth c C hnm
  obtain ⟨md, ha, hL⟩ := hL
  rcases hL with ⟨hn0, hb⟩ | ⟨cap, g, hb, hnc, hc2, hc1, hg⟩
  ·
    subst hn0; subst hb
    refine wk_run C k_AL_add_1_0 (pc2 := 2) (lv2 := [(0, .ref a), (1, .ref y), (2, .ref (D.2 200 0)), (3, .int (nI 0))]) (st2 := [.ref (D.2 200 0), .int (nI 0)]) rfl ?_
    refine wk_tlen C C.ev.2.2.2.2.2.1 d_AL_add_1_2 ?_
    refine wk_br C d_AL_add_1_3 (P := ¬ (nI 0) = (nI 0)) (tgt := 11) (rest := []) rfl (by decide) (fun c1 => ?_) (fun c1 => ?_)
    · exact absurd rfl c1
    ·
      refine wk_run C k_AL_add_1_6 (pc2 := 7) (lv2 := [(0, .ref a), (1, .ref y), (2, .ref (D.2 200 0)), (3, .int (nI 0))]) (st2 := [.ref a]) rfl ?_
      refine wk_callV (cl := ("java/util/ArrayList", T_AL, 3)) (rest := []) C (c_AL_grow_0a l D HB h a md ha) cs_AL_129 kc_AL_grow_0 ki_AL ha rfl rfl rfl (Nat.le_of_ble_eq_true rfl) (Nat.le_of_ble_eq_true rfl) (Nat.le_of_ble_eq_true rfl) (Nat.le_of_ble_eq_true rfl) (Nat.le_of_ble_eq_true rfl) d_AL_add_1_7 (fun v h2 hq => ?_) (fun _ _ z => by obtain ⟨_, _, z, _⟩ := z; cases z)
      obtain ⟨q, hq1, e1, e2⟩ := hq; cases e1; subst e2
      have hqa : q ≠ a := fun z => hp_ne ha hq1 z.symm
      have hq2 : (hp_up (hp_up h q (.inl (D.1 102, 10, .inr (.inr (.inr (.inr (fun _ => none))))))) a (.inr (7, [.int md, .ref q, .int (nI 0)]))) q = some (.inl (D.1 102, 10, .inr (.inr (.inr (.inr (fun _ => none)))))) := by rw [hp_un hqa]; exact hp_us
      have hy2 := (hy.up (x := (.inl (D.1 102, 10, .inr (.inr (.inr (.inr (fun _ => none))))))) hq1).fld (fs2 := [.int md, .ref q, .int (nI 0)]) ((hp_un (hp_ne ha hq1)).trans ha)
      refine wk_run C k_AL_add_1_10 (pc2 := 14) (lv2 := [(2, .ref q), (0, .ref a), (1, .ref y), (3, .int (nI 0))]) (st2 := [.ref y, .int (nI 0), .ref q]) rfl ?_
      refine wk_aastO C hq2 (vp_in_nI (by omega) (by omega)) hy2 d_AL_add_1_14 ?_
      rw [nI_clamp (by omega)]
      refine wk_run C k_AL_add_1_15 (pc2 := 19) (lv2 := [(2, .ref q), (0, .ref a), (1, .ref y), (3, .int (nI 0))]) (st2 := [.int ((nI 0) + 1), .ref a]) rfl ?_
      refine wk_put (fs2 := [.int md, .ref q, .int (nI 0 + 1)]) C fd_AL_48 ((hp_un (Ne.symm hqa)).trans hp_us) rfl rfl (Nat.le_of_ble_eq_true rfl) rfl d_AL_add_1_19 ?_
      refine wk_vret C ⟨rfl, q, ?_, Or.inr hq1, ?_⟩ (by decide) (by decide) d_AL_add_1_22
      · rw [nI_1]; exact al_push (md := md) (g := fun _ => none) hp_us hq2 (by omega) (by omega) (by omega) (fun i hi => absurd hi (Nat.not_lt_zero i))
      · intro z x z1 z2 hz
        rw [hp_un z1, hp_un (hp_ne hz hq1), hp_un z1, hp_un (hp_ne hz hq1)]; exact hz
  ·
    refine wk_run C k_AL_add_1_0 (pc2 := 2) (lv2 := [(0, .ref a), (1, .ref y), (2, .ref b), (3, .int (nI n))]) (st2 := [.ref b, .int (nI n)]) rfl ?_
    refine wk_alen C (t0 := 2) hb rfl d_AL_add_1_2 ?_
    refine wk_br C d_AL_add_1_3 (P := ¬ (nI n) = (nI cap)) (tgt := 11) (rest := []) rfl (by decide) (fun c1 => ?_) (fun c1 => ?_)
    ·
      have hlt : n < cap := Nat.lt_of_le_of_ne hnc (fun z => c1 (by rw [z]))
      have hne : a ≠ b := fun z => by rw [← z, ha] at hb; cases hb
      refine wk_run C k_AL_add_1_11 (pc2 := 14) (lv2 := [(0, .ref a), (1, .ref y), (2, .ref b), (3, .int (nI n))]) (st2 := [.ref y, .int (nI n), .ref b]) rfl ?_
      refine wk_aastO C hb (vp_in_nI hlt (by omega)) hy d_AL_add_1_14 ?_
      rw [nI_clamp (by omega)]
      refine wk_run C k_AL_add_1_15 (pc2 := 19) (lv2 := [(0, .ref a), (1, .ref y), (2, .ref b), (3, .int (nI n))]) (st2 := [.int ((nI n) + 1), .ref a]) rfl ?_
      refine wk_put (fs2 := [.int md, .ref b, .int (nI n + 1)]) C fd_AL_48 ((hp_un hne).trans ha) rfl rfl (Nat.le_of_ble_eq_true rfl) rfl d_AL_add_1_19 ?_
      refine wk_vret C ⟨rfl, b, ?_, Or.inl rfl, ?_⟩ (by decide) (by decide) d_AL_add_1_22
      · rw [nI_1]; exact al_push (md := md) ha hb hlt hc2 hc1 hg
      · intro z x z1 z2 hz
        rw [hp_un z1, hp_un z2]; exact hz
    ·
      have hnc2 : n = cap := Classical.byContradiction (fun z => c1 (fun y => z ((nI_eq (by omega) (by omega)).mp y)))
      subst hnc2
      refine wk_run C k_AL_add_1_6 (pc2 := 7) (lv2 := [(0, .ref a), (1, .ref y), (2, .ref b), (3, .int (nI n))]) (st2 := [.ref a]) rfl ?_
      refine wk_callV (cl := ("java/util/ArrayList", T_AL, 3)) (rest := []) C (c_AL_grow_0b l D HB h a b n md g ha hb hc2 hn (fun i hi y hy => by rw [hg i hi] at hy; cases hy; exact hf i hi)) cs_AL_129 kc_AL_grow_0 ki_AL ha rfl rfl rfl (Nat.le_of_ble_eq_true rfl) (Nat.le_of_ble_eq_true rfl) (Nat.le_of_ble_eq_true rfl) (Nat.le_of_ble_eq_true rfl) (Nat.le_of_ble_eq_true rfl) d_AL_add_1_7 (fun v h2 hq => ?_) (fun _ _ z => by obtain ⟨_, _, z, _⟩ := z; cases z)
      obtain ⟨q, hq1, e1, e2⟩ := hq; cases e1; subst e2
      have hqa : q ≠ a := fun z => hp_ne ha hq1 z.symm
      have hq2 : (hp_up (hp_up h q (.inl (D.1 102, (n + n / 2), .inr (.inr (.inr (.inr (va_cpy g (fun _ => none) 0 0 n))))))) a (.inr (7, [.int md, .ref q, .int (nI n)]))) q = some (.inl (D.1 102, (n + n / 2), .inr (.inr (.inr (.inr (va_cpy g (fun _ => none) 0 0 n)))))) := by rw [hp_un hqa]; exact hp_us
      have hy2 := (hy.up (x := (.inl (D.1 102, (n + n / 2), .inr (.inr (.inr (.inr (va_cpy g (fun _ => none) 0 0 n))))))) hq1).fld (fs2 := [.int md, .ref q, .int (nI n)]) ((hp_un (hp_ne ha hq1)).trans ha)
      refine wk_run C k_AL_add_1_10 (pc2 := 14) (lv2 := [(2, .ref q), (0, .ref a), (1, .ref y), (3, .int (nI n))]) (st2 := [.ref y, .int (nI n), .ref q]) rfl ?_
      refine wk_aastO C hq2 (vp_in_nI (by omega) (by omega)) hy2 d_AL_add_1_14 ?_
      rw [nI_clamp (by omega)]
      refine wk_run C k_AL_add_1_15 (pc2 := 19) (lv2 := [(2, .ref q), (0, .ref a), (1, .ref y), (3, .int (nI n))]) (st2 := [.int ((nI n) + 1), .ref a]) rfl ?_
      refine wk_put (fs2 := [.int md, .ref q, .int (nI n + 1)]) C fd_AL_48 ((hp_un (Ne.symm hqa)).trans hp_us) rfl rfl (Nat.le_of_ble_eq_true rfl) rfl d_AL_add_1_19 ?_
      refine wk_vret C ⟨rfl, q, ?_, Or.inr hq1, ?_⟩ (by decide) (by decide) d_AL_add_1_22
      · rw [nI_1]; exact al_push (md := md) hp_us hq2 (by omega) (by omega) (by omega) (fun i hi => by rw [pk_cpy_in (by omega) (by omega)]; simp only [Nat.zero_add, Nat.sub_zero]; exact hg i hi)
      · intro z x z1 z2 hz
        rw [hp_un z1, hp_un (hp_ne hz hq1), hp_un z1, hp_un (hp_ne hz hq1)]; exact hz
theorem k_AL_add_0_0 : px_dec prog_23_method_25_code [.aload_n 0, .dup] 0 = true := by decide +kernel
theorem d_AL_add_0_2 : decode prog_23_method_25_code 2 = .ok (.getfield 63, 3) := by decide +kernel
theorem k_AL_add_0_5 : px_dec prog_23_method_25_code [.iconst 1, .iadd] 5 = true := by decide +kernel
theorem d_AL_add_0_7 : decode prog_23_method_25_code 7 = .ok (.putfield 63, 3) := by decide +kernel
theorem k_AL_add_0_10 : px_dec prog_23_method_25_code [.aload_n 0, .aload_n 1, .aload_n 0] 10 = true := by decide +kernel
theorem d_AL_add_0_13 : decode prog_23_method_25_code 13 = .ok (.getfield 9, 3) := by decide +kernel
theorem k_AL_add_0_16 : px_dec prog_23_method_25_code [.aload_n 0] 16 = true := by decide +kernel
theorem d_AL_add_0_17 : decode prog_23_method_25_code 17 = .ok (.getfield 48, 3) := by decide +kernel
theorem d_AL_add_0_20 : decode prog_23_method_25_code 20 = .ok (.invokevirtual 131, 3) := by decide +kernel
theorem k_AL_add_0_23 : px_dec prog_23_method_25_code [.iconst 1] 23 = true := by decide +kernel
theorem d_AL_add_0_24 : decode prog_23_method_25_code 24 = .ok (.ireturn, 1) := by decide +kernel
set_option maxRecDepth 100000 in
set_option maxHeartbeats 4000000 in
theorem c_AL_add_0 (l : Launch) (D : va_G) (HB : Heap) (h : hp_T) (a b n y : Nat) (f : Nat → Nat) (hL : al_ok D h a b n f) (hn : n ≤ 73) (hf : ∀ i : Nat, i < n → ob_ok h (f i)) (hy : ob_ok h y) : ct_M l y_AL_add_0 (.code y_AL_add_0 prog_23_method_25_code 2 (Option.some Jvm.ClassFile.FieldType.boolean)) ({ frames := 6, cells := 1, slots := 110, locals := 215 }) D HB [.ref a, .ref y] h (fun o h2 => o = .inl (some (.int 1)) ∧ ∃ b2 : Nat, al_ok D h2 a b2 (n + 1) (al_cat f n y) ∧ (b2 = b ∨ h b2 = none) ∧ al_fr h h2 a b) := by
  refine ct_of (by decide) (Nat.le_of_ble_eq_true rfl) rfl ?_
  intro p e s m args below meth c C hnm
  obtain ⟨md, ha, hL⟩ := hL
  refine wk_run C k_AL_add_0_0 (pc2 := 2) (lv2 := [(0, .ref a), (1, .ref y)]) (st2 := [.ref a, .ref a]) rfl ?_
  refine wk_get C fd_AL_63 ha rfl d_AL_add_0_2 ?_
  refine wk_run C k_AL_add_0_5 (pc2 := 7) (lv2 := [(0, .ref a), (1, .ref y)]) (st2 := [.int (md + 1), .ref a]) rfl ?_
  refine wk_put (fs2 := [.int (md + 1), .ref b, .int (nI n)]) C fd_AL_63 ha rfl rfl (Nat.le_of_ble_eq_true rfl) rfl d_AL_add_0_7 ?_
  refine wk_run C k_AL_add_0_10 (pc2 := 13) (lv2 := [(0, .ref a), (1, .ref y)]) (st2 := [.ref a, .ref y, .ref a]) rfl ?_
  refine wk_get C fd_AL_9 hp_us rfl d_AL_add_0_13 ?_
  refine wk_run C k_AL_add_0_16 (pc2 := 17) (lv2 := [(0, .ref a), (1, .ref y)]) (st2 := [.ref a, .ref b, .ref y, .ref a]) rfl ?_
  refine wk_get C fd_AL_48 hp_us rfl d_AL_add_0_17 ?_
  have hL2 : al_ok D (hp_up h a (.inr (7, [.int (md + 1), .ref b, .int (nI n)]))) a b n f := ⟨md + 1, hp_us, hL.imp id (fun ⟨cap, g, hb, z⟩ => ⟨cap, g, by rw [hp_un (fun z => by rw [z, ha] at hb; cases hb)]; exact hb, z⟩)⟩
  refine wk_callV (cl := ("java/util/ArrayList", T_AL, 3)) (rest := []) C (c_AL_add_1 l D HB _ a b n y f hL2 hn (fun i hi => (hf i hi).fld ha) (hy.fld ha)) cs_AL_131 kc_AL_add_1 ki_AL hp_us rfl rfl rfl (Nat.le_of_ble_eq_true rfl) (Nat.le_of_ble_eq_true rfl) (Nat.le_of_ble_eq_true rfl) (Nat.le_of_ble_eq_true rfl) (Nat.le_of_ble_eq_true rfl) d_AL_add_0_20 (fun v h2 hq => ?_) (fun _ _ z => nomatch z.1)
  obtain ⟨e1, b2, k1, k2, k3⟩ := hq; cases e1
  refine wk_run C k_AL_add_0_23 (pc2 := 24) (lv2 := [(0, .ref a), (1, .ref y)]) (st2 := [.int 1]) rfl ?_
  refine wk_zret C (by decide) ⟨rfl, b2, k1, k2.imp id (fun z => ?_), ?_⟩ (by decide) (by decide) d_AL_add_0_24
  · by_cases hz : b2 = a
    · subst hz; rw [hp_us] at z; cases z
    · rw [hp_un hz] at z; exact z
  · intro q x q1 q2 hq3
    exact k3 q x q1 q2 (by rw [hp_un q1]; exact hq3)
theorem k_AL_fastRemove_0 : px_dec prog_23_method_39_code [.aload_n 0, .dup] 0 = true := by decide +kernel
theorem d_AL_fastRemove_2 : decode prog_23_method_39_code 2 = .ok (.getfield 63, 3) := by decide +kernel
theorem k_AL_fastRemove_5 : px_dec prog_23_method_39_code [.iconst 1, .iadd] 5 = true := by decide +kernel
theorem d_AL_fastRemove_7 : decode prog_23_method_39_code 7 = .ok (.putfield 63, 3) := by decide +kernel
theorem k_AL_fastRemove_10 : px_dec prog_23_method_39_code [.aload_n 0] 10 = true := by decide +kernel
theorem d_AL_fastRemove_11 : decode prog_23_method_39_code 11 = .ok (.getfield 48, 3) := by decide +kernel
theorem k_AL_fastRemove_14 : px_dec prog_23_method_39_code [.iconst 1, .isub] 14 = true := by decide +kernel
theorem k_AL_fastRemove_16 : px_dec prog_23_method_39_code [.dup, .istore_n 3, .iload_n 2] 16 = true := by decide +kernel
theorem d_AL_fastRemove_19 : decode prog_23_method_39_code 19 = .ok (.if_icmp .le 15, 3) := by decide +kernel
theorem k_AL_fastRemove_34 : px_dec prog_23_method_39_code [.aload_n 1, .aload_n 0, .iload_n 3, .dup_x1] 34 = true := by decide +kernel
theorem d_AL_fastRemove_38 : decode prog_23_method_39_code 38 = .ok (.putfield 48, 3) := by decide +kernel
theorem k_AL_fastRemove_41 : px_dec prog_23_method_39_code [.aconst_null] 41 = true := by decide +kernel
theorem d_AL_fastRemove_42 : decode prog_23_method_39_code 42 = .ok (.aastore, 1) := by decide +kernel
theorem d_AL_fastRemove_43 : decode prog_23_method_39_code 43 = .ok (.return_, 1) := by decide +kernel
theorem k_AL_fastRemove_22 : px_dec prog_23_method_39_code [.aload_n 1, .iload_n 2, .iconst 1, .iadd, .aload_n 1, .iload_n 2, .iload_n 3, .iload_n 2, .isub] 22 = true := by decide +kernel
theorem d_AL_fastRemove_31 : decode prog_23_method_39_code 31 = .ok (.invokestatic 112, 3) := by decide +kernel
set_option maxRecDepth 100000 in
set_option maxHeartbeats 4000000 in
theorem c_AL_fastRemove (l : Launch) (D : va_G) (HB : Heap) (h : hp_T) (a b n j : Nat) (f : Nat → Nat) (hL : al_ok D h a b n f) (hj : j < n) (hf : ∀ i : Nat, i < n → ob_ok h (f i)) : ct_M l y_AL_fastRemove (.code y_AL_fastRemove prog_23_method_39_code 4 (Option.none : Option Jvm.ClassFile.FieldType)) ({ frames := 1, cells := 0, slots := 0, locals := 60 }) D HB [.ref a, .ref b, .int (nI j)] h (fun o h2 => o = .inl none ∧ al_ok D h2 a b (n - 1) (al_del f j) ∧ al_fr h h2 a b) := by
  refine ct_of (by decide) (Nat.le_of_ble_eq_true rfl) rfl ?_
  intro p e s m args below meth c C hnm
  obtain ⟨md, ha, hL⟩ := hL
  rcases hL with ⟨hn0, hb⟩ | ⟨cap, g, hb, hnc, hc2, hc1, hg⟩
  · omega
  have hne : a ≠ b := fun z => by rw [← z, ha] at hb; cases hb
  refine wk_run C k_AL_fastRemove_0 (pc2 := 2) (lv2 := [(0, .ref a), (1, .ref b), (2, .int (nI j))]) (st2 := [.ref a, .ref a]) rfl ?_
  refine wk_get C fd_AL_63 ha rfl d_AL_fastRemove_2 ?_
  refine wk_run C k_AL_fastRemove_5 (pc2 := 7) (lv2 := [(0, .ref a), (1, .ref b), (2, .int (nI j))]) (st2 := [.int (md + 1), .ref a]) rfl ?_
  refine wk_put (fs2 := [.int (md + 1), .ref b, .int (nI n)]) C fd_AL_63 ha rfl rfl (Nat.le_of_ble_eq_true rfl) rfl d_AL_fastRemove_7 ?_
  refine wk_run C k_AL_fastRemove_10 (pc2 := 11) (lv2 := [(0, .ref a), (1, .ref b), (2, .int (nI j))]) (st2 := [.ref a]) rfl ?_
  refine wk_get C fd_AL_48 hp_us rfl d_AL_fastRemove_11 ?_
  refine wk_run C k_AL_fastRemove_14 (pc2 := 16) (lv2 := [(0, .ref a), (1, .ref b), (2, .int (nI j))]) (st2 := [.int ((nI n) - 1)]) rfl ?_
  rw [show nI n - 1 = nI (n - 1) from by have := pk_sub (a := n) (b := 1) (by omega); exact this]
  have hb1 : (hp_up h a (.inr (7, [.int (md + 1), .ref b, .int (nI n)]))) b = some (.inl (D.1 102, cap, .inr (.inr (.inr (.inr g))))) := (hp_un (Ne.symm hne)).trans hb
  refine wk_run C k_AL_fastRemove_16 (pc2 := 19) (lv2 := [(3, .int (nI (n - 1))), (0, .ref a), (1, .ref b), (2, .int (nI j))]) (st2 := [.int (nI j), .int (nI (n - 1))]) rfl ?_
  refine wk_br C d_AL_fastRemove_19 (P := (nI (n - 1)) ≤ (nI j)) (tgt := 34) (rest := []) rfl (by decide) (fun c1 => ?_) (fun c1 => ?_)
  ·
    have hjn : n - 1 = j := by have := (nI_leI (by omega) (by omega)).mp c1; omega
    refine wk_run C k_AL_fastRemove_34 (pc2 := 38) (lv2 := [(3, .int (nI (n - 1))), (0, .ref a), (1, .ref b), (2, .int (nI j))]) (st2 := [.int (nI (n - 1)), .ref a, .int (nI (n - 1)), .ref b]) rfl ?_
    refine wk_put (fs2 := [.int (md + 1), .ref b, .int (nI (n - 1))]) C fd_AL_48 hp_us rfl rfl (Nat.le_of_ble_eq_true rfl) rfl d_AL_fastRemove_38 ?_
    refine Wk.he hp_uu ?_
    refine wk_run C k_AL_fastRemove_41 (pc2 := 42) (lv2 := [(3, .int (nI (n - 1))), (0, .ref a), (1, .ref b), (2, .int (nI j))]) (st2 := [.null, .int (nI (n - 1)), .ref b]) rfl ?_
    refine wk_aastN C ((hp_un (Ne.symm hne)).trans hb) (vp_in_nI (by omega) (by omega)) d_AL_fastRemove_42 ?_
    rw [nI_clamp (by omega)]
    refine wk_vret C ⟨rfl, ⟨md + 1, (hp_un hne).trans hp_us, Or.inr ⟨cap, _, hp_us, by omega, hc2, hc1, fun i hi => ?_⟩⟩, ?_⟩ (by decide) (by decide) d_AL_fastRemove_43
    · rw [va_up_ne _ _ (by omega), hg i (by omega)]; unfold al_del; rw [if_pos (by omega)]
    · intro q x q1 q2 hq3
      rw [hp_un q2, hp_un q1]; exact hq3
  ·
    have hjn : j < n - 1 := by rcases Nat.lt_or_ge j (n - 1) with z | z; exact z; exact absurd (nI_le z (by omega)) c1
    refine wk_run C k_AL_fastRemove_22 (pc2 := 31) (lv2 := [(3, .int (nI (n - 1))), (0, .ref a), (1, .ref b), (2, .int (nI j))]) (st2 := [.int ((nI (n - 1)) - (nI j)), .int (nI j), .ref b, .int ((nI j) + 1), .ref b]) rfl ?_
    rw [nI_1, pk_sub (show j ≤ n - 1 by omega)]
    refine wk_copy (n := n - 1 - j) C kp_AL kp_nt kp_st ki_SY hb1 hb1 rfl rfl rfl (by omega) (by omega) (by omega) (by omega) (fun i hi y hy => by rw [hg _ (by omega)] at hy; cases hy; exact (hf _ (by omega)).fld ha) (by decide) (by decide) d_AL_fastRemove_31 ?_
    refine wk_run C k_AL_fastRemove_34 (pc2 := 38) (lv2 := [(3, .int (nI (n - 1))), (0, .ref a), (1, .ref b), (2, .int (nI j))]) (st2 := [.int (nI (n - 1)), .ref a, .int (nI (n - 1)), .ref b]) rfl ?_
    refine wk_put (fs2 := [.int (md + 1), .ref b, .int (nI (n - 1))]) C fd_AL_48 ((hp_un hne).trans hp_us) rfl rfl (Nat.le_of_ble_eq_true rfl) rfl d_AL_fastRemove_38 ?_
    refine wk_run C k_AL_fastRemove_41 (pc2 := 42) (lv2 := [(3, .int (nI (n - 1))), (0, .ref a), (1, .ref b), (2, .int (nI j))]) (st2 := [.null, .int (nI (n - 1)), .ref b]) rfl ?_
    refine wk_aastN C ((hp_un (Ne.symm hne)).trans hp_us) (vp_in_nI (by omega) (by omega)) d_AL_fastRemove_42 ?_
    rw [nI_clamp (by omega)]
    refine wk_vret C ⟨rfl, ⟨md + 1, (hp_un hne).trans hp_us, Or.inr ⟨cap, _, hp_us, by omega, hc2, hc1, fun i hi => ?_⟩⟩, ?_⟩ (by decide) (by decide) d_AL_fastRemove_43
    · rw [va_up_ne _ _ (by omega)]
      unfold al_del
      by_cases z : i < j
      · rw [pk_cpy_out (Or.inl z), hg i (by omega), if_pos z]
      · rw [pk_cpy_in (by omega) (by omega), show j + 1 + (i - j) = i + 1 by omega, hg (i + 1) (by omega), if_neg z]
    · intro q x q1 q2 hq3
      rw [hp_un q2, hp_un q1, hp_un q2, hp_un q1]; exact hq3
theorem k_AL_remove_0 : px_dec prog_23_method_29_code [.iload_n 1, .aload_n 0] 0 = true := by decide +kernel
theorem d_AL_remove_2 : decode prog_23_method_29_code 2 = .ok (.getfield 48, 3) := by decide +kernel
theorem d_AL_remove_5 : decode prog_23_method_29_code 5 = .ok (.invokestatic 118, 3) := by decide +kernel
theorem k_AL_remove_8 : px_dec prog_23_method_29_code [.pop, .aload_n 0] 8 = true := by decide +kernel
theorem d_AL_remove_10 : decode prog_23_method_29_code 10 = .ok (.getfield 9, 3) := by decide +kernel
theorem k_AL_remove_13 : px_dec prog_23_method_29_code [.astore_n 2, .aload_n 2, .iload_n 1] 13 = true := by decide +kernel
theorem d_AL_remove_16 : decode prog_23_method_29_code 16 = .ok (.aaload, 1) := by decide +kernel
theorem k_AL_remove_17 : px_dec prog_23_method_29_code [.astore_n 3, .aload_n 0, .aload_n 2, .iload_n 1] 17 = true := by decide +kernel
theorem d_AL_remove_21 : decode prog_23_method_29_code 21 = .ok (.invokevirtual 144, 3) := by decide +kernel
theorem k_AL_remove_24 : px_dec prog_23_method_29_code [.aload_n 3] 24 = true := by decide +kernel
theorem d_AL_remove_25 : decode prog_23_method_29_code 25 = .ok (.areturn, 1) := by decide +kernel
set_option maxRecDepth 100000 in
set_option maxHeartbeats 4000000 in
theorem c_AL_remove (l : Launch) (D : va_G) (HB : Heap) (h : hp_T) (a b n j : Nat) (f : Nat → Nat) (hL : al_ok D h a b n f) (hj : j < n) (hf : ∀ i : Nat, i < n → ob_ok h (f i)) : ct_M l y_AL_remove (.code y_AL_remove prog_23_method_29_code 4 (Option.some (Jvm.ClassFile.FieldType.object "java/lang/Object"))) ({ frames := 2, cells := 0, slots := 0, locals := 83 }) D HB [.ref a, .int (nI j)] h (fun o h2 => o = .inl (some (.ref (f j))) ∧ al_ok D h2 a b (n - 1) (al_del f j) ∧ al_fr h h2 a b) := by
  refine ct_of (by decide) (Nat.le_of_ble_eq_true rfl) rfl ?_
  intro p e s m args below meth c C hnm
  obtain ⟨md, ha, hL0⟩ := id hL
  rcases hL0 with ⟨hn0, hb⟩ | ⟨cap, g, hb, hnc, hc2, hc1, hg⟩
  · omega
  refine wk_run C k_AL_remove_0 (pc2 := 2) (lv2 := [(0, .ref a), (1, .int (nI j))]) (st2 := [.ref a, .int (nI j)]) rfl ?_
  refine wk_get C fd_AL_48 ha rfl d_AL_remove_2 ?_
  refine wk_callS (rest := []) C (c_OB_checkIndex l D HB h (nI j) (nI n) (nI_pos (by omega)) (nI_lt hj (by omega))) cs_AL_118 kc_OB_checkIndex ki_OB rfl rfl (Nat.le_of_ble_eq_true rfl) (Nat.le_of_ble_eq_true rfl) (Nat.le_of_ble_eq_true rfl) (Nat.le_of_ble_eq_true rfl) (Nat.le_of_ble_eq_true rfl) d_AL_remove_5 (fun v h2 hq => ?_) (fun _ _ z => nomatch z.1)
  obtain ⟨e1, e2⟩ := hq; cases e1; subst e2
  refine wk_run C k_AL_remove_8 (pc2 := 10) (lv2 := [(0, .ref a), (1, .int (nI j))]) (st2 := [.ref a]) rfl ?_
  refine wk_get C fd_AL_9 ha rfl d_AL_remove_10 ?_
  refine wk_run C k_AL_remove_13 (pc2 := 16) (lv2 := [(2, .ref b), (0, .ref a), (1, .int (nI j))]) (st2 := [.int (nI j), .ref b]) rfl ?_
  refine wk_aald C hb (vp_in_nI (by omega) (by omega)) (y := f j) (by rw [nI_clamp (by omega)]; exact hg j hj) d_AL_remove_16 ?_
  refine wk_run C k_AL_remove_17 (pc2 := 21) (lv2 := [(3, .ref (f j)), (2, .ref b), (0, .ref a), (1, .int (nI j))]) (st2 := [.int (nI j), .ref b, .ref a]) rfl ?_
  refine wk_callV (cl := ("java/util/ArrayList", T_AL, 3)) (rest := []) C (c_AL_fastRemove l D HB h2 a b n j f hL hj hf) cs_AL_144 kc_AL_fastRemove ki_AL ha rfl rfl rfl (Nat.le_of_ble_eq_true rfl) (Nat.le_of_ble_eq_true rfl) (Nat.le_of_ble_eq_true rfl) (Nat.le_of_ble_eq_true rfl) (Nat.le_of_ble_eq_true rfl) d_AL_remove_21 (fun v h3 hq => ?_) (fun _ _ z => nomatch z.1)
  obtain ⟨e1, k1, k2⟩ := hq; cases e1
  refine wk_run C k_AL_remove_24 (pc2 := 25) (lv2 := [(3, .ref (f j)), (2, .ref b), (0, .ref a), (1, .int (nI j))]) (st2 := [.ref (f j)]) rfl ?_
  exact wk_aret C rfl (Or.inl ⟨_, rfl⟩) (Or.inr ⟨_, rfl⟩) ⟨rfl, k1, k2⟩ (by decide) (by decide) d_AL_remove_25
theorem al_size {D : va_G} {h : hp_T} {a b n : Nat} {f : Nat → Nat} (l : Launch) (HB : Heap) (hL : al_ok D h a b n f) : ct_M l y_AL_size (.code y_AL_size prog_23_method_8_code 1 (some .int)) { frames := 0, cells := 0, slots := 0, locals := 0 } D HB [.ref a] h (fun o h2 => o = .inl (some (.int (nI n))) ∧ h2 = h) := by
  obtain ⟨md, ha, -⟩ := hL
  exact c_AL_size l D HB h a md (nI n) _ ha
theorem al_get {D : va_G} {h : hp_T} {a b n j : Nat} {f : Nat → Nat} (l : Launch) (HB : Heap) (hL : al_ok D h a b n f) (hj : j < n) : ct_M l y_AL_get (.code y_AL_get prog_23_method_20_code 2 (some (.object "java/lang/Object"))) { frames := 2, cells := 0, slots := 0, locals := 43 } D HB [.ref a, .int (nI j)] h (fun o h2 => o = .inl (some (.ref (f j))) ∧ h2 = h) := by
  obtain ⟨md, ha, hL⟩ := hL
  rcases hL with ⟨hn0, -⟩ | ⟨cap, g, hb, hnc, hc2, hc1, hg⟩
  · omega
  · exact c_AL_get l D HB h a b cap (f j) md (nI n) (nI j) g ha hb (vp_in_nI (by omega) (by omega)) (by rw [nI_clamp (by omega)]; exact hg j hj) (nI_pos (by omega)) (nI_lt hj (by omega))
end
section
section LP
variable {p : Program} {l : Launch} {e : Env} {R : Room} {s : State} {m : MethodId} {args : Array Value} {below : List Frame} {meth : Method} {c : Code} {Q : State → Prop} {nL : Nat} {D : va_G} {HB : Heap} {cells slots pc : Nat} {st : List Value}
/-- a loop, by a measure -/
theorem wk_ind {σ : Type} {hF : σ → hp_T} {lvF : σ → List (Nat × Value)} (μ : σ → Nat) (P : σ → Prop)
    (step : ∀ a, P a → (∀ b, P b → μ b < μ a → Wk p l e R s m args below meth c nL D HB Q (hF b) cells slots pc (lvF b) st) → Wk p l e R s m args below meth c nL D HB Q (hF a) cells slots pc (lvF a) st) : ∀ a, P a → Wk p l e R s m args below meth c nL D HB Q (hF a) cells slots pc (lvF a) st := by
  have key : ∀ (k : Nat) (a : σ), μ a < k → P a → Wk p l e R s m args below meth c nL D HB Q (hF a) cells slots pc (lvF a) st := by
    intro k
    induction k with
    | zero => intro a ha; omega
    | succ k ih => intro a ha hp; exact step a hp (fun b hb hlt => ih b (by omega) hb)
  exact fun a ha => key (μ a + 1) a (by omega) ha
/-- a loop that counts up to n -/
theorem wk_up {hF : Nat → hp_T} {lvF : Nat → List (Nat × Value)} (n : Nat) (step : ∀ i, i < n → Wk p l e R s m args below meth c nL D HB Q (hF (i + 1)) cells slots pc (lvF (i + 1)) st → Wk p l e R s m args below meth c nL D HB Q (hF i) cells slots pc (lvF i) st)
    (fin : Wk p l e R s m args below meth c nL D HB Q (hF n) cells slots pc (lvF n) st) : ∀ i, i ≤ n → Wk p l e R s m args below meth c nL D HB Q (hF i) cells slots pc (lvF i) st := by
  intro i hi
  have key : ∀ k i, i + k = n → Wk p l e R s m args below meth c nL D HB Q (hF i) cells slots pc (lvF i) st := by
    intro k
    induction k with
    | zero => intro i hi; have : i = n := by omega
              subst this; exact fin
    | succ k ih => intro i hi; exact step i (by omega) (ih (i + 1) (by omega))
  exact key (n - i) i (by omega)
end LP
/-! names: a row of characters; which of them are wild; how many aren't; how many stand ahead of the first wild one -/
def nm_w (c : Int32) : Prop := c = 37 ∨ c = 42
theorem nm_w_dec (c : Int32) : nm_w c ∨ ¬ nm_w c := Classical.em _
noncomputable def nm_s (f : Nat → Int32) : Nat → Nat
  | 0 => 0
  | n + 1 => nm_s f n + (if f n = 37 ∨ f n = 42 then 0 else 1)
noncomputable def nm_a (f : Nat → Int32) : Nat → Nat
  | 0 => 0
  | n + 1 => nm_a f n + (if f n = 37 ∨ f n = 42 then 0 else if nm_s f n = n then 1 else 0)
theorem nm_s_le (f : Nat → Int32) (n : Nat) : nm_s f n ≤ n := by
  induction n with
  | zero => exact Nat.le_refl _
  | succ n ih => unfold nm_s; split <;> omega
theorem nm_a_le (f : Nat → Int32) (n : Nat) : nm_a f n ≤ n := by
  induction n with
  | zero => exact Nat.le_refl _
  | succ n ih => unfold nm_a; split
                 · omega
                 · split <;> omega
theorem nm_s_cg {f g : Nat → Int32} {n : Nat} (h : ∀ k, k < n → f k = g k) : nm_s f n = nm_s g n := by
  induction n with
  | zero => rfl
  | succ n ih => unfold nm_s; rw [ih (fun k hk => h k (by omega)), h n (by omega)]
theorem nm_a_cg {f g : Nat → Int32} {n : Nat} (h : ∀ k, k < n → f k = g k) : nm_a f n = nm_a g n := by
  induction n with
  | zero => rfl
  | succ n ih => unfold nm_a; rw [ih (fun k hk => h k (by omega)), h n (by omega), nm_s_cg (fun k hk => h k (by omega))]
/-- the Name at a, its characters at c: n of them, the k-th one f k -/
def nm_ok (D : va_G) (h : hp_T) (a c n : Nat) (f : Nat → Int32) : Prop := h a = some (.inr (3, [.ref c, .int (nI n), .int (nI (nm_s f n)), .int (nI (nm_a f n))])) ∧ (∃ g : Nat → Int32, h c = some (.inl (D.1 100, 20, .inl g)) ∧ ∀ k, k < n → g k = f k) ∧ n ≤ 20
end
section
theorem k_NM_init_0 : px_dec prog_4_method_1_code [.aload_n 0] 0 = true := by decide +kernel
theorem d_NM_init_1 : decode prog_4_method_1_code 1 = .ok (.invokespecial 3, 3) := by decide +kernel
theorem k_NM_init_4 : px_dec prog_4_method_1_code [.aload_n 0, .bipush 20] 4 = true := by decide +kernel
theorem d_NM_init_7 : decode prog_4_method_1_code 7 = .ok (.newarray .int, 2) := by decide +kernel
theorem d_NM_init_9 : decode prog_4_method_1_code 9 = .ok (.putfield 9, 3) := by decide +kernel
theorem k_NM_init_12 : px_dec prog_4_method_1_code [.aload_n 0, .iconst 0] 12 = true := by decide +kernel
theorem d_NM_init_14 : decode prog_4_method_1_code 14 = .ok (.putfield 15, 3) := by decide +kernel
theorem k_NM_init_17 : px_dec prog_4_method_1_code [.aload_n 0, .iconst 0] 17 = true := by decide +kernel
theorem d_NM_init_19 : decode prog_4_method_1_code 19 = .ok (.putfield 19, 3) := by decide +kernel
theorem k_NM_init_22 : px_dec prog_4_method_1_code [.aload_n 0, .iconst 0] 22 = true := by decide +kernel
theorem d_NM_init_24 : decode prog_4_method_1_code 24 = .ok (.putfield 22, 3) := by decide +kernel
theorem d_NM_init_27 : decode prog_4_method_1_code 27 = .ok (.return_, 1) := by decide +kernel
set_option maxRecDepth 100000 in
set_option maxHeartbeats 4000000 in
theorem c_NM_init (l : Launch) (D : va_G) (HB : Heap) (h : hp_T) (a : Nat) (f1 f2 f3 : Int32) (ha : h a = some (.inr (3, [.null, .int f1, .int f2, .int f3]))) : ct_M l y_NM_init (.code y_NM_init prog_4_method_1_code 1 (Option.none : Option Jvm.ClassFile.FieldType)) ({ frames := 1, cells := 1, slots := 20, locals := 14 }) D HB [.ref a] h (fun o h2 => o = .inl none ∧ ∃ q : Nat, h q = none ∧ h2 = hp_up (hp_up h q (.inl (D.1 100, 20, .inl (fun _ => 0)))) a (.inr (3, [.ref q, .int 0, .int 0, .int 0]))) := by
  refine ct_of (by decide) (Nat.le_of_ble_eq_true rfl) rfl ?_
  intro p_ e_ s_ m_ r_ b_ t_ c_ C hnm
  refine wk_run C k_NM_init_0 (pc2 := 1) (lv2 := [(0, .ref a)]) (st2 := [.ref a]) rfl ?_
  refine wk_obj C ml_NM_3 kj_in kj_cd (by decide) (by decide) d_NM_init_1 ?_
  refine wk_run C k_NM_init_4 (pc2 := 7) (lv2 := [(0, .ref a)]) (st2 := [.int 20, .ref a]) rfl ?_
  refine wk_newi (N := 20) C ka_int rfl (by decide) (by decide) (by decide) d_NM_init_7 (fun q hq => ?_)
  refine wk_putF (fs2 := [.ref q, .int f1, .int f2, .int f3]) C ff_NM_9 hnm ((hp_un (hp_ne ha hq)).trans ha) rfl rfl (Nat.le_of_ble_eq_true rfl) rfl d_NM_init_9 ?_
  refine wk_run C k_NM_init_12 (pc2 := 14) (lv2 := [(0, .ref a)]) (st2 := [.int 0, .ref a]) rfl ?_
  refine wk_put (fs2 := [.ref q, .int 0, .int f2, .int f3]) C fd_NM_15 hp_us rfl rfl (Nat.le_of_ble_eq_true rfl) rfl d_NM_init_14 ?_
  refine Wk.he hp_uu ?_
  refine wk_run C k_NM_init_17 (pc2 := 19) (lv2 := [(0, .ref a)]) (st2 := [.int 0, .ref a]) rfl ?_
  refine wk_put (fs2 := [.ref q, .int 0, .int 0, .int f3]) C fd_NM_19 hp_us rfl rfl (Nat.le_of_ble_eq_true rfl) rfl d_NM_init_19 ?_
  refine Wk.he hp_uu ?_
  refine wk_run C k_NM_init_22 (pc2 := 24) (lv2 := [(0, .ref a)]) (st2 := [.int 0, .ref a]) rfl ?_
  refine wk_put (fs2 := [.ref q, .int 0, .int 0, .int 0]) C fd_NM_22 hp_us rfl rfl (Nat.le_of_ble_eq_true rfl) rfl d_NM_init_24 ?_
  refine Wk.he hp_uu ?_
  exact wk_vret C ⟨rfl, q, hq, rfl⟩ (by decide) (by decide) d_NM_init_27
theorem k_NM_isFull_0 : px_dec prog_4_method_2_code [.aload_n 0] 0 = true := by decide +kernel
theorem d_NM_isFull_1 : decode prog_4_method_2_code 1 = .ok (.getfield 15, 3) := by decide +kernel
theorem k_NM_isFull_4 : px_dec prog_4_method_2_code [.bipush 20] 4 = true := by decide +kernel
theorem d_NM_isFull_6 : decode prog_4_method_2_code 6 = .ok (.if_icmp .lt 7, 3) := by decide +kernel
theorem k_NM_isFull_13 : px_dec prog_4_method_2_code [.iconst 0] 13 = true := by decide +kernel
theorem d_NM_isFull_14 : decode prog_4_method_2_code 14 = .ok (.ireturn, 1) := by decide +kernel
theorem k_NM_isFull_9 : px_dec prog_4_method_2_code [.iconst 1] 9 = true := by decide +kernel
theorem d_NM_isFull_10 : decode prog_4_method_2_code 10 = .ok (.goto 4, 3) := by decide +kernel
set_option maxRecDepth 100000 in
set_option maxHeartbeats 4000000 in
theorem c_NM_isFull (l : Launch) (D : va_G) (HB : Heap) (h : hp_T) (a c : Nat) (f1 f2 f3 : Int32) (ha : h a = some (.inr (3, [.ref c, .int f1, .int f2, .int f3]))) : ct_M l y_NM_isFull (.code y_NM_isFull prog_4_method_2_code 1 (Option.some Jvm.ClassFile.FieldType.boolean)) ({ frames := 0, cells := 0, slots := 0, locals := 0 }) D HB [.ref a] h (fun o h2 => o = .inl (some (.int (if 20 ≤ f1 then (1 : Int32) else 0))) ∧ h2 = h) := by
  refine ct_of (by decide) (Nat.le_of_ble_eq_true rfl) rfl ?_
  intro p_ e_ s_ m_ r_ b_ t_ c_ C hnm
  refine wk_run C k_NM_isFull_0 (pc2 := 1) (lv2 := [(0, .ref a)]) (st2 := [.ref a]) rfl ?_
  refine wk_get C fd_NM_15 ha rfl d_NM_isFull_1 ?_
  refine wk_run C k_NM_isFull_4 (pc2 := 6) (lv2 := [(0, .ref a)]) (st2 := [.int 20, .int f1]) rfl ?_
  refine wk_br C d_NM_isFull_6 (P := f1 < 20) (tgt := 13) (rest := []) rfl (by decide) (fun c1 => ?_) (fun c1 => ?_)
  ·
    refine wk_run C k_NM_isFull_13 (pc2 := 14) (lv2 := [(0, .ref a)]) (st2 := [.int 0]) rfl ?_
    exact wk_zret C (by decide) ⟨by rw [if_neg (fun z => absurd c1 (Int32.not_lt.mpr z))], rfl⟩ (by decide) (by decide) d_NM_isFull_14
  ·
    refine wk_run C k_NM_isFull_9 (pc2 := 10) (lv2 := [(0, .ref a)]) (st2 := [.int 1]) rfl ?_
    refine wk_goto C d_NM_isFull_10 (tgt := 14) (by decide) ?_
    exact wk_zret C (by decide) ⟨by rw [if_pos (Int32.not_lt.mp c1)], rfl⟩ (by decide) (by decide) d_NM_isFull_14
theorem k_NM_isExact_0 : px_dec prog_4_method_5_code [.aload_n 0] 0 = true := by decide +kernel
theorem d_NM_isExact_1 : decode prog_4_method_5_code 1 = .ok (.getfield 19, 3) := by decide +kernel
theorem k_NM_isExact_4 : px_dec prog_4_method_5_code [.aload_n 0] 4 = true := by decide +kernel
theorem d_NM_isExact_5 : decode prog_4_method_5_code 5 = .ok (.getfield 15, 3) := by decide +kernel
theorem d_NM_isExact_8 : decode prog_4_method_5_code 8 = .ok (.if_icmp .ne 7, 3) := by decide +kernel
theorem k_NM_isExact_15 : px_dec prog_4_method_5_code [.iconst 0] 15 = true := by decide +kernel
theorem d_NM_isExact_16 : decode prog_4_method_5_code 16 = .ok (.ireturn, 1) := by decide +kernel
theorem k_NM_isExact_11 : px_dec prog_4_method_5_code [.iconst 1] 11 = true := by decide +kernel
theorem d_NM_isExact_12 : decode prog_4_method_5_code 12 = .ok (.goto 4, 3) := by decide +kernel
set_option maxRecDepth 100000 in
set_option maxHeartbeats 4000000 in
theorem c_NM_isExact (l : Launch) (D : va_G) (HB : Heap) (h : hp_T) (a c : Nat) (f1 f2 f3 : Int32) (ha : h a = some (.inr (3, [.ref c, .int f1, .int f2, .int f3]))) : ct_M l y_NM_isExact (.code y_NM_isExact prog_4_method_5_code 1 (Option.some Jvm.ClassFile.FieldType.boolean)) ({ frames := 0, cells := 0, slots := 0, locals := 0 }) D HB [.ref a] h (fun o h2 => o = .inl (some (.int (if f2 = f1 then (1 : Int32) else 0))) ∧ h2 = h) := by
  refine ct_of (by decide) (Nat.le_of_ble_eq_true rfl) rfl ?_
  intro p_ e_ s_ m_ r_ b_ t_ c_ C hnm
  refine wk_run C k_NM_isExact_0 (pc2 := 1) (lv2 := [(0, .ref a)]) (st2 := [.ref a]) rfl ?_
  refine wk_get C fd_NM_19 ha rfl d_NM_isExact_1 ?_
  refine wk_run C k_NM_isExact_4 (pc2 := 5) (lv2 := [(0, .ref a)]) (st2 := [.ref a, .int f2]) rfl ?_
  refine wk_get C fd_NM_15 ha rfl d_NM_isExact_5 ?_
  refine wk_br C d_NM_isExact_8 (P := ¬ f2 = f1) (tgt := 15) (rest := []) rfl (by decide) (fun c1 => ?_) (fun c1 => ?_)
  ·
    refine wk_run C k_NM_isExact_15 (pc2 := 16) (lv2 := [(0, .ref a)]) (st2 := [.int 0]) rfl ?_
    exact wk_zret C (by decide) ⟨by rw [if_neg c1], rfl⟩ (by decide) (by decide) d_NM_isExact_16
  ·
    refine wk_run C k_NM_isExact_11 (pc2 := 12) (lv2 := [(0, .ref a)]) (st2 := [.int 1]) rfl ?_
    refine wk_goto C d_NM_isExact_12 (tgt := 16) (by decide) ?_
    exact wk_zret C (by decide) ⟨by rw [if_pos (Classical.not_not.mp c1)], rfl⟩ (by decide) (by decide) d_NM_isExact_16
theorem k_NM_clear_0 : px_dec prog_4_method_4_code [.aload_n 0, .iconst 0] 0 = true := by decide +kernel
theorem d_NM_clear_2 : decode prog_4_method_4_code 2 = .ok (.putfield 15, 3) := by decide +kernel
theorem k_NM_clear_5 : px_dec prog_4_method_4_code [.aload_n 0, .iconst 0] 5 = true := by decide +kernel
theorem d_NM_clear_7 : decode prog_4_method_4_code 7 = .ok (.putfield 19, 3) := by decide +kernel
theorem k_NM_clear_10 : px_dec prog_4_method_4_code [.aload_n 0, .iconst 0] 10 = true := by decide +kernel
theorem d_NM_clear_12 : decode prog_4_method_4_code 12 = .ok (.putfield 22, 3) := by decide +kernel
theorem d_NM_clear_15 : decode prog_4_method_4_code 15 = .ok (.return_, 1) := by decide +kernel
set_option maxRecDepth 100000 in
set_option maxHeartbeats 4000000 in
theorem c_NM_clear (l : Launch) (D : va_G) (HB : Heap) (h : hp_T) (a c : Nat) (f1 f2 f3 : Int32) (ha : h a = some (.inr (3, [.ref c, .int f1, .int f2, .int f3]))) : ct_M l y_NM_clear (.code y_NM_clear prog_4_method_4_code 1 (Option.none : Option Jvm.ClassFile.FieldType)) ({ frames := 0, cells := 0, slots := 0, locals := 0 }) D HB [.ref a] h (fun o h2 => o = .inl none ∧ h2 = hp_up h a (.inr (3, [.ref c, .int 0, .int 0, .int 0]))) := by
  refine ct_of (by decide) (Nat.le_of_ble_eq_true rfl) rfl ?_
  intro p_ e_ s_ m_ r_ b_ t_ c_ C hnm
  refine wk_run C k_NM_clear_0 (pc2 := 2) (lv2 := [(0, .ref a)]) (st2 := [.int 0, .ref a]) rfl ?_
  refine wk_put (fs2 := [.ref c, .int 0, .int f2, .int f3]) C fd_NM_15 ha rfl rfl (Nat.le_of_ble_eq_true rfl) rfl d_NM_clear_2 ?_
  refine wk_run C k_NM_clear_5 (pc2 := 7) (lv2 := [(0, .ref a)]) (st2 := [.int 0, .ref a]) rfl ?_
  refine wk_put (fs2 := [.ref c, .int 0, .int 0, .int f3]) C fd_NM_19 hp_us rfl rfl (Nat.le_of_ble_eq_true rfl) rfl d_NM_clear_7 ?_
  refine Wk.he hp_uu ?_
  refine wk_run C k_NM_clear_10 (pc2 := 12) (lv2 := [(0, .ref a)]) (st2 := [.int 0, .ref a]) rfl ?_
  refine wk_put (fs2 := [.ref c, .int 0, .int 0, .int 0]) C fd_NM_22 hp_us rfl rfl (Nat.le_of_ble_eq_true rfl) rfl d_NM_clear_12 ?_
  refine Wk.he hp_uu ?_
  exact wk_vret C ⟨rfl, rfl⟩ (by decide) (by decide) d_NM_clear_15
theorem nm_push {D : va_G} {h : hp_T} {a c n : Nat} {f g : Nat → Int32} {k s2 a2 : Int32} {fs : List Value} (ha : h a = some (.inr (3, fs))) (hg : ∀ k, k < n → g k = f k) (hn : n < 20) (e1 : s2 = nI (nm_s (upd f n k) (n + 1))) (e2 : a2 = nI (nm_a (upd f n k) (n + 1))) (hc : h c = some (.inl (D.1 100, 20, .inl g))) :
    nm_ok D (hp_up (hp_up h c (.inl (D.1 100, 20, .inl (upd g n k)))) a (.inr (3, [.ref c, .int (nI (n + 1)), .int s2, .int a2]))) a c (n + 1) (upd f n k) := by
  have hne : c ≠ a := fun z => by rw [z, ha] at hc; cases hc
  refine ⟨by rw [e1, e2]; exact hp_us, ⟨upd g n k, by rw [hp_un hne]; exact hp_us, fun j hj => ?_⟩, by omega⟩
  by_cases z : j = n
  · subst z; rw [pk_us, pk_us]
  · rw [pk_un z, pk_un z]; exact hg j (by omega)
theorem nm_s_up {f : Nat → Int32} {n : Nat} {k : Int32} : nm_s (upd f n k) (n + 1) = nm_s f n + (if k = 37 ∨ k = 42 then 0 else 1) := by
  show nm_s (upd f n k) n + _ = _
  rw [nm_s_cg (g := f) (fun j hj => pk_un (by omega)), pk_us]
theorem nm_a_up {f : Nat → Int32} {n : Nat} {k : Int32} : nm_a (upd f n k) (n + 1) = nm_a f n + (if k = 37 ∨ k = 42 then 0 else if nm_s f n = n then 1 else 0) := by
  show nm_a (upd f n k) n + _ = _
  rw [nm_a_cg (g := f) (fun j hj => pk_un (by omega)), nm_s_cg (g := f) (fun j hj => pk_un (by omega)), pk_us]

theorem k_NM_append_0 : px_dec prog_4_method_3_code [.aload_n 0] 0 = true := by decide +kernel
theorem d_NM_append_1 : decode prog_4_method_3_code 1 = .ok (.invokevirtual 25, 3) := by decide +kernel
theorem d_NM_append_4 : decode prog_4_method_3_code 4 = .ok (.ifCond .eq 4, 3) := by decide +kernel
theorem d_NM_append_7 : decode prog_4_method_3_code 7 = .ok (.return_, 1) := by decide +kernel
theorem k_NM_append_8 : px_dec prog_4_method_3_code [.iload_n 1, .bipush 37] 8 = true := by decide +kernel
theorem d_NM_append_11 : decode prog_4_method_3_code 11 = .ok (.if_icmp .eq 40, 3) := by decide +kernel
theorem k_NM_append_51 : px_dec prog_4_method_3_code [.aload_n 0] 51 = true := by decide +kernel
theorem d_NM_append_52 : decode prog_4_method_3_code 52 = .ok (.getfield 9, 3) := by decide +kernel
theorem k_NM_append_55 : px_dec prog_4_method_3_code [.aload_n 0] 55 = true := by decide +kernel
theorem d_NM_append_56 : decode prog_4_method_3_code 56 = .ok (.getfield 15, 3) := by decide +kernel
theorem k_NM_append_59 : px_dec prog_4_method_3_code [.iload_n 1] 59 = true := by decide +kernel
theorem d_NM_append_60 : decode prog_4_method_3_code 60 = .ok (.iastore, 1) := by decide +kernel
theorem k_NM_append_61 : px_dec prog_4_method_3_code [.aload_n 0, .dup] 61 = true := by decide +kernel
theorem d_NM_append_63 : decode prog_4_method_3_code 63 = .ok (.getfield 15, 3) := by decide +kernel
theorem k_NM_append_66 : px_dec prog_4_method_3_code [.iconst 1, .iadd] 66 = true := by decide +kernel
theorem d_NM_append_68 : decode prog_4_method_3_code 68 = .ok (.putfield 15, 3) := by decide +kernel
theorem d_NM_append_71 : decode prog_4_method_3_code 71 = .ok (.return_, 1) := by decide +kernel
theorem k_NM_append_14 : px_dec prog_4_method_3_code [.iload_n 1, .bipush 42] 14 = true := by decide +kernel
theorem d_NM_append_17 : decode prog_4_method_3_code 17 = .ok (.if_icmp .eq 34, 3) := by decide +kernel
theorem k_NM_append_20 : px_dec prog_4_method_3_code [.aload_n 0, .dup] 20 = true := by decide +kernel
theorem d_NM_append_22 : decode prog_4_method_3_code 22 = .ok (.getfield 22, 3) := by decide +kernel
theorem k_NM_append_25 : px_dec prog_4_method_3_code [.aload_n 0] 25 = true := by decide +kernel
theorem d_NM_append_26 : decode prog_4_method_3_code 26 = .ok (.invokevirtual 29, 3) := by decide +kernel
theorem d_NM_append_29 : decode prog_4_method_3_code 29 = .ok (.ifCond .eq 7, 3) := by decide +kernel
theorem k_NM_append_32 : px_dec prog_4_method_3_code [.iconst 1] 32 = true := by decide +kernel
theorem d_NM_append_33 : decode prog_4_method_3_code 33 = .ok (.goto 4, 3) := by decide +kernel
theorem k_NM_append_37 : px_dec prog_4_method_3_code [.iadd] 37 = true := by decide +kernel
theorem d_NM_append_38 : decode prog_4_method_3_code 38 = .ok (.putfield 22, 3) := by decide +kernel
theorem k_NM_append_41 : px_dec prog_4_method_3_code [.aload_n 0, .dup] 41 = true := by decide +kernel
theorem d_NM_append_43 : decode prog_4_method_3_code 43 = .ok (.getfield 19, 3) := by decide +kernel
theorem k_NM_append_46 : px_dec prog_4_method_3_code [.iconst 1, .iadd] 46 = true := by decide +kernel
theorem d_NM_append_48 : decode prog_4_method_3_code 48 = .ok (.putfield 19, 3) := by decide +kernel
theorem k_NM_append_36 : px_dec prog_4_method_3_code [.iconst 0, .iadd] 36 = true := by decide +kernel
set_option maxRecDepth 100000 in
set_option maxHeartbeats 4000000 in
theorem c_NM_append (l : Launch) (D : va_G) (HB : Heap) (h : hp_T) (a c n : Nat) (f : Nat → Int32) (k : Int32) (hN : nm_ok D h a c n f) : ct_M l y_NM_append (.code y_NM_append prog_4_method_3_code 2 (Option.none : Option Jvm.ClassFile.FieldType)) ({ frames := 1, cells := 0, slots := 0, locals := 20 }) D HB [.ref a, .int k] h (fun o h2 => o = .inl none ∧ (n < 20 → nm_ok D h2 a c (n + 1) (upd f n k)) ∧ (¬ n < 20 → h2 = h) ∧ al_fr h h2 a c) := by
  refine ct_of (by decide) (Nat.le_of_ble_eq_true rfl) rfl ?_
  intro p_ e_ s_ m_ r_ b_ t_ c_ C hnm
  obtain ⟨ha, ⟨g, hc, hg⟩, hn⟩ := hN
  have hs := nm_s_le f n
  have hh := nm_a_le f n
  have hca : a ≠ c := fun z => by rw [← z, ha] at hc; cases hc
  refine wk_run C k_NM_append_0 (pc2 := 1) (lv2 := [(0, .ref a), (1, .int k)]) (st2 := [.ref a]) rfl ?_
  refine wk_callV (cl := ("ProfileRights$Name", T_NM, 4)) (rest := []) C (c_NM_isFull l D HB h a c _ _ _ ha) cs_NM_25 kc_NM_isFull ki_NM ha rfl rfl rfl (Nat.le_of_ble_eq_true rfl) (Nat.le_of_ble_eq_true rfl) (Nat.le_of_ble_eq_true rfl) (Nat.le_of_ble_eq_true rfl) (Nat.le_of_ble_eq_true rfl) d_NM_append_1 (fun v h2 hq => ?_) (fun _ _ z => nomatch z.1)
  obtain ⟨e1, e2⟩ := hq; cases e1; replace e2 := e2.symm; subst e2
  refine wk_br C d_NM_append_4 (P := (if 20 ≤ nI n then (1 : Int32) else 0) = 0) (tgt := 8) (rest := []) rfl (by decide) (fun c1 => ?_) (fun c1 => ?_)
  rotate_left
  ·
    have h20 : ¬ n < 20 := fun z => c1 (by rw [if_neg (show ¬ (20 : Int32) ≤ nI n from nI_ge z (by decide))])
    exact wk_vret C ⟨rfl, fun z => absurd z h20, fun _ => rfl, fun _ _ _ _ z => z⟩ (by decide) (by decide) d_NM_append_7
  ·
    have h20 : n < 20 := by rcases Nat.lt_or_ge n 20 with z | z; exact z; exact absurd c1 (by rw [if_pos (show (20 : Int32) ≤ nI n from nI_le z (by omega))]; decide)
    refine wk_run C k_NM_append_8 (pc2 := 11) (lv2 := [(0, .ref a), (1, .int k)]) (st2 := [.int 37, .int k]) rfl ?_
    refine wk_br C d_NM_append_11 (P := k = 37) (tgt := 51) (rest := []) rfl (by decide) (fun d1 => ?_) (fun d1 => ?_)
    ·
      refine wk_run C k_NM_append_51 (pc2 := 52) (lv2 := [(0, .ref a), (1, .int k)]) (st2 := [.ref a]) rfl ?_
      refine wk_get C fd_NM_9 ha rfl d_NM_append_52 ?_
      refine wk_run C k_NM_append_55 (pc2 := 56) (lv2 := [(0, .ref a), (1, .int k)]) (st2 := [.ref a, .ref c]) rfl ?_
      refine wk_get C fd_NM_15 ha rfl d_NM_append_56 ?_
      refine wk_run C k_NM_append_59 (pc2 := 60) (lv2 := [(0, .ref a), (1, .int k)]) (st2 := [.int k, .int (nI n), .ref c]) rfl ?_
      refine wk_iast C hc (vp_in_nI h20 (by omega)) d_NM_append_60 ?_
      rw [nI_clamp (by omega)]
      refine wk_run C k_NM_append_61 (pc2 := 63) (lv2 := [(0, .ref a), (1, .int k)]) (st2 := [.ref a, .ref a]) rfl ?_
      refine wk_get C fd_NM_15 ((hp_un hca).trans ha) rfl d_NM_append_63 ?_
      refine wk_run C k_NM_append_66 (pc2 := 68) (lv2 := [(0, .ref a), (1, .int k)]) (st2 := [.int ((nI n) + 1), .ref a]) rfl ?_
      refine wk_put (fs2 := [.ref c, .int (nI n + 1), .int (nI (nm_s f n)), .int (nI (nm_a f n))]) C fd_NM_15 ((hp_un hca).trans ha) rfl rfl (Nat.le_of_ble_eq_true rfl) rfl d_NM_append_68 ?_
      refine wk_vret C ⟨rfl, fun _ => ?_, fun z => absurd h20 z, ?_⟩ (by decide) (by decide) d_NM_append_71
      · rw [nI_1 n]; exact nm_push ha hg h20 (by rw [nm_s_up, if_pos (Or.inl d1)]; rfl) (by rw [nm_a_up, if_pos (Or.inl d1)]; rfl) hc
      · intro q x q1 q2 hq; rw [hp_un q1, hp_un q2]; exact hq
    ·
      refine wk_run C k_NM_append_14 (pc2 := 17) (lv2 := [(0, .ref a), (1, .int k)]) (st2 := [.int 42, .int k]) rfl ?_
      refine wk_br C d_NM_append_17 (P := k = 42) (tgt := 51) (rest := []) rfl (by decide) (fun d2 => ?_) (fun d2 => ?_)
      ·
        refine wk_run C k_NM_append_51 (pc2 := 52) (lv2 := [(0, .ref a), (1, .int k)]) (st2 := [.ref a]) rfl ?_
        refine wk_get C fd_NM_9 ha rfl d_NM_append_52 ?_
        refine wk_run C k_NM_append_55 (pc2 := 56) (lv2 := [(0, .ref a), (1, .int k)]) (st2 := [.ref a, .ref c]) rfl ?_
        refine wk_get C fd_NM_15 ha rfl d_NM_append_56 ?_
        refine wk_run C k_NM_append_59 (pc2 := 60) (lv2 := [(0, .ref a), (1, .int k)]) (st2 := [.int k, .int (nI n), .ref c]) rfl ?_
        refine wk_iast C hc (vp_in_nI h20 (by omega)) d_NM_append_60 ?_
        rw [nI_clamp (by omega)]
        refine wk_run C k_NM_append_61 (pc2 := 63) (lv2 := [(0, .ref a), (1, .int k)]) (st2 := [.ref a, .ref a]) rfl ?_
        refine wk_get C fd_NM_15 ((hp_un hca).trans ha) rfl d_NM_append_63 ?_
        refine wk_run C k_NM_append_66 (pc2 := 68) (lv2 := [(0, .ref a), (1, .int k)]) (st2 := [.int ((nI n) + 1), .ref a]) rfl ?_
        refine wk_put (fs2 := [.ref c, .int (nI n + 1), .int (nI (nm_s f n)), .int (nI (nm_a f n))]) C fd_NM_15 ((hp_un hca).trans ha) rfl rfl (Nat.le_of_ble_eq_true rfl) rfl d_NM_append_68 ?_
        refine wk_vret C ⟨rfl, fun _ => ?_, fun z => absurd h20 z, ?_⟩ (by decide) (by decide) d_NM_append_71
        · rw [nI_1 n]; exact nm_push ha hg h20 (by rw [nm_s_up, if_pos (Or.inr d2)]; rfl) (by rw [nm_a_up, if_pos (Or.inr d2)]; rfl) hc
        · intro q x q1 q2 hq; rw [hp_un q1, hp_un q2]; exact hq
      ·
        have hw : ¬ (k = 37 ∨ k = 42) := fun z => z.elim d1 d2
        refine wk_run C k_NM_append_20 (pc2 := 22) (lv2 := [(0, .ref a), (1, .int k)]) (st2 := [.ref a, .ref a]) rfl ?_
        refine wk_get C fd_NM_22 ha rfl d_NM_append_22 ?_
        refine wk_run C k_NM_append_25 (pc2 := 26) (lv2 := [(0, .ref a), (1, .int k)]) (st2 := [.ref a, .int (nI (nm_a f n)), .ref a]) rfl ?_
        refine wk_callV (cl := ("ProfileRights$Name", T_NM, 4)) (rest := [.int (nI (nm_a f n)), .ref a]) C (c_NM_isExact l D HB h a c _ _ _ ha) cs_NM_29 kc_NM_isExact ki_NM ha rfl rfl rfl (Nat.le_of_ble_eq_true rfl) (Nat.le_of_ble_eq_true rfl) (Nat.le_of_ble_eq_true rfl) (Nat.le_of_ble_eq_true rfl) (Nat.le_of_ble_eq_true rfl) d_NM_append_26 (fun v h3 hq => ?_) (fun _ _ z => nomatch z.1)
        obtain ⟨e1, e2⟩ := hq; cases e1; replace e2 := e2.symm; subst e2
        refine wk_br C d_NM_append_29 (P := (if nI (nm_s f n) = nI n then (1 : Int32) else 0) = 0) (tgt := 36) (rest := [.int (nI (nm_a f n)), .ref a]) rfl (by decide) (fun d3 => ?_) (fun d3 => ?_)
        rotate_left
        ·
          have hx : nm_s f n = n := Classical.byContradiction (fun z => d3 (if_neg (fun y => z ((nI_eq (by omega) (by omega)).mp y))))
          refine wk_run C k_NM_append_32 (pc2 := 33) (lv2 := [(0, .ref a), (1, .int k)]) (st2 := [.int 1, .int (nI (nm_a f n)), .ref a]) rfl ?_
          refine wk_goto C d_NM_append_33 (tgt := 37) (by decide) ?_
          refine wk_run C k_NM_append_37 (pc2 := 38) (lv2 := [(0, .ref a), (1, .int k)]) (st2 := [.int ((nI (nm_a f n)) + 1), .ref a]) rfl ?_
          refine wk_put (fs2 := [.ref c, .int (nI n), .int (nI (nm_s f n)), .int (nI (nm_a f n) + 1)]) C fd_NM_22 ha rfl rfl (Nat.le_of_ble_eq_true rfl) rfl d_NM_append_38 ?_
          refine wk_run C k_NM_append_41 (pc2 := 43) (lv2 := [(0, .ref a), (1, .int k)]) (st2 := [.ref a, .ref a]) rfl ?_
          refine wk_get C fd_NM_19 hp_us rfl d_NM_append_43 ?_
          refine wk_run C k_NM_append_46 (pc2 := 48) (lv2 := [(0, .ref a), (1, .int k)]) (st2 := [.int ((nI (nm_s f n)) + 1), .ref a]) rfl ?_
          refine wk_put (fs2 := [.ref c, .int (nI n), .int (nI (nm_s f n) + 1), .int (nI (nm_a f n) + 1)]) C fd_NM_19 hp_us rfl rfl (Nat.le_of_ble_eq_true rfl) rfl d_NM_append_48 ?_
          refine Wk.he hp_uu ?_
          refine wk_run C k_NM_append_51 (pc2 := 52) (lv2 := [(0, .ref a), (1, .int k)]) (st2 := [.ref a]) rfl ?_
          refine wk_get C fd_NM_9 hp_us rfl d_NM_append_52 ?_
          refine wk_run C k_NM_append_55 (pc2 := 56) (lv2 := [(0, .ref a), (1, .int k)]) (st2 := [.ref a, .ref c]) rfl ?_
          refine wk_get C fd_NM_15 hp_us rfl d_NM_append_56 ?_
          refine wk_run C k_NM_append_59 (pc2 := 60) (lv2 := [(0, .ref a), (1, .int k)]) (st2 := [.int k, .int (nI n), .ref c]) rfl ?_
          refine wk_iast C ((hp_un (Ne.symm hca)).trans hc) (vp_in_nI h20 (by omega)) d_NM_append_60 ?_
          rw [nI_clamp (by omega)]
          refine wk_run C k_NM_append_61 (pc2 := 63) (lv2 := [(0, .ref a), (1, .int k)]) (st2 := [.ref a, .ref a]) rfl ?_
          refine wk_get C fd_NM_15 ((hp_un hca).trans hp_us) rfl d_NM_append_63 ?_
          refine wk_run C k_NM_append_66 (pc2 := 68) (lv2 := [(0, .ref a), (1, .int k)]) (st2 := [.int ((nI n) + 1), .ref a]) rfl ?_
          refine wk_put (fs2 := [.ref c, .int (nI n + 1), .int (nI (nm_s f n) + 1), .int (nI (nm_a f n) + 1)]) C fd_NM_15 ((hp_un hca).trans hp_us) rfl rfl (Nat.le_of_ble_eq_true rfl) rfl d_NM_append_68 ?_
          refine wk_vret C ⟨rfl, fun _ => ?_, fun z => absurd h20 z, ?_⟩ (by decide) (by decide) d_NM_append_71
          · rw [nI_1 n]; exact nm_push hp_us hg h20 (by rw [nm_s_up, if_neg hw]; exact nI_1 _) (by rw [nm_a_up, if_neg hw, if_pos hx]; exact nI_1 _) ((hp_un (Ne.symm hca)).trans hc)
          · intro q x q1 q2 hq; rw [hp_un q1, hp_un q2, hp_un q1]; exact hq
        ·
          have hx : ¬ nm_s f n = n := fun z => absurd d3 (by rw [if_pos (by rw [z])]; decide)
          refine wk_run C k_NM_append_36 (pc2 := 38) (lv2 := [(0, .ref a), (1, .int k)]) (st2 := [.int ((nI (nm_a f n)) + 0), .ref a]) rfl ?_
          refine wk_put (fs2 := [.ref c, .int (nI n), .int (nI (nm_s f n)), .int (nI (nm_a f n) + 0)]) C fd_NM_22 ha rfl rfl (Nat.le_of_ble_eq_true rfl) rfl d_NM_append_38 ?_
          refine wk_run C k_NM_append_41 (pc2 := 43) (lv2 := [(0, .ref a), (1, .int k)]) (st2 := [.ref a, .ref a]) rfl ?_
          refine wk_get C fd_NM_19 hp_us rfl d_NM_append_43 ?_
          refine wk_run C k_NM_append_46 (pc2 := 48) (lv2 := [(0, .ref a), (1, .int k)]) (st2 := [.int ((nI (nm_s f n)) + 1), .ref a]) rfl ?_
          refine wk_put (fs2 := [.ref c, .int (nI n), .int (nI (nm_s f n) + 1), .int (nI (nm_a f n) + 0)]) C fd_NM_19 hp_us rfl rfl (Nat.le_of_ble_eq_true rfl) rfl d_NM_append_48 ?_
          refine Wk.he hp_uu ?_
          refine wk_run C k_NM_append_51 (pc2 := 52) (lv2 := [(0, .ref a), (1, .int k)]) (st2 := [.ref a]) rfl ?_
          refine wk_get C fd_NM_9 hp_us rfl d_NM_append_52 ?_
          refine wk_run C k_NM_append_55 (pc2 := 56) (lv2 := [(0, .ref a), (1, .int k)]) (st2 := [.ref a, .ref c]) rfl ?_
          refine wk_get C fd_NM_15 hp_us rfl d_NM_append_56 ?_
          refine wk_run C k_NM_append_59 (pc2 := 60) (lv2 := [(0, .ref a), (1, .int k)]) (st2 := [.int k, .int (nI n), .ref c]) rfl ?_
          refine wk_iast C ((hp_un (Ne.symm hca)).trans hc) (vp_in_nI h20 (by omega)) d_NM_append_60 ?_
          rw [nI_clamp (by omega)]
          refine wk_run C k_NM_append_61 (pc2 := 63) (lv2 := [(0, .ref a), (1, .int k)]) (st2 := [.ref a, .ref a]) rfl ?_
          refine wk_get C fd_NM_15 ((hp_un hca).trans hp_us) rfl d_NM_append_63 ?_
          refine wk_run C k_NM_append_66 (pc2 := 68) (lv2 := [(0, .ref a), (1, .int k)]) (st2 := [.int ((nI n) + 1), .ref a]) rfl ?_
          refine wk_put (fs2 := [.ref c, .int (nI n + 1), .int (nI (nm_s f n) + 1), .int (nI (nm_a f n) + 0)]) C fd_NM_15 ((hp_un hca).trans hp_us) rfl rfl (Nat.le_of_ble_eq_true rfl) rfl d_NM_append_68 ?_
          refine wk_vret C ⟨rfl, fun _ => ?_, fun z => absurd h20 z, ?_⟩ (by decide) (by decide) d_NM_append_71
          · rw [nI_1 n]; exact nm_push hp_us hg h20 (by rw [nm_s_up, if_neg hw]; exact nI_1 _) (by rw [nm_a_up, if_neg hw, if_neg hx]; show nI (nm_a f n) + nI 0 = _; exact nI_add _ _) ((hp_un (Ne.symm hca)).trans hc)
          · intro q x q1 q2 hq; rw [hp_un q1, hp_un q2, hp_un q1]; exact hq
end
section
theorem k_PR_testTerminal_0 : px_dec prog_1_method_28_code [.iload_n 0] 0 = true := by decide +kernel
theorem d_PR_testTerminal_1 : decode prog_1_method_28_code 1 = .ok (.ifCond .lt 9, 3) := by decide +kernel
theorem d_PR_testTerminal_10 : decode prog_1_method_28_code 10 = .ok (.new 105, 3) := by decide +kernel
theorem d_PR_testTerminal_13 : decode prog_1_method_28_code 13 = .ok (.dup, 1) := by decide +kernel
theorem d_PR_testTerminal_14 : decode prog_1_method_28_code 14 = .ok (.ldc 233, 2) := by decide +kernel
theorem d_PR_testTerminal_16 : decode prog_1_method_28_code 16 = .ok (.invokespecial 109, 3) := by decide +kernel
theorem d_PR_testTerminal_19 : decode prog_1_method_28_code 19 = .ok (.athrow, 1) := by decide +kernel
theorem k_PR_testTerminal_4 : px_dec prog_1_method_28_code [.iload_n 0, .bipush 99] 4 = true := by decide +kernel
theorem d_PR_testTerminal_7 : decode prog_1_method_28_code 7 = .ok (.if_icmp .le 13, 3) := by decide +kernel
theorem d_PR_testTerminal_20 : decode prog_1_method_28_code 20 = .ok (.return_, 1) := by decide +kernel
set_option maxRecDepth 100000 in
set_option maxHeartbeats 4000000 in
theorem c_PR_testTerminal (l : Launch) (D : va_G) (HB : Heap) (h : hp_T) (hlt : l.stackTraces = false) (p1 : Int32) : ct_M l y_PR_testTerminal (.code y_PR_testTerminal prog_1_method_28_code 1 (Option.none : Option Jvm.ClassFile.FieldType)) ({ frames := 6, cells := 1, slots := 6, locals := 84 }) D HB [.int p1] h (fun o h2 => h2 = h ∧ o = if p1 < 0 ∨ ¬ p1 ≤ 99 then .inr eA else .inl none) := by
  refine ct_of (by decide) (Nat.le_of_ble_eq_true rfl) rfl ?_
  intro p_ e_ s_ m_ r_ b_ t_ c_ C hnm
  refine wk_run C k_PR_testTerminal_0 (pc2 := 1) (lv2 := [(0, .int p1)]) (st2 := [.int p1]) rfl ?_
  refine wk_br C d_PR_testTerminal_1 (P := p1 < 0) (tgt := 10) (rest := []) rfl (by decide) (fun c1 => ?_) (fun c1 => ?_)
  ·
    exact wk_thrA C hlt (text := "no such terminal") (is := 233) (by decide) d_PR_testTerminal_10 d_PR_testTerminal_13 d_PR_testTerminal_14 d_PR_testTerminal_16 d_PR_testTerminal_19 (by decide) (Nat.le_of_ble_eq_true rfl) (by decide) (by decide) (by decide) (by decide) ⟨rfl, by simp [c1]⟩
  ·
    refine wk_run C k_PR_testTerminal_4 (pc2 := 7) (lv2 := [(0, .int p1)]) (st2 := [.int 99, .int p1]) rfl ?_
    refine wk_br C d_PR_testTerminal_7 (P := p1 ≤ 99) (tgt := 20) (rest := []) rfl (by decide) (fun c2 => ?_) (fun c2 => ?_)
    ·
      exact wk_vret C ⟨rfl, by simp [c1, c2]⟩ (by decide) (by decide) d_PR_testTerminal_20
    ·
      exact wk_thrA C hlt (text := "no such terminal") (is := 233) (by decide) d_PR_testTerminal_10 d_PR_testTerminal_13 d_PR_testTerminal_14 d_PR_testTerminal_16 d_PR_testTerminal_19 (by decide) (Nat.le_of_ble_eq_true rfl) (by decide) (by decide) (by decide) (by decide) ⟨rfl, by simp [c1, c2]⟩
theorem k_PR_testLevel_0 : px_dec prog_1_method_29_code [.iload_n 0, .iload_n 1] 0 = true := by decide +kernel
theorem d_PR_testLevel_2 : decode prog_1_method_29_code 2 = .ok (.if_icmp .lt 8, 3) := by decide +kernel
theorem d_PR_testLevel_10 : decode prog_1_method_29_code 10 = .ok (.new 105, 3) := by decide +kernel
theorem d_PR_testLevel_13 : decode prog_1_method_29_code 13 = .ok (.dup, 1) := by decide +kernel
theorem d_PR_testLevel_14 : decode prog_1_method_29_code 14 = .ok (.ldc 235, 2) := by decide +kernel
theorem d_PR_testLevel_16 : decode prog_1_method_29_code 16 = .ok (.invokespecial 109, 3) := by decide +kernel
theorem d_PR_testLevel_19 : decode prog_1_method_29_code 19 = .ok (.athrow, 1) := by decide +kernel
theorem k_PR_testLevel_5 : px_dec prog_1_method_29_code [.iload_n 0, .iconst 4] 5 = true := by decide +kernel
theorem d_PR_testLevel_7 : decode prog_1_method_29_code 7 = .ok (.if_icmp .le 13, 3) := by decide +kernel
theorem d_PR_testLevel_20 : decode prog_1_method_29_code 20 = .ok (.return_, 1) := by decide +kernel
set_option maxRecDepth 100000 in
set_option maxHeartbeats 4000000 in
theorem c_PR_testLevel (l : Launch) (D : va_G) (HB : Heap) (h : hp_T) (hlt : l.stackTraces = false) (p1 p2 : Int32) : ct_M l y_PR_testLevel (.code y_PR_testLevel prog_1_method_29_code 2 (Option.none : Option Jvm.ClassFile.FieldType)) ({ frames := 6, cells := 1, slots := 6, locals := 84 }) D HB [.int p1, .int p2] h (fun o h2 => h2 = h ∧ o = if p1 < p2 ∨ ¬ p1 ≤ 4 then .inr eA else .inl none) := by
  refine ct_of (by decide) (Nat.le_of_ble_eq_true rfl) rfl ?_
  intro p_ e_ s_ m_ r_ b_ t_ c_ C hnm
  refine wk_run C k_PR_testLevel_0 (pc2 := 2) (lv2 := [(0, .int p1), (1, .int p2)]) (st2 := [.int p2, .int p1]) rfl ?_
  refine wk_br C d_PR_testLevel_2 (P := p1 < p2) (tgt := 10) (rest := []) rfl (by decide) (fun c1 => ?_) (fun c1 => ?_)
  ·
    exact wk_thrA C hlt (text := "no such level") (is := 235) (by decide) d_PR_testLevel_10 d_PR_testLevel_13 d_PR_testLevel_14 d_PR_testLevel_16 d_PR_testLevel_19 (by decide) (Nat.le_of_ble_eq_true rfl) (by decide) (by decide) (by decide) (by decide) ⟨rfl, by simp [c1]⟩
  ·
    refine wk_run C k_PR_testLevel_5 (pc2 := 7) (lv2 := [(0, .int p1), (1, .int p2)]) (st2 := [.int 4, .int p1]) rfl ?_
    refine wk_br C d_PR_testLevel_7 (P := p1 ≤ 4) (tgt := 20) (rest := []) rfl (by decide) (fun c2 => ?_) (fun c2 => ?_)
    ·
      exact wk_vret C ⟨rfl, by simp [c1, c2]⟩ (by decide) (by decide) d_PR_testLevel_20
    ·
      exact wk_thrA C hlt (text := "no such level") (is := 235) (by decide) d_PR_testLevel_10 d_PR_testLevel_13 d_PR_testLevel_14 d_PR_testLevel_16 d_PR_testLevel_19 (by decide) (Nat.le_of_ble_eq_true rfl) (by decide) (by decide) (by decide) (by decide) ⟨rfl, by simp [c1, c2]⟩
theorem k_PR_isCharacter_0 : px_dec prog_1_method_30_code [.iload_n 0, .bipush 33] 0 = true := by decide +kernel
theorem d_PR_isCharacter_3 : decode prog_1_method_30_code 3 = .ok (.if_icmp .lt 13, 3) := by decide +kernel
theorem k_PR_isCharacter_16 : px_dec prog_1_method_30_code [.iconst 0] 16 = true := by decide +kernel
theorem d_PR_isCharacter_17 : decode prog_1_method_30_code 17 = .ok (.ireturn, 1) := by decide +kernel
theorem k_PR_isCharacter_6 : px_dec prog_1_method_30_code [.iload_n 0, .bipush 126] 6 = true := by decide +kernel
theorem d_PR_isCharacter_9 : decode prog_1_method_30_code 9 = .ok (.if_icmp .gt 7, 3) := by decide +kernel
theorem k_PR_isCharacter_12 : px_dec prog_1_method_30_code [.iconst 1] 12 = true := by decide +kernel
theorem d_PR_isCharacter_13 : decode prog_1_method_30_code 13 = .ok (.goto 4, 3) := by decide +kernel
set_option maxRecDepth 100000 in
set_option maxHeartbeats 4000000 in
theorem c_PR_isCharacter (l : Launch) (D : va_G) (HB : Heap) (h : hp_T) (k : Int32) : ct_M l y_PR_isCharacter (.code y_PR_isCharacter prog_1_method_30_code 1 (Option.some Jvm.ClassFile.FieldType.boolean)) ({ frames := 0, cells := 0, slots := 0, locals := 0 }) D HB [.int k] h (fun o h2 => o = .inl (some (.int (if ¬ k < 33 ∧ ¬ 126 < k then (1 : Int32) else 0))) ∧ h2 = h) := by
  refine ct_of (by decide) (Nat.le_of_ble_eq_true rfl) rfl ?_
  intro p_ e_ s_ m_ r_ b_ t_ c_ C hnm
  refine wk_run C k_PR_isCharacter_0 (pc2 := 3) (lv2 := [(0, .int k)]) (st2 := [.int 33, .int k]) rfl ?_
  refine wk_br C d_PR_isCharacter_3 (P := k < 33) (tgt := 16) (rest := []) rfl (by decide) (fun c1 => ?_) (fun c1 => ?_)
  ·
    refine wk_run C k_PR_isCharacter_16 (pc2 := 17) (lv2 := [(0, .int k)]) (st2 := [.int 0]) rfl ?_
    exact wk_zret C (by decide) ⟨by simp [c1], rfl⟩ (by decide) (by decide) d_PR_isCharacter_17
  ·
    refine wk_run C k_PR_isCharacter_6 (pc2 := 9) (lv2 := [(0, .int k)]) (st2 := [.int 126, .int k]) rfl ?_
    refine wk_br C d_PR_isCharacter_9 (P := 126 < k) (tgt := 16) (rest := []) rfl (by decide) (fun c2 => ?_) (fun c2 => ?_)
    ·
      refine wk_run C k_PR_isCharacter_16 (pc2 := 17) (lv2 := [(0, .int k)]) (st2 := [.int 0]) rfl ?_
      exact wk_zret C (by decide) ⟨by simp [c1, c2], rfl⟩ (by decide) (by decide) d_PR_isCharacter_17
    ·
      refine wk_run C k_PR_isCharacter_12 (pc2 := 13) (lv2 := [(0, .int k)]) (st2 := [.int 1]) rfl ?_
      refine wk_goto C d_PR_isCharacter_13 (tgt := 17) (by decide) ?_
      exact wk_zret C (by decide) ⟨by simp [c1, c2], rfl⟩ (by decide) (by decide) d_PR_isCharacter_17
theorem k_PF_bears_0 : px_dec prog_5_method_2_code [.aload_n 0] 0 = true := by decide +kernel
theorem d_PF_bears_1 : decode prog_5_method_2_code 1 = .ok (.getfield 35, 3) := by decide +kernel
theorem k_PF_bears_4 : px_dec prog_5_method_2_code [.iload_n 1, .iand] 4 = true := by decide +kernel
theorem d_PF_bears_6 : decode prog_5_method_2_code 6 = .ok (.ifCond .eq 7, 3) := by decide +kernel
theorem k_PF_bears_13 : px_dec prog_5_method_2_code [.iconst 0] 13 = true := by decide +kernel
theorem d_PF_bears_14 : decode prog_5_method_2_code 14 = .ok (.ireturn, 1) := by decide +kernel
theorem k_PF_bears_9 : px_dec prog_5_method_2_code [.iconst 1] 9 = true := by decide +kernel
theorem d_PF_bears_10 : decode prog_5_method_2_code 10 = .ok (.goto 4, 3) := by decide +kernel
set_option maxRecDepth 100000 in
set_option maxHeartbeats 4000000 in
theorem c_PF_bears (l : Launch) (D : va_G) (HB : Heap) (h : hp_T) (a pn pl : Nat) (n0 n1 ul mk : Int32) (ha : h a = some (.inr (5, [.int n0, .int n1, .ref pn, .ref pl, .int ul, .int mk]))) (k : Int32) : ct_M l y_PF_bears (.code y_PF_bears prog_5_method_2_code 2 (Option.some Jvm.ClassFile.FieldType.boolean)) ({ frames := 0, cells := 0, slots := 0, locals := 0 }) D HB [.ref a, .int k] h (fun o h2 => o = .inl (some (.int (if mk &&& k = 0 then (0 : Int32) else 1))) ∧ h2 = h) := by
  refine ct_of (by decide) (Nat.le_of_ble_eq_true rfl) rfl ?_
  intro p_ e_ s_ m_ r_ b_ t_ c_ C hnm
  refine wk_run C k_PF_bears_0 (pc2 := 1) (lv2 := [(0, .ref a), (1, .int k)]) (st2 := [.ref a]) rfl ?_
  refine wk_get C fd_PF_35 ha rfl d_PF_bears_1 ?_
  refine wk_run C k_PF_bears_4 (pc2 := 6) (lv2 := [(0, .ref a), (1, .int k)]) (st2 := [.int (mk &&& k)]) rfl ?_
  refine wk_br C d_PF_bears_6 (P := (mk &&& k) = 0) (tgt := 13) (rest := []) rfl (by decide) (fun c1 => ?_) (fun c1 => ?_)
  ·
    refine wk_run C k_PF_bears_13 (pc2 := 14) (lv2 := [(0, .ref a), (1, .int k)]) (st2 := [.int 0]) rfl ?_
    exact wk_zret C (by decide) ⟨by simp [c1], rfl⟩ (by decide) (by decide) d_PF_bears_14
  ·
    refine wk_run C k_PF_bears_9 (pc2 := 10) (lv2 := [(0, .ref a), (1, .int k)]) (st2 := [.int 1]) rfl ?_
    refine wk_goto C d_PF_bears_10 (tgt := 14) (by decide) ?_
    exact wk_zret C (by decide) ⟨by simp [c1], rfl⟩ (by decide) (by decide) d_PF_bears_14
theorem k_PF_isOpenToAll_0 : px_dec prog_5_method_3_code [.aload_n 0, .iconst 4] 0 = true := by decide +kernel
theorem d_PF_isOpenToAll_2 : decode prog_5_method_3_code 2 = .ok (.invokevirtual 38, 3) := by decide +kernel
theorem d_PF_isOpenToAll_5 : decode prog_5_method_3_code 5 = .ok (.ifCond .eq 15, 3) := by decide +kernel
theorem k_PF_isOpenToAll_20 : px_dec prog_5_method_3_code [.iconst 0] 20 = true := by decide +kernel
theorem d_PF_isOpenToAll_21 : decode prog_5_method_3_code 21 = .ok (.ireturn, 1) := by decide +kernel
theorem k_PF_isOpenToAll_8 : px_dec prog_5_method_3_code [.aload_n 0] 8 = true := by decide +kernel
theorem d_PF_isOpenToAll_9 : decode prog_5_method_3_code 9 = .ok (.getfield 32, 3) := by decide +kernel
theorem k_PF_isOpenToAll_12 : px_dec prog_5_method_3_code [.iload_n 1] 12 = true := by decide +kernel
theorem d_PF_isOpenToAll_13 : decode prog_5_method_3_code 13 = .ok (.if_icmp .lt 7, 3) := by decide +kernel
theorem k_PF_isOpenToAll_16 : px_dec prog_5_method_3_code [.iconst 1] 16 = true := by decide +kernel
theorem d_PF_isOpenToAll_17 : decode prog_5_method_3_code 17 = .ok (.goto 4, 3) := by decide +kernel
set_option maxRecDepth 100000 in
set_option maxHeartbeats 4000000 in
theorem c_PF_isOpenToAll (l : Launch) (D : va_G) (HB : Heap) (h : hp_T) (a pn pl : Nat) (n0 n1 ul mk : Int32) (ha : h a = some (.inr (5, [.int n0, .int n1, .ref pn, .ref pl, .int ul, .int mk]))) (k : Int32) : ct_M l y_PF_isOpenToAll (.code y_PF_isOpenToAll prog_5_method_3_code 2 (Option.some Jvm.ClassFile.FieldType.boolean)) ({ frames := 1, cells := 0, slots := 0, locals := 21 }) D HB [.ref a, .int k] h (fun o h2 => o = .inl (some (.int (if mk &&& 4 = 0 ∨ ul < k then (0 : Int32) else 1))) ∧ h2 = h) := by
  refine ct_of (by decide) (Nat.le_of_ble_eq_true rfl) rfl ?_
  intro p_ e_ s_ m_ r_ b_ t_ c_ C hnm
  refine wk_run C k_PF_isOpenToAll_0 (pc2 := 2) (lv2 := [(0, .ref a), (1, .int k)]) (st2 := [.int 4, .ref a]) rfl ?_
  refine wk_callV (cl := ("ProfileRights$Profile", T_PF, 6)) (rest := []) C (c_PF_bears l D HB h a pn pl n0 n1 ul mk ha 4) cs_PF_38 kc_PF_bears ki_PF ha rfl rfl rfl (Nat.le_of_ble_eq_true rfl) (Nat.le_of_ble_eq_true rfl) (Nat.le_of_ble_eq_true rfl) (Nat.le_of_ble_eq_true rfl) (Nat.le_of_ble_eq_true rfl) d_PF_isOpenToAll_2 (fun v h2 hq => ?_) (fun _ _ z => nomatch z.1)
  obtain ⟨e1, e2⟩ := hq; cases e1; replace e2 := e2.symm; subst e2
  refine wk_br C d_PF_isOpenToAll_5 (P := (if mk &&& 4 = 0 then (0 : Int32) else 1) = 0) (tgt := 20) (rest := []) rfl (by decide) (fun c1 => ?_) (fun c1 => ?_)
  ·
    refine wk_run C k_PF_isOpenToAll_20 (pc2 := 21) (lv2 := [(0, .ref a), (1, .int k)]) (st2 := [.int 0]) rfl ?_
    exact wk_zret C (by decide) ⟨by first | simp_all [c1] | (split at c1 <;> simp_all), rfl⟩ (by decide) (by decide) d_PF_isOpenToAll_21
  ·
    refine wk_run C k_PF_isOpenToAll_8 (pc2 := 9) (lv2 := [(0, .ref a), (1, .int k)]) (st2 := [.ref a]) rfl ?_
    refine wk_get C fd_PF_32 ha rfl d_PF_isOpenToAll_9 ?_
    refine wk_run C k_PF_isOpenToAll_12 (pc2 := 13) (lv2 := [(0, .ref a), (1, .int k)]) (st2 := [.int k, .int ul]) rfl ?_
    refine wk_br C d_PF_isOpenToAll_13 (P := ul < k) (tgt := 20) (rest := []) rfl (by decide) (fun c2 => ?_) (fun c2 => ?_)
    ·
      refine wk_run C k_PF_isOpenToAll_20 (pc2 := 21) (lv2 := [(0, .ref a), (1, .int k)]) (st2 := [.int 0]) rfl ?_
      exact wk_zret C (by decide) ⟨by first | simp_all [c1, c2] | (split at c1 <;> simp_all), rfl⟩ (by decide) (by decide) d_PF_isOpenToAll_21
    ·
      refine wk_run C k_PF_isOpenToAll_16 (pc2 := 17) (lv2 := [(0, .ref a), (1, .int k)]) (st2 := [.int 1]) rfl ?_
      refine wk_goto C d_PF_isOpenToAll_17 (tgt := 21) (by decide) ?_
      exact wk_zret C (by decide) ⟨by first | simp_all [c1, c2] | (split at c1 <;> simp_all), rfl⟩ (by decide) (by decide) d_PF_isOpenToAll_21
theorem k_PF_isFull_0 : px_dec prog_5_method_4_code [.aload_n 0] 0 = true := by decide +kernel
theorem d_PF_isFull_1 : decode prog_5_method_4_code 1 = .ok (.getfield 28, 3) := by decide +kernel
theorem d_PF_isFull_4 : decode prog_5_method_4_code 4 = .ok (.invokevirtual 42, 3) := by decide +kernel
theorem k_PF_isFull_7 : px_dec prog_5_method_4_code [.bipush 10] 7 = true := by decide +kernel
theorem d_PF_isFull_9 : decode prog_5_method_4_code 9 = .ok (.if_icmp .lt 7, 3) := by decide +kernel
theorem k_PF_isFull_16 : px_dec prog_5_method_4_code [.iconst 0] 16 = true := by decide +kernel
theorem d_PF_isFull_17 : decode prog_5_method_4_code 17 = .ok (.ireturn, 1) := by decide +kernel
theorem k_PF_isFull_12 : px_dec prog_5_method_4_code [.iconst 1] 12 = true := by decide +kernel
theorem d_PF_isFull_13 : decode prog_5_method_4_code 13 = .ok (.goto 4, 3) := by decide +kernel
set_option maxRecDepth 100000 in
set_option maxHeartbeats 4000000 in
theorem c_PF_isFull (l : Launch) (D : va_G) (HB : Heap) (h : hp_T) (a pn pl : Nat) (n0 n1 ul mk : Int32) (ha : h a = some (.inr (5, [.int n0, .int n1, .ref pn, .ref pl, .int ul, .int mk]))) (b n : Nat) (f : Nat → Nat) (hL : al_ok D h pl b n f) (hn : n ≤ 100) : ct_M l y_PF_isFull (.code y_PF_isFull prog_5_method_4_code 1 (Option.some Jvm.ClassFile.FieldType.boolean)) ({ frames := 1, cells := 0, slots := 0, locals := 20 }) D HB [.ref a] h (fun o h2 => o = .inl (some (.int (if n < 10 then (0 : Int32) else 1))) ∧ h2 = h) := by
  refine ct_of (by decide) (Nat.le_of_ble_eq_true rfl) rfl ?_
  intro p_ e_ s_ m_ r_ b_ t_ c_ C hnm
  refine wk_run C k_PF_isFull_0 (pc2 := 1) (lv2 := [(0, .ref a)]) (st2 := [.ref a]) rfl ?_
  refine wk_get C fd_PF_28 ha rfl d_PF_isFull_1 ?_
  obtain ⟨md, hl, -⟩ := id hL
  refine wk_callV (cl := ("java/util/ArrayList", T_AL, 3)) (rest := []) C (al_size l HB hL) cs_PF_42 kc_AL_size ki_AL hl rfl rfl rfl (Nat.le_of_ble_eq_true rfl) (Nat.le_of_ble_eq_true rfl) (Nat.le_of_ble_eq_true rfl) (Nat.le_of_ble_eq_true rfl) (Nat.le_of_ble_eq_true rfl) d_PF_isFull_4 (fun v h2 hq => ?_) (fun _ _ z => nomatch z.1)
  obtain ⟨e1, e2⟩ := hq; cases e1; replace e2 := e2.symm; subst e2
  refine wk_run C k_PF_isFull_7 (pc2 := 9) (lv2 := [(0, .ref a)]) (st2 := [.int 10, .int (nI n)]) rfl ?_
  refine wk_br C d_PF_isFull_9 (P := (nI n) < 10) (tgt := 16) (rest := []) rfl (by decide) (fun c1 => ?_) (fun c1 => ?_)
  ·
    refine wk_run C k_PF_isFull_16 (pc2 := 17) (lv2 := [(0, .ref a)]) (st2 := [.int 0]) rfl ?_
    have hx : (nI n < 10) = (n < 10) := propext (nI_ltI (a := n) (b := 10) (by omega) (by decide))
    exact wk_zret C (by decide) ⟨by rw [hx] at c1; simp [c1], rfl⟩ (by decide) (by decide) d_PF_isFull_17
  ·
    refine wk_run C k_PF_isFull_12 (pc2 := 13) (lv2 := [(0, .ref a)]) (st2 := [.int 1]) rfl ?_
    refine wk_goto C d_PF_isFull_13 (tgt := 17) (by decide) ?_
    have hx : (nI n < 10) = (n < 10) := propext (nI_ltI (a := n) (b := 10) (by omega) (by decide))
    exact wk_zret C (by decide) ⟨by rw [hx] at c1; simp [c1], rfl⟩ (by decide) (by decide) d_PF_isFull_17
theorem k_EN_isOpen_0 : px_dec prog_2_method_2_code [.aload_n 0] 0 = true := by decide +kernel
theorem d_EN_isOpen_1 : decode prog_2_method_2_code 1 = .ok (.getfield 18, 3) := by decide +kernel
theorem d_EN_isOpen_4 : decode prog_2_method_2_code 4 = .ok (.ifCond .eq 14, 3) := by decide +kernel
theorem k_EN_isOpen_18 : px_dec prog_2_method_2_code [.aload_n 0] 18 = true := by decide +kernel
theorem d_EN_isOpen_19 : decode prog_2_method_2_code 19 = .ok (.getfield 22, 3) := by decide +kernel
theorem k_EN_isOpen_22 : px_dec prog_2_method_2_code [.iload_n 2, .ishr, .iconst 1, .iand] 22 = true := by decide +kernel
theorem d_EN_isOpen_26 : decode prog_2_method_2_code 26 = .ok (.ifCond .eq 7, 3) := by decide +kernel
theorem k_EN_isOpen_33 : px_dec prog_2_method_2_code [.iconst 0] 33 = true := by decide +kernel
theorem d_EN_isOpen_34 : decode prog_2_method_2_code 34 = .ok (.ireturn, 1) := by decide +kernel
theorem k_EN_isOpen_29 : px_dec prog_2_method_2_code [.iconst 1] 29 = true := by decide +kernel
theorem d_EN_isOpen_30 : decode prog_2_method_2_code 30 = .ok (.goto 4, 3) := by decide +kernel
theorem k_EN_isOpen_7 : px_dec prog_2_method_2_code [.aload_n 0] 7 = true := by decide +kernel
theorem d_EN_isOpen_8 : decode prog_2_method_2_code 8 = .ok (.getfield 18, 3) := by decide +kernel
theorem k_EN_isOpen_11 : px_dec prog_2_method_2_code [.aload_n 1] 11 = true := by decide +kernel
theorem d_EN_isOpen_12 : decode prog_2_method_2_code 12 = .ok (.getfield 25, 3) := by decide +kernel
theorem d_EN_isOpen_15 : decode prog_2_method_2_code 15 = .ok (.if_icmp .ne 18, 3) := by decide +kernel
set_option maxRecDepth 100000 in
set_option maxHeartbeats 4000000 in
theorem c_EN_isOpen (l : Launch) (D : va_G) (HB : Heap) (h : hp_T) (a u ug : Nat) (e0 e1 e2 e3 u0 u2 u3 u4 k : Int32) (u5 : Int64) (ha : h a = some (.inr (4, [.int e0, .int e1, .int e2, .int e3]))) (hu : h u = some (.inr (2, [.int u0, .ref ug, .int u2, .int u3, .int u4, .long u5]))) : ct_M l y_EN_isOpen (.code y_EN_isOpen prog_2_method_2_code 3 (Option.some Jvm.ClassFile.FieldType.boolean)) ({ frames := 0, cells := 0, slots := 0, locals := 0 }) D HB [.ref a, .ref u, .int k] h (fun o h2 => o = .inl (some (.int (if (e2 = 0 ∨ e2 = u2) ∧ ¬ (e3 >>> (k &&& 31)) &&& 1 = 0 then (1 : Int32) else 0))) ∧ h2 = h) := by
  refine ct_of (by decide) (Nat.le_of_ble_eq_true rfl) rfl ?_
  intro p_ e_ s_ m_ r_ b_ t_ c_ C hnm
  refine wk_run C k_EN_isOpen_0 (pc2 := 1) (lv2 := [(0, .ref a), (1, .ref u), (2, .int k)]) (st2 := [.ref a]) rfl ?_
  refine wk_get C fd_EN_18 ha rfl d_EN_isOpen_1 ?_
  refine wk_br C d_EN_isOpen_4 (P := e2 = 0) (tgt := 18) (rest := []) rfl (by decide) (fun c1 => ?_) (fun c1 => ?_)
  ·
    refine wk_run C k_EN_isOpen_18 (pc2 := 19) (lv2 := [(0, .ref a), (1, .ref u), (2, .int k)]) (st2 := [.ref a]) rfl ?_
    refine wk_get C fd_EN_22 ha rfl d_EN_isOpen_19 ?_
    refine wk_run C k_EN_isOpen_22 (pc2 := 26) (lv2 := [(0, .ref a), (1, .ref u), (2, .int k)]) (st2 := [.int ((e3 >>> (k &&& 31)) &&& 1)]) rfl ?_
    refine wk_br C d_EN_isOpen_26 (P := ((e3 >>> (k &&& 31)) &&& 1) = 0) (tgt := 33) (rest := []) rfl (by decide) (fun c2 => ?_) (fun c2 => ?_)
    ·
      refine wk_run C k_EN_isOpen_33 (pc2 := 34) (lv2 := [(0, .ref a), (1, .ref u), (2, .int k)]) (st2 := [.int 0]) rfl ?_
      exact wk_zret C (by decide) ⟨by simp_all [c1, c2], rfl⟩ (by decide) (by decide) d_EN_isOpen_34
    ·
      refine wk_run C k_EN_isOpen_29 (pc2 := 30) (lv2 := [(0, .ref a), (1, .ref u), (2, .int k)]) (st2 := [.int 1]) rfl ?_
      refine wk_goto C d_EN_isOpen_30 (tgt := 34) (by decide) ?_
      exact wk_zret C (by decide) ⟨by simp_all [c1, c2], rfl⟩ (by decide) (by decide) d_EN_isOpen_34
  ·
    refine wk_run C k_EN_isOpen_7 (pc2 := 8) (lv2 := [(0, .ref a), (1, .ref u), (2, .int k)]) (st2 := [.ref a]) rfl ?_
    refine wk_get C fd_EN_18 ha rfl d_EN_isOpen_8 ?_
    refine wk_run C k_EN_isOpen_11 (pc2 := 12) (lv2 := [(0, .ref a), (1, .ref u), (2, .int k)]) (st2 := [.ref u, .int e2]) rfl ?_
    refine wk_get C fd_EN_25 hu rfl d_EN_isOpen_12 ?_
    refine wk_br C d_EN_isOpen_15 (P := ¬ e2 = u2) (tgt := 33) (rest := []) rfl (by decide) (fun c3 => ?_) (fun c3 => ?_)
    ·
      refine wk_run C k_EN_isOpen_33 (pc2 := 34) (lv2 := [(0, .ref a), (1, .ref u), (2, .int k)]) (st2 := [.int 0]) rfl ?_
      exact wk_zret C (by decide) ⟨by simp_all [c1, c3], rfl⟩ (by decide) (by decide) d_EN_isOpen_34
    ·
      refine wk_run C k_EN_isOpen_18 (pc2 := 19) (lv2 := [(0, .ref a), (1, .ref u), (2, .int k)]) (st2 := [.ref a]) rfl ?_
      refine wk_get C fd_EN_22 ha rfl d_EN_isOpen_19 ?_
      refine wk_run C k_EN_isOpen_22 (pc2 := 26) (lv2 := [(0, .ref a), (1, .ref u), (2, .int k)]) (st2 := [.int ((e3 >>> (k &&& 31)) &&& 1)]) rfl ?_
      refine wk_br C d_EN_isOpen_26 (P := ((e3 >>> (k &&& 31)) &&& 1) = 0) (tgt := 33) (rest := []) rfl (by decide) (fun c4 => ?_) (fun c4 => ?_)
      ·
        refine wk_run C k_EN_isOpen_33 (pc2 := 34) (lv2 := [(0, .ref a), (1, .ref u), (2, .int k)]) (st2 := [.int 0]) rfl ?_
        exact wk_zret C (by decide) ⟨by simp_all [c1, c3, c4], rfl⟩ (by decide) (by decide) d_EN_isOpen_34
      ·
        refine wk_run C k_EN_isOpen_29 (pc2 := 30) (lv2 := [(0, .ref a), (1, .ref u), (2, .int k)]) (st2 := [.int 1]) rfl ?_
        refine wk_goto C d_EN_isOpen_30 (tgt := 34) (by decide) ?_
        exact wk_zret C (by decide) ⟨by simp_all [c1, c3, c4], rfl⟩ (by decide) (by decide) d_EN_isOpen_34
theorem k_US_init_0 : px_dec prog_7_method_1_code [.aload_n 0] 0 = true := by decide +kernel
theorem d_US_init_1 : decode prog_7_method_1_code 1 = .ok (.invokespecial 3, 3) := by decide +kernel
theorem k_US_init_4 : px_dec prog_7_method_1_code [.aload_n 0, .iload_n 1] 4 = true := by decide +kernel
theorem d_US_init_6 : decode prog_7_method_1_code 6 = .ok (.putfield 9, 3) := by decide +kernel
theorem k_US_init_9 : px_dec prog_7_method_1_code [.aload_n 0, .aload_n 2] 9 = true := by decide +kernel
theorem d_US_init_11 : decode prog_7_method_1_code 11 = .ok (.putfield 15, 3) := by decide +kernel
theorem k_US_init_14 : px_dec prog_7_method_1_code [.aload_n 0, .iconst 0] 14 = true := by decide +kernel
theorem d_US_init_16 : decode prog_7_method_1_code 16 = .ok (.putfield 19, 3) := by decide +kernel
theorem k_US_init_19 : px_dec prog_7_method_1_code [.aload_n 0, .iconst 3] 19 = true := by decide +kernel
theorem d_US_init_21 : decode prog_7_method_1_code 21 = .ok (.putfield 22, 3) := by decide +kernel
theorem k_US_init_24 : px_dec prog_7_method_1_code [.aload_n 0, .iconst 0] 24 = true := by decide +kernel
theorem d_US_init_26 : decode prog_7_method_1_code 26 = .ok (.putfield 25, 3) := by decide +kernel
theorem k_US_init_29 : px_dec prog_7_method_1_code [.aload_n 0, .lconst 0] 29 = true := by decide +kernel
theorem d_US_init_31 : decode prog_7_method_1_code 31 = .ok (.putfield 29, 3) := by decide +kernel
theorem d_US_init_34 : decode prog_7_method_1_code 34 = .ok (.return_, 1) := by decide +kernel
set_option maxRecDepth 100000 in
set_option maxHeartbeats 4000000 in
theorem c_US_init (l : Launch) (D : va_G) (HB : Heap) (h : hp_T) (a g : Nat) (p1 f0 f2 f3 f4 : Int32) (f5 : Int64) (ha : h a = some (.inr (2, [.int f0, .null, .int f2, .int f3, .int f4, .long f5]))) : ct_M l y_US_init (.code y_US_init prog_7_method_1_code 3 (Option.none : Option Jvm.ClassFile.FieldType)) ({ frames := 1, cells := 0, slots := 0, locals := 14 }) D HB [.ref a, .int p1, .ref g] h (fun o h2 => o = .inl none ∧ h2 = hp_up h a (.inr (2, [.int p1, .ref g, .int 0, .int 3, .int 0, .long 0]))) := by
  refine ct_of (by decide) (Nat.le_of_ble_eq_true rfl) rfl ?_
  intro p_ e_ s_ m_ r_ b_ t_ c_ C hnm
  refine wk_run C k_US_init_0 (pc2 := 1) (lv2 := [(0, .ref a), (1, .int p1), (2, .ref g)]) (st2 := [.ref a]) rfl ?_
  refine wk_obj C ml_US_3 kj_in kj_cd (by decide) (by decide) d_US_init_1 ?_
  refine wk_run C k_US_init_4 (pc2 := 6) (lv2 := [(0, .ref a), (1, .int p1), (2, .ref g)]) (st2 := [.int p1, .ref a]) rfl ?_
  refine wk_putF (fs2 := [.int p1, .null, .int f2, .int f3, .int f4, .long f5]) C ff_US_9 hnm ha rfl rfl (Nat.le_of_ble_eq_true rfl) rfl d_US_init_6 ?_
  refine wk_run C k_US_init_9 (pc2 := 11) (lv2 := [(0, .ref a), (1, .int p1), (2, .ref g)]) (st2 := [.ref g, .ref a]) rfl ?_
  refine wk_putF (fs2 := [.int p1, .ref g, .int f2, .int f3, .int f4, .long f5]) C ff_US_15 hnm hp_us rfl rfl (Nat.le_of_ble_eq_true rfl) rfl d_US_init_11 ?_
  refine Wk.he hp_uu ?_
  refine wk_run C k_US_init_14 (pc2 := 16) (lv2 := [(0, .ref a), (1, .int p1), (2, .ref g)]) (st2 := [.int 0, .ref a]) rfl ?_
  refine wk_put (fs2 := [.int p1, .ref g, .int 0, .int f3, .int f4, .long f5]) C fd_US_19 hp_us rfl rfl (Nat.le_of_ble_eq_true rfl) rfl d_US_init_16 ?_
  refine Wk.he hp_uu ?_
  refine wk_run C k_US_init_19 (pc2 := 21) (lv2 := [(0, .ref a), (1, .int p1), (2, .ref g)]) (st2 := [.int 3, .ref a]) rfl ?_
  refine wk_put (fs2 := [.int p1, .ref g, .int 0, .int 3, .int f4, .long f5]) C fd_US_22 hp_us rfl rfl (Nat.le_of_ble_eq_true rfl) rfl d_US_init_21 ?_
  refine Wk.he hp_uu ?_
  refine wk_run C k_US_init_24 (pc2 := 26) (lv2 := [(0, .ref a), (1, .int p1), (2, .ref g)]) (st2 := [.int 0, .ref a]) rfl ?_
  refine wk_put (fs2 := [.int p1, .ref g, .int 0, .int 3, .int 0, .long f5]) C fd_US_25 hp_us rfl rfl (Nat.le_of_ble_eq_true rfl) rfl d_US_init_26 ?_
  refine Wk.he hp_uu ?_
  refine wk_run C k_US_init_29 (pc2 := 31) (lv2 := [(0, .ref a), (1, .int p1), (2, .ref g)]) (st2 := [.long 0, .ref a]) rfl ?_
  refine wk_put (fs2 := [.int p1, .ref g, .int 0, .int 3, .int 0, .long 0]) C fd_US_29 hp_us rfl rfl (Nat.le_of_ble_eq_true rfl) rfl d_US_init_31 ?_
  refine Wk.he hp_uu ?_
  exact wk_vret C ⟨rfl, rfl⟩ (by decide) (by decide) d_US_init_34
theorem us_cmp {x : Int64} : (lg_cmp x 0 = 0) = (x = 0) := by
  unfold lg_cmp
  by_cases z : x = 0
  · subst z; simp
  · by_cases y : 0 < x <;> simp [y, z]

theorem k_US_standsFor_0 : px_dec prog_7_method_2_code [.aload_n 0] 0 = true := by decide +kernel
theorem d_US_standsFor_1 : decode prog_7_method_2_code 1 = .ok (.getfield 29, 3) := by decide +kernel
theorem k_US_standsFor_4 : px_dec prog_7_method_2_code [.aload_n 1] 4 = true := by decide +kernel
theorem d_US_standsFor_5 : decode prog_7_method_2_code 5 = .ok (.getfield 9, 3) := by decide +kernel
theorem k_US_standsFor_8 : px_dec prog_7_method_2_code [.lshr, .lconst 1, .land, .lconst 0] 8 = true := by decide +kernel
theorem d_US_standsFor_12 : decode prog_7_method_2_code 12 = .ok (.lcmp, 1) := by decide +kernel
theorem d_US_standsFor_13 : decode prog_7_method_2_code 13 = .ok (.ifCond .eq 7, 3) := by decide +kernel
theorem k_US_standsFor_20 : px_dec prog_7_method_2_code [.iconst 0] 20 = true := by decide +kernel
theorem d_US_standsFor_21 : decode prog_7_method_2_code 21 = .ok (.ireturn, 1) := by decide +kernel
theorem k_US_standsFor_16 : px_dec prog_7_method_2_code [.iconst 1] 16 = true := by decide +kernel
theorem d_US_standsFor_17 : decode prog_7_method_2_code 17 = .ok (.goto 4, 3) := by decide +kernel
set_option maxRecDepth 100000 in
set_option maxHeartbeats 4000000 in
theorem c_US_standsFor (l : Launch) (D : va_G) (HB : Heap) (h : hp_T) (a u ug vg : Nat) (u0 u2 u3 u4 v0 v2 v3 v4 : Int32) (u5 v5 : Int64) (ha : h a = some (.inr (2, [.int v0, .ref vg, .int v2, .int v3, .int v4, .long v5]))) (hu : h u = some (.inr (2, [.int u0, .ref ug, .int u2, .int u3, .int u4, .long u5]))) : ct_M l y_US_standsFor (.code y_US_standsFor prog_7_method_2_code 2 (Option.some Jvm.ClassFile.FieldType.boolean)) ({ frames := 0, cells := 0, slots := 0, locals := 0 }) D HB [.ref a, .ref u] h (fun o h2 => o = .inl (some (.int (if (v5 >>> (u0.toInt64 &&& 63)) &&& 1 = 0 then (0 : Int32) else 1))) ∧ h2 = h) := by
  refine ct_of (by decide) (Nat.le_of_ble_eq_true rfl) rfl ?_
  intro p_ e_ s_ m_ r_ b_ t_ c_ C hnm
  refine wk_run C k_US_standsFor_0 (pc2 := 1) (lv2 := [(0, .ref a), (1, .ref u)]) (st2 := [.ref a]) rfl ?_
  refine wk_get C fd_US_29 ha rfl d_US_standsFor_1 ?_
  refine wk_run C k_US_standsFor_4 (pc2 := 5) (lv2 := [(0, .ref a), (1, .ref u)]) (st2 := [.ref u, .long v5]) rfl ?_
  refine wk_get C fd_US_9 hu rfl d_US_standsFor_5 ?_
  refine wk_run C k_US_standsFor_8 (pc2 := 12) (lv2 := [(0, .ref a), (1, .ref u)]) (st2 := [.long 0, .long ((v5 >>> (u0.toInt64 &&& 63)) &&& 1)]) rfl ?_
  refine wk_lcmp C d_US_standsFor_12 ?_
  refine wk_br C d_US_standsFor_13 (P := (lg_cmp ((v5 >>> (u0.toInt64 &&& 63)) &&& 1) 0) = 0) (tgt := 20) (rest := []) rfl (by decide) (fun c1 => ?_) (fun c1 => ?_)
  ·
    refine wk_run C k_US_standsFor_20 (pc2 := 21) (lv2 := [(0, .ref a), (1, .ref u)]) (st2 := [.int 0]) rfl ?_
    exact wk_zret C (by decide) ⟨by rw [us_cmp] at c1; simp [c1], rfl⟩ (by decide) (by decide) d_US_standsFor_21
  ·
    refine wk_run C k_US_standsFor_16 (pc2 := 17) (lv2 := [(0, .ref a), (1, .ref u)]) (st2 := [.int 1]) rfl ?_
    refine wk_goto C d_US_standsFor_17 (tgt := 21) (by decide) ?_
    exact wk_zret C (by decide) ⟨by rw [us_cmp] at c1; simp [c1], rfl⟩ (by decide) (by decide) d_US_standsFor_21
theorem k_US_toggleStandingFor_0 : px_dec prog_7_method_3_code [.aload_n 0, .dup] 0 = true := by decide +kernel
theorem d_US_toggleStandingFor_2 : decode prog_7_method_3_code 2 = .ok (.getfield 29, 3) := by decide +kernel
theorem k_US_toggleStandingFor_5 : px_dec prog_7_method_3_code [.lconst 1, .aload_n 1] 5 = true := by decide +kernel
theorem d_US_toggleStandingFor_7 : decode prog_7_method_3_code 7 = .ok (.getfield 9, 3) := by decide +kernel
theorem k_US_toggleStandingFor_10 : px_dec prog_7_method_3_code [.lshl, .lxor] 10 = true := by decide +kernel
theorem d_US_toggleStandingFor_12 : decode prog_7_method_3_code 12 = .ok (.putfield 29, 3) := by decide +kernel
theorem d_US_toggleStandingFor_15 : decode prog_7_method_3_code 15 = .ok (.return_, 1) := by decide +kernel
set_option maxRecDepth 100000 in
set_option maxHeartbeats 4000000 in
theorem c_US_toggleStandingFor (l : Launch) (D : va_G) (HB : Heap) (h : hp_T) (a u ug vg : Nat) (u0 u2 u3 u4 v0 v2 v3 v4 : Int32) (u5 v5 : Int64) (ha : h a = some (.inr (2, [.int v0, .ref vg, .int v2, .int v3, .int v4, .long v5]))) (hu : h u = some (.inr (2, [.int u0, .ref ug, .int u2, .int u3, .int u4, .long u5]))) : ct_M l y_US_toggleStandingFor (.code y_US_toggleStandingFor prog_7_method_3_code 2 (Option.none : Option Jvm.ClassFile.FieldType)) ({ frames := 0, cells := 0, slots := 0, locals := 0 }) D HB [.ref a, .ref u] h (fun o h2 => o = .inl none ∧ h2 = hp_up h a (.inr (2, [.int v0, .ref vg, .int v2, .int v3, .int v4, .long (v5 ^^^ (1 <<< (u0.toInt64 &&& 63)))]))) := by
  refine ct_of (by decide) (Nat.le_of_ble_eq_true rfl) rfl ?_
  intro p_ e_ s_ m_ r_ b_ t_ c_ C hnm
  refine wk_run C k_US_toggleStandingFor_0 (pc2 := 2) (lv2 := [(0, .ref a), (1, .ref u)]) (st2 := [.ref a, .ref a]) rfl ?_
  refine wk_get C fd_US_29 ha rfl d_US_toggleStandingFor_2 ?_
  refine wk_run C k_US_toggleStandingFor_5 (pc2 := 7) (lv2 := [(0, .ref a), (1, .ref u)]) (st2 := [.ref u, .long 1, .long v5, .ref a]) rfl ?_
  refine wk_get C fd_US_9 hu rfl d_US_toggleStandingFor_7 ?_
  refine wk_run C k_US_toggleStandingFor_10 (pc2 := 12) (lv2 := [(0, .ref a), (1, .ref u)]) (st2 := [.long (v5 ^^^ (1 <<< (u0.toInt64 &&& 63))), .ref a]) rfl ?_
  refine wk_put (fs2 := [.int v0, .ref vg, .int v2, .int v3, .int v4, .long (v5 ^^^ (1 <<< (u0.toInt64 &&& 63)))]) C fd_US_29 ha rfl rfl (Nat.le_of_ble_eq_true rfl) rfl d_US_toggleStandingFor_12 ?_
  exact wk_vret C ⟨rfl, rfl⟩ (by decide) (by decide) d_US_toggleStandingFor_15
theorem k_NM_isMore_0 : px_dec prog_4_method_6_code [.aload_n 0] 0 = true := by decide +kernel
theorem d_NM_isMore_1 : decode prog_4_method_6_code 1 = .ok (.invokevirtual 29, 3) := by decide +kernel
theorem k_NM_isMore_4 : px_dec prog_4_method_6_code [.aload_n 1] 4 = true := by decide +kernel
theorem d_NM_isMore_5 : decode prog_4_method_6_code 5 = .ok (.invokevirtual 29, 3) := by decide +kernel
theorem d_NM_isMore_8 : decode prog_4_method_6_code 8 = .ok (.if_icmp .eq 8, 3) := by decide +kernel
theorem k_NM_isMore_16 : px_dec prog_4_method_6_code [.aload_n 0] 16 = true := by decide +kernel
theorem d_NM_isMore_17 : decode prog_4_method_6_code 17 = .ok (.getfield 22, 3) := by decide +kernel
theorem k_NM_isMore_20 : px_dec prog_4_method_6_code [.aload_n 1] 20 = true := by decide +kernel
theorem d_NM_isMore_21 : decode prog_4_method_6_code 21 = .ok (.getfield 22, 3) := by decide +kernel
theorem d_NM_isMore_24 : decode prog_4_method_6_code 24 = .ok (.if_icmp .eq 20, 3) := by decide +kernel
theorem k_NM_isMore_44 : px_dec prog_4_method_6_code [.aload_n 0] 44 = true := by decide +kernel
theorem d_NM_isMore_45 : decode prog_4_method_6_code 45 = .ok (.getfield 19, 3) := by decide +kernel
theorem k_NM_isMore_48 : px_dec prog_4_method_6_code [.aload_n 1] 48 = true := by decide +kernel
theorem d_NM_isMore_49 : decode prog_4_method_6_code 49 = .ok (.getfield 19, 3) := by decide +kernel
theorem d_NM_isMore_52 : decode prog_4_method_6_code 52 = .ok (.if_icmp .le 7, 3) := by decide +kernel
theorem k_NM_isMore_59 : px_dec prog_4_method_6_code [.iconst 0] 59 = true := by decide +kernel
theorem d_NM_isMore_60 : decode prog_4_method_6_code 60 = .ok (.ireturn, 1) := by decide +kernel
theorem k_NM_isMore_55 : px_dec prog_4_method_6_code [.iconst 1] 55 = true := by decide +kernel
theorem d_NM_isMore_56 : decode prog_4_method_6_code 56 = .ok (.goto 4, 3) := by decide +kernel
theorem k_NM_isMore_27 : px_dec prog_4_method_6_code [.aload_n 0] 27 = true := by decide +kernel
theorem d_NM_isMore_28 : decode prog_4_method_6_code 28 = .ok (.getfield 22, 3) := by decide +kernel
theorem k_NM_isMore_31 : px_dec prog_4_method_6_code [.aload_n 1] 31 = true := by decide +kernel
theorem d_NM_isMore_32 : decode prog_4_method_6_code 32 = .ok (.getfield 22, 3) := by decide +kernel
theorem d_NM_isMore_35 : decode prog_4_method_6_code 35 = .ok (.if_icmp .le 7, 3) := by decide +kernel
theorem k_NM_isMore_42 : px_dec prog_4_method_6_code [.iconst 0] 42 = true := by decide +kernel
theorem d_NM_isMore_43 : decode prog_4_method_6_code 43 = .ok (.ireturn, 1) := by decide +kernel
theorem k_NM_isMore_38 : px_dec prog_4_method_6_code [.iconst 1] 38 = true := by decide +kernel
theorem d_NM_isMore_39 : decode prog_4_method_6_code 39 = .ok (.goto 4, 3) := by decide +kernel
theorem k_NM_isMore_11 : px_dec prog_4_method_6_code [.aload_n 0] 11 = true := by decide +kernel
theorem d_NM_isMore_12 : decode prog_4_method_6_code 12 = .ok (.invokevirtual 29, 3) := by decide +kernel
theorem d_NM_isMore_15 : decode prog_4_method_6_code 15 = .ok (.ireturn, 1) := by decide +kernel
set_option maxRecDepth 100000 in
set_option maxHeartbeats 4000000 in
theorem c_NM_isMore (l : Launch) (D : va_G) (HB : Heap) (h : hp_T) (a b ca cb : Nat) (n1 s1 h1 n2 s2 h2_ : Int32) (ha : h a = some (.inr (3, [.ref ca, .int n1, .int s1, .int h1]))) (hb : h b = some (.inr (3, [.ref cb, .int n2, .int s2, .int h2_]))) : ct_M l y_NM_isMoreSpecialThan (.code y_NM_isMoreSpecialThan prog_4_method_6_code 2 (Option.some Jvm.ClassFile.FieldType.boolean)) ({ frames := 1, cells := 0, slots := 0, locals := 21 }) D HB [.ref a, .ref b] h (fun o h2 => o = .inl (some (.int (if ¬ ((s1 = n1) ↔ (s2 = n2)) then (if s1 = n1 then (1 : Int32) else 0) else if ¬ h1 = h2_ then (if h2_ < h1 then 1 else 0) else if s2 < s1 then 1 else 0))) ∧ h2 = h) := by
  refine ct_of (by decide) (Nat.le_of_ble_eq_true rfl) rfl ?_
  intro p_ e_ s_ m_ r_ b_ t_ c_ C hnm
  refine wk_run C k_NM_isMore_0 (pc2 := 1) (lv2 := [(0, .ref a), (1, .ref b)]) (st2 := [.ref a]) rfl ?_
  refine wk_callV (cl := ("ProfileRights$Name", T_NM, 4)) (rest := []) C (c_NM_isExact l D HB h a ca n1 s1 h1 ha) cs_NM_29 kc_NM_isExact ki_NM ha rfl rfl rfl (Nat.le_of_ble_eq_true rfl) (Nat.le_of_ble_eq_true rfl) (Nat.le_of_ble_eq_true rfl) (Nat.le_of_ble_eq_true rfl) (Nat.le_of_ble_eq_true rfl) d_NM_isMore_1 (fun v h2 hq => ?_) (fun _ _ z => nomatch z.1)
  obtain ⟨e1, e2⟩ := hq; cases e1; replace e2 := e2.symm; subst e2
  refine wk_run C k_NM_isMore_4 (pc2 := 5) (lv2 := [(0, .ref a), (1, .ref b)]) (st2 := [.ref b, .int (if s1 = n1 then (1 : Int32) else 0)]) rfl ?_
  refine wk_callV (cl := ("ProfileRights$Name", T_NM, 4)) (rest := [.int (if s1 = n1 then (1 : Int32) else 0)]) C (c_NM_isExact l D HB h b cb n2 s2 h2_ hb) cs_NM_29 kc_NM_isExact ki_NM hb rfl rfl rfl (Nat.le_of_ble_eq_true rfl) (Nat.le_of_ble_eq_true rfl) (Nat.le_of_ble_eq_true rfl) (Nat.le_of_ble_eq_true rfl) (Nat.le_of_ble_eq_true rfl) d_NM_isMore_5 (fun v h2 hq => ?_) (fun _ _ z => nomatch z.1)
  obtain ⟨e1, e2⟩ := hq; cases e1; replace e2 := e2.symm; subst e2
  refine wk_br C d_NM_isMore_8 (P := (if s1 = n1 then (1 : Int32) else 0) = (if s2 = n2 then (1 : Int32) else 0)) (tgt := 16) (rest := []) rfl (by decide) (fun c1 => ?_) (fun c1 => ?_)
  ·
    refine wk_run C k_NM_isMore_16 (pc2 := 17) (lv2 := [(0, .ref a), (1, .ref b)]) (st2 := [.ref a]) rfl ?_
    refine wk_get C fd_NM_22 ha rfl d_NM_isMore_17 ?_
    refine wk_run C k_NM_isMore_20 (pc2 := 21) (lv2 := [(0, .ref a), (1, .ref b)]) (st2 := [.ref b, .int h1]) rfl ?_
    refine wk_get C fd_NM_22 hb rfl d_NM_isMore_21 ?_
    refine wk_br C d_NM_isMore_24 (P := h1 = h2_) (tgt := 44) (rest := []) rfl (by decide) (fun c2 => ?_) (fun c2 => ?_)
    ·
      refine wk_run C k_NM_isMore_44 (pc2 := 45) (lv2 := [(0, .ref a), (1, .ref b)]) (st2 := [.ref a]) rfl ?_
      refine wk_get C fd_NM_19 ha rfl d_NM_isMore_45 ?_
      refine wk_run C k_NM_isMore_48 (pc2 := 49) (lv2 := [(0, .ref a), (1, .ref b)]) (st2 := [.ref b, .int s1]) rfl ?_
      refine wk_get C fd_NM_19 hb rfl d_NM_isMore_49 ?_
      refine wk_br C d_NM_isMore_52 (P := s1 ≤ s2) (tgt := 59) (rest := []) rfl (by decide) (fun c3 => ?_) (fun c3 => ?_)
      ·
        refine wk_run C k_NM_isMore_59 (pc2 := 60) (lv2 := [(0, .ref a), (1, .ref b)]) (st2 := [.int 0]) rfl ?_
        exact wk_zret C (by first | decide | (split <;> decide)) ⟨by by_cases q1 : s1 = n1 <;> by_cases q2 : s2 = n2 <;> simp_all [Int32.not_lt], rfl⟩ (by decide) (by decide) d_NM_isMore_60
      ·
        refine wk_run C k_NM_isMore_55 (pc2 := 56) (lv2 := [(0, .ref a), (1, .ref b)]) (st2 := [.int 1]) rfl ?_
        refine wk_goto C d_NM_isMore_56 (tgt := 60) (by decide) ?_
        exact wk_zret C (by first | decide | (split <;> decide)) ⟨by by_cases q1 : s1 = n1 <;> by_cases q2 : s2 = n2 <;> simp_all [Int32.not_lt], rfl⟩ (by decide) (by decide) d_NM_isMore_60
    ·
      refine wk_run C k_NM_isMore_27 (pc2 := 28) (lv2 := [(0, .ref a), (1, .ref b)]) (st2 := [.ref a]) rfl ?_
      refine wk_get C fd_NM_22 ha rfl d_NM_isMore_28 ?_
      refine wk_run C k_NM_isMore_31 (pc2 := 32) (lv2 := [(0, .ref a), (1, .ref b)]) (st2 := [.ref b, .int h1]) rfl ?_
      refine wk_get C fd_NM_22 hb rfl d_NM_isMore_32 ?_
      refine wk_br C d_NM_isMore_35 (P := h1 ≤ h2_) (tgt := 42) (rest := []) rfl (by decide) (fun c4 => ?_) (fun c4 => ?_)
      ·
        refine wk_run C k_NM_isMore_42 (pc2 := 43) (lv2 := [(0, .ref a), (1, .ref b)]) (st2 := [.int 0]) rfl ?_
        exact wk_zret C (by first | decide | (split <;> decide)) ⟨by by_cases q1 : s1 = n1 <;> by_cases q2 : s2 = n2 <;> simp_all [Int32.not_lt], rfl⟩ (by decide) (by decide) d_NM_isMore_43
      ·
        refine wk_run C k_NM_isMore_38 (pc2 := 39) (lv2 := [(0, .ref a), (1, .ref b)]) (st2 := [.int 1]) rfl ?_
        refine wk_goto C d_NM_isMore_39 (tgt := 43) (by decide) ?_
        exact wk_zret C (by first | decide | (split <;> decide)) ⟨by by_cases q1 : s1 = n1 <;> by_cases q2 : s2 = n2 <;> simp_all [Int32.not_lt], rfl⟩ (by decide) (by decide) d_NM_isMore_43
  ·
    refine wk_run C k_NM_isMore_11 (pc2 := 12) (lv2 := [(0, .ref a), (1, .ref b)]) (st2 := [.ref a]) rfl ?_
    refine wk_callV (cl := ("ProfileRights$Name", T_NM, 4)) (rest := []) C (c_NM_isExact l D HB h a ca n1 s1 h1 ha) cs_NM_29 kc_NM_isExact ki_NM ha rfl rfl rfl (Nat.le_of_ble_eq_true rfl) (Nat.le_of_ble_eq_true rfl) (Nat.le_of_ble_eq_true rfl) (Nat.le_of_ble_eq_true rfl) (Nat.le_of_ble_eq_true rfl) d_NM_isMore_12 (fun v h2 hq => ?_) (fun _ _ z => nomatch z.1)
    obtain ⟨e1, e2⟩ := hq; cases e1; replace e2 := e2.symm; subst e2
    exact wk_zret C (by first | decide | (split <;> decide)) ⟨by by_cases q1 : s1 = n1 <;> by_cases q2 : s2 = n2 <;> simp_all [Int32.not_lt], rfl⟩ (by decide) (by decide) d_NM_isMore_15
end
section
/-- the places of k among the first n characters, as bits -/
def pl_m (f : Nat → Int32) (k : Int32) : Nat → Int32
  | 0 => 0
  | i + 1 => if f i = k then pl_m f k i ||| ((1 : Int32) <<< (nI i &&& 31)) else pl_m f k i
def rb_1 (k r : Int32) (f : Nat → Int32) (n : Nat) : Int32 := if k = 42 then r ||| -r else if k = 37 then r <<< ((1 : Int32) &&& 31) else (r &&& pl_m f k n) <<< ((1 : Int32) &&& 31)
theorem rb_0 (k : Int32) (f : Nat → Int32) (n : Nat) : rb_1 k 0 f n = 0 := by
  unfold rb_1
  split
  · decide
  · split
    · decide
    · rw [Int32.zero_and]; decide
/-- the inside mask, what is reached behind i characters of the profile's name -/
def rb_M (n : Nat) : Int32 := ((1 : Int32) <<< ((nI n + 1) &&& 31)) - 1
def rb_R (p f : Nat → Int32) (n : Nat) : Nat → Int32
  | 0 => 1
  | i + 1 => rb_1 (p i) (rb_R p f n i) f n &&& rb_M n
theorem rb_R0 {p f : Nat → Int32} {n i : Nat} (h : rb_R p f n i = 0) : ∀ k, i ≤ k → rb_R p f n k = 0 := by
  intro k hk
  induction k with
  | zero => have : i = 0 := by omega
            subst this; exact h
  | succ k ih =>
    by_cases z : i = k + 1
    · subst z; exact h
    · show rb_1 (p k) (rb_R p f n k) f n &&& rb_M n = 0
      rw [ih (by omega), rb_0, Int32.zero_and]
def rb_F (p : Nat → Int32) (m : Nat) (f : Nat → Int32) (n : Nat) : Prop := ¬ (rb_R p f n m >>> (nI n &&& 31)) &&& 1 = 0

theorem k_NM_placesOf_0 : px_dec prog_4_method_9_code [.iconst 0, .istore_n 2, .iconst 0, .istore_n 3] 0 = true := by decide +kernel
theorem k_NM_placesOf_4 : px_dec prog_4_method_9_code [.iload_n 3, .aload_n 0] 4 = true := by decide +kernel
theorem d_NM_placesOf_6 : decode prog_4_method_9_code 6 = .ok (.getfield 15, 3) := by decide +kernel
theorem d_NM_placesOf_9 : decode prog_4_method_9_code 9 = .ok (.if_icmp .ge 25, 3) := by decide +kernel
theorem k_NM_placesOf_12 : px_dec prog_4_method_9_code [.aload_n 0] 12 = true := by decide +kernel
theorem d_NM_placesOf_13 : decode prog_4_method_9_code 13 = .ok (.getfield 9, 3) := by decide +kernel
theorem k_NM_placesOf_16 : px_dec prog_4_method_9_code [.iload_n 3] 16 = true := by decide +kernel
theorem d_NM_placesOf_17 : decode prog_4_method_9_code 17 = .ok (.iaload, 1) := by decide +kernel
theorem k_NM_placesOf_18 : px_dec prog_4_method_9_code [.iload_n 1] 18 = true := by decide +kernel
theorem d_NM_placesOf_19 : decode prog_4_method_9_code 19 = .ok (.if_icmp .ne 9, 3) := by decide +kernel
theorem k_NM_placesOf_28 : px_dec prog_4_method_9_code [.iinc 3 1] 28 = true := by decide +kernel
theorem d_NM_placesOf_31 : decode prog_4_method_9_code 31 = .ok (.goto (-27), 3) := by decide +kernel
theorem k_NM_placesOf_22 : px_dec prog_4_method_9_code [.iload_n 2, .iconst 1, .iload_n 3, .ishl, .ior, .istore_n 2, .iinc 3 1] 22 = true := by decide +kernel
theorem k_NM_placesOf_34 : px_dec prog_4_method_9_code [.iload_n 2] 34 = true := by decide +kernel
theorem d_NM_placesOf_35 : decode prog_4_method_9_code 35 = .ok (.ireturn, 1) := by decide +kernel
set_option maxRecDepth 100000 in
set_option maxHeartbeats 4000000 in
theorem c_NM_placesOf (l : Launch) (D : va_G) (HB : Heap) (h : hp_T) (a c n : Nat) (f g : Nat → Int32) (k s2 a2 : Int32) (ha : h a = some (.inr (3, [.ref c, .int (nI n), .int s2, .int a2]))) (hc : h c = some (.inl (D.1 100, 20, .inl g))) (hg : ∀ i, i < n → g i = f i) (hn : n ≤ 20) : ct_M l y_NM_placesOf (.code y_NM_placesOf prog_4_method_9_code 4 (Option.some Jvm.ClassFile.FieldType.int)) ({ frames := 0, cells := 0, slots := 0, locals := 0 }) D HB [.ref a, .int k] h (fun o h2 => o = .inl (some (.int (pl_m f k n))) ∧ h2 = h) := by
  refine ct_of (by decide) (Nat.le_of_ble_eq_true rfl) rfl ?_
  intro p_ e_ s_ m_ r_ b_ t_ c_ C hnm
  refine wk_run C k_NM_placesOf_0 (pc2 := 4) (lv2 := [(3, .int 0), (2, .int 0), (0, .ref a), (1, .int k)]) (st2 := []) rfl ?_
  refine Wk.sub (lv2 := [(0, .ref a), (1, .int k), (2, .int 0), (3, .int 0)]) [2, 3, 1, 0] rfl ?_
  refine wk_up (hF := fun _ => h) (lvF := fun i => [(0, .ref a), (1, .int k), (2, .int (pl_m f k i)), (3, .int (nI i))]) n (fun i hi ih => ?_) ?_ 0 (Nat.zero_le n)
  ·
    show Wk _ _ _ _ _ _ _ _ _ _ _ _ _ _ _ _ _ _ [(0, .ref a), (1, .int k), (2, .int (pl_m f k i)), (3, .int (nI i))] _
    refine wk_run C k_NM_placesOf_4 (pc2 := 6) (lv2 := [(0, .ref a), (1, .int k), (2, .int (pl_m f k i)), (3, .int (nI i))]) (st2 := [.ref a, .int (nI i)]) rfl ?_
    refine wk_get C fd_NM_15 ha rfl d_NM_placesOf_6 ?_
    refine wk_br C d_NM_placesOf_9 (P := (nI n) ≤ (nI i)) (tgt := 34) (rest := []) rfl (by decide) (fun c1 => ?_) (fun c1 => ?_)
    · exact absurd c1 (nI_ge hi (by omega))
    ·
      refine wk_run C k_NM_placesOf_12 (pc2 := 13) (lv2 := [(0, .ref a), (1, .int k), (2, .int (pl_m f k i)), (3, .int (nI i))]) (st2 := [.ref a]) rfl ?_
      refine wk_get C fd_NM_9 ha rfl d_NM_placesOf_13 ?_
      refine wk_run C k_NM_placesOf_16 (pc2 := 17) (lv2 := [(0, .ref a), (1, .int k), (2, .int (pl_m f k i)), (3, .int (nI i))]) (st2 := [.int (nI i), .ref c]) rfl ?_
      refine wk_iald C hc (vp_in_nI (by omega) (by omega)) d_NM_placesOf_17 ?_
      rw [nI_clamp (by omega), hg i hi]
      refine wk_run C k_NM_placesOf_18 (pc2 := 19) (lv2 := [(0, .ref a), (1, .int k), (2, .int (pl_m f k i)), (3, .int (nI i))]) (st2 := [.int k, .int (f i)]) rfl ?_
      refine wk_br C d_NM_placesOf_19 (P := ¬ (f i) = k) (tgt := 28) (rest := []) rfl (by decide) (fun c2 => ?_) (fun c2 => ?_)
      ·
        refine wk_run C k_NM_placesOf_28 (pc2 := 31) (lv2 := [(3, .int ((nI i) + 1)), (0, .ref a), (1, .int k), (2, .int (pl_m f k i))]) (st2 := []) rfl ?_
        refine wk_goto C d_NM_placesOf_31 (tgt := 4) (by decide) ?_
        refine Wk.sub (lv2 := [(0, .ref a), (1, .int k), (2, .int (pl_m f k i)), (3, .int ((nI i) + 1))]) [1, 2, 3, 0] rfl ?_
        rw [nI_1]
        have e1 : pl_m f k (i + 1) = (pl_m f k i) := if_neg c2
        rw [e1] at ih
        exact ih
      ·
        refine wk_run C k_NM_placesOf_22 (pc2 := 31) (lv2 := [(3, .int ((nI i) + 1)), (2, .int ((pl_m f k i) ||| (1 <<< ((nI i) &&& 31)))), (0, .ref a), (1, .int k)]) (st2 := []) rfl ?_
        refine wk_goto C d_NM_placesOf_31 (tgt := 4) (by decide) ?_
        refine Wk.sub (lv2 := [(0, .ref a), (1, .int k), (2, .int ((pl_m f k i) ||| (1 <<< ((nI i) &&& 31)))), (3, .int ((nI i) + 1))]) [2, 3, 1, 0] rfl ?_
        rw [nI_1]
        have e1 : pl_m f k (i + 1) = ((pl_m f k i) ||| (1 <<< ((nI i) &&& 31))) := if_pos (Classical.not_not.mp c2)
        rw [e1] at ih
        exact ih
  ·
    refine wk_run C k_NM_placesOf_4 (pc2 := 6) (lv2 := [(0, .ref a), (1, .int k), (2, .int (pl_m f k n)), (3, .int (nI n))]) (st2 := [.ref a, .int (nI n)]) rfl ?_
    refine wk_get C fd_NM_15 ha rfl d_NM_placesOf_6 ?_
    refine wk_br C d_NM_placesOf_9 (P := (nI n) ≤ (nI n)) (tgt := 34) (rest := []) rfl (by decide) (fun c1 => ?_) (fun c1 => ?_)
    ·
      refine wk_run C k_NM_placesOf_34 (pc2 := 35) (lv2 := [(0, .ref a), (1, .int k), (2, .int (pl_m f k n)), (3, .int (nI n))]) (st2 := [.int (pl_m f k n)]) rfl ?_
      exact wk_iret C ⟨rfl, rfl⟩ (by decide) (by decide) d_NM_placesOf_35
    · exact absurd (Int32.le_refl _) c1
theorem k_NM_reachedBehind_0 : px_dec prog_4_method_8_code [.iload_n 0, .bipush 42] 0 = true := by decide +kernel
theorem d_NM_reachedBehind_3 : decode prog_4_method_8_code 3 = .ok (.if_icmp .ne 8, 3) := by decide +kernel
theorem k_NM_reachedBehind_11 : px_dec prog_4_method_8_code [.iload_n 0, .bipush 37] 11 = true := by decide +kernel
theorem d_NM_reachedBehind_14 : decode prog_4_method_8_code 14 = .ok (.if_icmp .ne 7, 3) := by decide +kernel
theorem k_NM_reachedBehind_21 : px_dec prog_4_method_8_code [.iload_n 1, .aload_n 2, .iload_n 0] 21 = true := by decide +kernel
theorem d_NM_reachedBehind_24 : decode prog_4_method_8_code 24 = .ok (.invokevirtual 36, 3) := by decide +kernel
theorem k_NM_reachedBehind_27 : px_dec prog_4_method_8_code [.iand, .iconst 1, .ishl] 27 = true := by decide +kernel
theorem d_NM_reachedBehind_30 : decode prog_4_method_8_code 30 = .ok (.ireturn, 1) := by decide +kernel
theorem k_NM_reachedBehind_17 : px_dec prog_4_method_8_code [.iload_n 1, .iconst 1, .ishl] 17 = true := by decide +kernel
theorem d_NM_reachedBehind_20 : decode prog_4_method_8_code 20 = .ok (.ireturn, 1) := by decide +kernel
theorem k_NM_reachedBehind_6 : px_dec prog_4_method_8_code [.iload_n 1, .iload_n 1, .ineg, .ior] 6 = true := by decide +kernel
theorem d_NM_reachedBehind_10 : decode prog_4_method_8_code 10 = .ok (.ireturn, 1) := by decide +kernel
set_option maxRecDepth 100000 in
set_option maxHeartbeats 4000000 in
theorem c_NM_reachedBehind (l : Launch) (D : va_G) (HB : Heap) (h : hp_T) (a c n : Nat) (f g : Nat → Int32) (k r s2 a2 : Int32) (ha : h a = some (.inr (3, [.ref c, .int (nI n), .int s2, .int a2]))) (hc : h c = some (.inl (D.1 100, 20, .inl g))) (hg : ∀ i, i < n → g i = f i) (hn : n ≤ 20) : ct_M l y_NM_reachedBehind (.code y_NM_reachedBehind prog_4_method_8_code 3 (Option.some Jvm.ClassFile.FieldType.int)) ({ frames := 1, cells := 0, slots := 0, locals := 24 }) D HB [.int k, .int r, .ref a] h (fun o h2 => o = .inl (some (.int (rb_1 k r f n))) ∧ h2 = h) := by
  refine ct_of (by decide) (Nat.le_of_ble_eq_true rfl) rfl ?_
  intro p_ e_ s_ m_ r_ b_ t_ c_ C hnm
  refine wk_run C k_NM_reachedBehind_0 (pc2 := 3) (lv2 := [(0, .int k), (1, .int r), (2, .ref a)]) (st2 := [.int 42, .int k]) rfl ?_
  refine wk_br C d_NM_reachedBehind_3 (P := ¬ k = 42) (tgt := 11) (rest := []) rfl (by decide) (fun c1 => ?_) (fun c1 => ?_)
  ·
    refine wk_run C k_NM_reachedBehind_11 (pc2 := 14) (lv2 := [(0, .int k), (1, .int r), (2, .ref a)]) (st2 := [.int 37, .int k]) rfl ?_
    refine wk_br C d_NM_reachedBehind_14 (P := ¬ k = 37) (tgt := 21) (rest := []) rfl (by decide) (fun c2 => ?_) (fun c2 => ?_)
    ·
      refine wk_run C k_NM_reachedBehind_21 (pc2 := 24) (lv2 := [(0, .int k), (1, .int r), (2, .ref a)]) (st2 := [.int k, .ref a, .int r]) rfl ?_
      refine wk_callV (cl := ("ProfileRights$Name", T_NM, 4)) (rest := [.int r]) C (c_NM_placesOf l D HB h a c n f g k s2 a2 ha hc hg hn) cs_NM_36 kc_NM_placesOf ki_NM ha rfl rfl rfl (Nat.le_of_ble_eq_true rfl) (Nat.le_of_ble_eq_true rfl) (Nat.le_of_ble_eq_true rfl) (Nat.le_of_ble_eq_true rfl) (Nat.le_of_ble_eq_true rfl) d_NM_reachedBehind_24 (fun v h2 hq => ?_) (fun _ _ z => nomatch z.1)
      obtain ⟨e1, e2⟩ := hq; cases e1; replace e2 := e2.symm; subst e2
      refine wk_run C k_NM_reachedBehind_27 (pc2 := 30) (lv2 := [(0, .int k), (1, .int r), (2, .ref a)]) (st2 := [.int ((r &&& (pl_m f k n)) <<< (1 &&& 31))]) rfl ?_
      exact wk_iret C ⟨by unfold rb_1; simp_all [c1, c2], rfl⟩ (by decide) (by decide) d_NM_reachedBehind_30
    ·
      refine wk_run C k_NM_reachedBehind_17 (pc2 := 20) (lv2 := [(0, .int k), (1, .int r), (2, .ref a)]) (st2 := [.int (r <<< (1 &&& 31))]) rfl ?_
      exact wk_iret C ⟨by unfold rb_1; simp_all [c1, c2], rfl⟩ (by decide) (by decide) d_NM_reachedBehind_20
  ·
    refine wk_run C k_NM_reachedBehind_6 (pc2 := 10) (lv2 := [(0, .int k), (1, .int r), (2, .ref a)]) (st2 := [.int (r ||| (-r))]) rfl ?_
    exact wk_iret C ⟨by unfold rb_1; simp_all [c1], rfl⟩ (by decide) (by decide) d_NM_reachedBehind_10
theorem k_NM_fits_0 : px_dec prog_4_method_7_code [.iconst 1, .aload_n 1] 0 = true := by decide +kernel
theorem d_NM_fits_2 : decode prog_4_method_7_code 2 = .ok (.getfield 15, 3) := by decide +kernel
theorem k_NM_fits_5 : px_dec prog_4_method_7_code [.iconst 1, .iadd, .ishl, .iconst 1, .isub, .istore_n 2, .iconst 1, .istore_n 3, .iconst 0, .istore 4] 5 = true := by decide +kernel
theorem k_NM_fits_50 : px_dec prog_4_method_7_code [.iload_n 3, .aload_n 1] 50 = true := by decide +kernel
theorem d_NM_fits_52 : decode prog_4_method_7_code 52 = .ok (.getfield 15, 3) := by decide +kernel
theorem k_NM_fits_55 : px_dec prog_4_method_7_code [.ishr, .iconst 1, .iand] 55 = true := by decide +kernel
theorem d_NM_fits_58 : decode prog_4_method_7_code 58 = .ok (.ifCond .eq 7, 3) := by decide +kernel
theorem k_NM_fits_65 : px_dec prog_4_method_7_code [.iconst 0] 65 = true := by decide +kernel
theorem d_NM_fits_66 : decode prog_4_method_7_code 66 = .ok (.ireturn, 1) := by decide +kernel
theorem k_NM_fits_61 : px_dec prog_4_method_7_code [.iconst 1] 61 = true := by decide +kernel
theorem d_NM_fits_62 : decode prog_4_method_7_code 62 = .ok (.goto 4, 3) := by decide +kernel
theorem k_NM_fits_16 : px_dec prog_4_method_7_code [.iload 4, .aload_n 0] 16 = true := by decide +kernel
theorem d_NM_fits_19 : decode prog_4_method_7_code 19 = .ok (.getfield 15, 3) := by decide +kernel
theorem d_NM_fits_22 : decode prog_4_method_7_code 22 = .ok (.if_icmp .ge 28, 3) := by decide +kernel
theorem k_NM_fits_25 : px_dec prog_4_method_7_code [.iload_n 3] 25 = true := by decide +kernel
theorem d_NM_fits_26 : decode prog_4_method_7_code 26 = .ok (.ifCond .eq 24, 3) := by decide +kernel
theorem k_NM_fits_29 : px_dec prog_4_method_7_code [.aload_n 0] 29 = true := by decide +kernel
theorem d_NM_fits_30 : decode prog_4_method_7_code 30 = .ok (.getfield 9, 3) := by decide +kernel
theorem k_NM_fits_33 : px_dec prog_4_method_7_code [.iload 4] 33 = true := by decide +kernel
theorem d_NM_fits_35 : decode prog_4_method_7_code 35 = .ok (.iaload, 1) := by decide +kernel
theorem k_NM_fits_36 : px_dec prog_4_method_7_code [.iload_n 3, .aload_n 1] 36 = true := by decide +kernel
theorem d_NM_fits_38 : decode prog_4_method_7_code 38 = .ok (.invokestatic 32, 3) := by decide +kernel
theorem k_NM_fits_41 : px_dec prog_4_method_7_code [.iload_n 2, .iand, .istore_n 3, .iinc 4 1] 41 = true := by decide +kernel
theorem d_NM_fits_47 : decode prog_4_method_7_code 47 = .ok (.goto (-31), 3) := by decide +kernel
set_option maxRecDepth 100000 in
set_option maxHeartbeats 4000000 in
theorem c_NM_fits (l : Launch) (D : va_G) (HB : Heap) (h : hp_T) (a ca m b cb n : Nat) (pf f pg g : Nat → Int32) (s1 a1 s2 a2 : Int32) (ha : h a = some (.inr (3, [.ref ca, .int (nI m), .int s1, .int a1]))) (hca : h ca = some (.inl (D.1 100, 20, .inl pg))) (hpg : ∀ i, i < m → pg i = pf i) (hm : m ≤ 20) (hb : h b = some (.inr (3, [.ref cb, .int (nI n), .int s2, .int a2]))) (hc : h cb = some (.inl (D.1 100, 20, .inl g))) (hg : ∀ i, i < n → g i = f i) (hn : n ≤ 20) : ct_M l y_NM_fits (.code y_NM_fits prog_4_method_7_code 5 (Option.some Jvm.ClassFile.FieldType.boolean)) ({ frames := 2, cells := 0, slots := 0, locals := 46 }) D HB [.ref a, .ref b] h (fun o h2 => (rb_F pf m f n → o = .inl (some (.int 1))) ∧ (¬ rb_F pf m f n → o = .inl (some (.int 0))) ∧ h2 = h) := by
  refine ct_of (by decide) (Nat.le_of_ble_eq_true rfl) rfl ?_
  intro p_ e_ s_ m_ r_ b_ t_ c_ C hnm
  refine wk_run C k_NM_fits_0 (pc2 := 2) (lv2 := [(0, .ref a), (1, .ref b)]) (st2 := [.ref b, .int 1]) rfl ?_
  refine wk_get C fd_NM_15 hb rfl d_NM_fits_2 ?_
  refine wk_run C k_NM_fits_5 (pc2 := 16) (lv2 := [(4, .int 0), (3, .int 1), (2, .int ((1 <<< (((nI n) + 1) &&& 31)) - 1)), (0, .ref a), (1, .ref b)]) (st2 := []) rfl ?_
  rw [show ((1 : Int32) <<< ((nI n + 1) &&& 31)) - 1 = rb_M n from rfl]
  refine Wk.sub (lv2 := [(0, .ref a), (1, .ref b), (2, .int (rb_M n)), (3, .int 1), (4, .int 0)]) [3, 4, 2, 1, 0] rfl ?_
  have fin : ∀ i, i ≤ m → rb_R pf f n i = rb_R pf f n m → Wk p_ l e_ ({ frames := 2, cells := 0, slots := 0, locals := 46 } : Room) s_ m_ r_ b_ t_ c_ 5 D HB (ct_Q b_ D HB (fun o h2 => (rb_F pf m f n → o = .inl (some (.int 1))) ∧ (¬ rb_F pf m f n → o = .inl (some (.int 0))) ∧ h2 = h) s_ 0 0) h 0 0 50 [(0, .ref a), (1, .ref b), (2, .int (rb_M n)), (3, .int (rb_R pf f n i)), (4, .int (nI i))] [] := by
    intro i hi ei
    rw [ei]
    refine wk_run C k_NM_fits_50 (pc2 := 52) (lv2 := [(0, .ref a), (1, .ref b), (2, .int (rb_M n)), (3, .int (rb_R pf f n m)), (4, .int (nI i))]) (st2 := [.ref b, .int (rb_R pf f n m)]) rfl ?_
    refine wk_get C fd_NM_15 hb rfl d_NM_fits_52 ?_
    refine wk_run C k_NM_fits_55 (pc2 := 58) (lv2 := [(0, .ref a), (1, .ref b), (2, .int (rb_M n)), (3, .int (rb_R pf f n m)), (4, .int (nI i))]) (st2 := [.int (((rb_R pf f n m) >>> ((nI n) &&& 31)) &&& 1)]) rfl ?_
    refine wk_br C d_NM_fits_58 (P := (((rb_R pf f n m) >>> ((nI n) &&& 31)) &&& 1) = 0) (tgt := 65) (rest := []) rfl (by decide) (fun c1 => ?_) (fun c1 => ?_)
    ·
      refine wk_run C k_NM_fits_65 (pc2 := 66) (lv2 := [(0, .ref a), (1, .ref b), (2, .int (rb_M n)), (3, .int (rb_R pf f n m)), (4, .int (nI i))]) (st2 := [.int 0]) rfl ?_
      exact wk_zret C (by decide) ⟨fun z => absurd c1 z, fun _ => rfl, rfl⟩ (by decide) (by decide) d_NM_fits_66
    ·
      refine wk_run C k_NM_fits_61 (pc2 := 62) (lv2 := [(0, .ref a), (1, .ref b), (2, .int (rb_M n)), (3, .int (rb_R pf f n m)), (4, .int (nI i))]) (st2 := [.int 1]) rfl ?_
      refine wk_goto C d_NM_fits_62 (tgt := 66) (by decide) ?_
      exact wk_zret C (by decide) ⟨fun _ => rfl, fun z => absurd c1 z, rfl⟩ (by decide) (by decide) d_NM_fits_66
  refine wk_up (hF := fun _ => h) (lvF := fun i => [(0, .ref a), (1, .ref b), (2, .int (rb_M n)), (3, .int (rb_R pf f n i)), (4, .int (nI i))]) m (fun i hi ih => ?_) ?_ 0 (Nat.zero_le m)
  ·
    show Wk _ _ _ _ _ _ _ _ _ _ _ _ _ _ _ _ _ _ [(0, .ref a), (1, .ref b), (2, .int (rb_M n)), (3, .int (rb_R pf f n i)), (4, .int (nI i))] _
    refine wk_run C k_NM_fits_16 (pc2 := 19) (lv2 := [(0, .ref a), (1, .ref b), (2, .int (rb_M n)), (3, .int (rb_R pf f n i)), (4, .int (nI i))]) (st2 := [.ref a, .int (nI i)]) rfl ?_
    refine wk_get C fd_NM_15 ha rfl d_NM_fits_19 ?_
    refine wk_br C d_NM_fits_22 (P := (nI m) ≤ (nI i)) (tgt := 50) (rest := []) rfl (by decide) (fun c1 => ?_) (fun c1 => ?_)
    · exact absurd c1 (nI_ge hi (by omega))
    ·
      refine wk_run C k_NM_fits_25 (pc2 := 26) (lv2 := [(0, .ref a), (1, .ref b), (2, .int (rb_M n)), (3, .int (rb_R pf f n i)), (4, .int (nI i))]) (st2 := [.int (rb_R pf f n i)]) rfl ?_
      refine wk_br C d_NM_fits_26 (P := (rb_R pf f n i) = 0) (tgt := 50) (rest := []) rfl (by decide) (fun c2 => ?_) (fun c2 => ?_)
      ·
        exact fin i (Nat.le_of_lt hi) (by rw [c2, rb_R0 c2 m (Nat.le_of_lt hi)])
      ·
        refine wk_run C k_NM_fits_29 (pc2 := 30) (lv2 := [(0, .ref a), (1, .ref b), (2, .int (rb_M n)), (3, .int (rb_R pf f n i)), (4, .int (nI i))]) (st2 := [.ref a]) rfl ?_
        refine wk_get C fd_NM_9 ha rfl d_NM_fits_30 ?_
        refine wk_run C k_NM_fits_33 (pc2 := 35) (lv2 := [(0, .ref a), (1, .ref b), (2, .int (rb_M n)), (3, .int (rb_R pf f n i)), (4, .int (nI i))]) (st2 := [.int (nI i), .ref ca]) rfl ?_
        refine wk_iald C hca (vp_in_nI (by omega) (by omega)) d_NM_fits_35 ?_
        rw [nI_clamp (by omega), hpg i hi]
        refine wk_run C k_NM_fits_36 (pc2 := 38) (lv2 := [(0, .ref a), (1, .ref b), (2, .int (rb_M n)), (3, .int (rb_R pf f n i)), (4, .int (nI i))]) (st2 := [.ref b, .int (rb_R pf f n i), .int (pf i)]) rfl ?_
        refine wk_callS (rest := []) C (c_NM_reachedBehind l D HB h b cb n f g (pf i) (rb_R pf f n i) s2 a2 hb hc hg hn) cs_NM_32 kc_NM_reachedBehind ki_NM rfl rfl (Nat.le_of_ble_eq_true rfl) (Nat.le_of_ble_eq_true rfl) (Nat.le_of_ble_eq_true rfl) (Nat.le_of_ble_eq_true rfl) (Nat.le_of_ble_eq_true rfl) d_NM_fits_38 (fun v h2 hq => ?_) (fun _ _ z => nomatch z.1)
        obtain ⟨e1, e2⟩ := hq; cases e1; replace e2 := e2.symm; subst e2
        refine wk_run C k_NM_fits_41 (pc2 := 47) (lv2 := [(4, .int ((nI i) + 1)), (3, .int ((rb_1 (pf i) (rb_R pf f n i) f n) &&& (rb_M n))), (0, .ref a), (1, .ref b), (2, .int (rb_M n))]) (st2 := []) rfl ?_
        refine wk_goto C d_NM_fits_47 (tgt := 16) (by decide) ?_
        refine Wk.sub (lv2 := [(0, .ref a), (1, .ref b), (2, .int (rb_M n)), (3, .int ((rb_1 (pf i) (rb_R pf f n i) f n) &&& (rb_M n))), (4, .int ((nI i) + 1))]) [2, 3, 4, 1, 0] rfl ?_
        rw [nI_1]
        exact ih
  ·
    refine wk_run C k_NM_fits_16 (pc2 := 19) (lv2 := [(0, .ref a), (1, .ref b), (2, .int (rb_M n)), (3, .int (rb_R pf f n m)), (4, .int (nI m))]) (st2 := [.ref a, .int (nI m)]) rfl ?_
    refine wk_get C fd_NM_15 ha rfl d_NM_fits_19 ?_
    refine wk_br C d_NM_fits_22 (P := (nI m) ≤ (nI m)) (tgt := 50) (rest := []) rfl (by decide) (fun c1 => ?_) (fun c1 => ?_)
    · exact fin m (Nat.le_refl m) rfl
    · exact absurd (Int32.le_refl _) c1
end
section
/-- x is the number k, one of 1 .. n -/
def nb_ (x : Int32) (n k : Nat) : Prop := 1 ≤ k ∧ k ≤ n ∧ x = nI k
theorem nb_cases (x : Int32) {n : Nat} (hn : n ≤ 1000) : (∃ k, nb_ x n k) ∨ (x < 1 ∨ ¬ x ≤ nI n) := by
  by_cases h1 : x < 1
  · exact Or.inr (Or.inl h1)
  · by_cases h2 : x ≤ nI n
    · have h0 : ¬ x < 0 := fun z => h1 (by rw [Int32.lt_iff_toInt_lt] at z ⊢; have e0 : (0 : Int32).toInt = 0 := by decide
                                           have e1 : (1 : Int32).toInt = 1 := by decide
                                           rw [e0] at z; rw [e1]; omega)
      obtain ⟨k, hk, rfl⟩ := nI_of h0
      refine Or.inl ⟨k, ?_, (nI_leI hk (by omega)).mp h2, rfl⟩
      rcases Nat.eq_zero_or_pos k with z | z
      · subst z; exact absurd (by decide) h1
      · exact z
    · exact Or.inr (Or.inr h2)
theorem nb_lo {x : Int32} {n k : Nat} (h : nb_ x n k) (hn : n ≤ 1000) : ¬ x < 1 := by
  rw [h.2.2]; exact fun z => absurd z (show ¬ nI k < nI 1 from nI_nlt h.1 (by have := h.2.1; omega))
theorem nb_hi {x : Int32} {n k : Nat} (h : nb_ x n k) (hn : n ≤ 1000) : x ≤ nI n := by
  rw [h.2.2]; exact nI_le h.2.1 (by omega)
/-- the first of n places that holds x -/
def fs_ (wh : Nat → Int32) (x : Int32) (n : Nat) (r : Option Nat) : Prop := match r with
  | some k => k < n ∧ wh k = x ∧ ∀ j, j < k → wh j ≠ x
  | none => ∀ j, j < n → wh j ≠ x
theorem fs_ex (wh : Nat → Int32) (x : Int32) (n : Nat) : ∃ r, fs_ wh x n r := by
  induction n with
  | zero => exact ⟨none, fun j hj => absurd hj (Nat.not_lt_zero j)⟩
  | succ n ih =>
    obtain ⟨r, hr⟩ := ih
    cases r with
    | some k => exact ⟨some k, Nat.lt_succ_of_lt hr.1, hr.2⟩
    | none =>
      by_cases h : wh n = x
      · exact ⟨some n, Nat.lt_succ_self n, h, hr⟩
      · refine ⟨none, fun j hj => ?_⟩
        by_cases z : j = n
        · subst z; exact h
        · exact hr j (by omega)
theorem fs_un {wh : Nat → Int32} {x : Int32} {n : Nat} {r r2 : Option Nat} (h : fs_ wh x n r) (h2 : fs_ wh x n r2) : r = r2 := by
  cases r with
  | none => cases r2 with
    | none => rfl
    | some k => exact absurd h2.2.1 (h k h2.1)
  | some j => cases r2 with
    | none => exact absurd h.2.1 (h2 j h.1)
    | some k =>
      rcases Nat.lt_trichotomy j k with z | z | z
      · exact absurd h.2.1 (h2.2.2 j z)
      · rw [z]
      · exact absurd h2.2.1 (h.2.2 k z)
/-- the entries of a list -/
def en_ok (h : hp_T) (n : Nat) (eA : Nat → Nat) (wh gr pl ho : Nat → Int32) : Prop := ∀ k, k < n → h (eA k) = some (.inr (4, [.int (wh k), .int (gr k), .int (pl k), .int (ho k)]))
/-- an entry is open: for a user at the terminal tm, at the hour hr -/
def op_ (pl ho : Nat → Int32) (tm hr : Int32) (k : Nat) : Prop := (pl k = 0 ∨ pl k = tm) ∧ ¬ (ho k >>> (hr &&& 31)) &&& 1 = 0
noncomputable def oe_ (pl ho : Nat → Int32) (tm hr : Int32) (r : Option Nat) : Option Nat := match r with
  | some k => @ite _ (op_ pl ho tm hr k) (Classical.propDecidable _) (some k) none
  | none => none
theorem kx_ob {a : Nat} {fs : List Value} {h : hp_T} (k : Nat) (hk : k = 1 ∨ k = 2 ∨ k = 4 ∨ k = 5) (ha : h a = some (.inr (k, fs))) : ob_ok h a := by
  rcases hk with rfl | rfl | rfl | rfl
  · exact ⟨_, _, _, ha, rfl, kx_GR_OJ⟩
  · exact ⟨_, _, _, ha, rfl, kx_US_OJ⟩
  · exact ⟨_, _, _, ha, rfl, kx_EN_OJ⟩
  · exact ⟨_, _, _, ha, rfl, kx_PF_OJ⟩

theorem k_PF_entryOf_0 : px_dec prog_5_method_5_code [.iconst 0, .istore_n 2] 0 = true := by decide +kernel
theorem k_PF_entryOf_2 : px_dec prog_5_method_5_code [.iload_n 2, .aload_n 0] 2 = true := by decide +kernel
theorem d_PF_entryOf_4 : decode prog_5_method_5_code 4 = .ok (.getfield 28, 3) := by decide +kernel
theorem d_PF_entryOf_7 : decode prog_5_method_5_code 7 = .ok (.invokevirtual 42, 3) := by decide +kernel
theorem d_PF_entryOf_10 : decode prog_5_method_5_code 10 = .ok (.if_icmp .ge 39, 3) := by decide +kernel
theorem k_PF_entryOf_49 : px_dec prog_5_method_5_code [.aconst_null] 49 = true := by decide +kernel
theorem d_PF_entryOf_50 : decode prog_5_method_5_code 50 = .ok (.areturn, 1) := by decide +kernel
theorem k_PF_entryOf_13 : px_dec prog_5_method_5_code [.aload_n 0] 13 = true := by decide +kernel
theorem d_PF_entryOf_14 : decode prog_5_method_5_code 14 = .ok (.getfield 28, 3) := by decide +kernel
theorem k_PF_entryOf_17 : px_dec prog_5_method_5_code [.iload_n 2] 17 = true := by decide +kernel
theorem d_PF_entryOf_18 : decode prog_5_method_5_code 18 = .ok (.invokevirtual 46, 3) := by decide +kernel
theorem d_PF_entryOf_21 : decode prog_5_method_5_code 21 = .ok (.checkcast 50, 3) := by decide +kernel
theorem d_PF_entryOf_24 : decode prog_5_method_5_code 24 = .ok (.getfield 52, 3) := by decide +kernel
theorem k_PF_entryOf_27 : px_dec prog_5_method_5_code [.iload_n 1] 27 = true := by decide +kernel
theorem d_PF_entryOf_28 : decode prog_5_method_5_code 28 = .ok (.if_icmp .ne 15, 3) := by decide +kernel
theorem k_PF_entryOf_43 : px_dec prog_5_method_5_code [.iinc 2 1] 43 = true := by decide +kernel
theorem d_PF_entryOf_46 : decode prog_5_method_5_code 46 = .ok (.goto (-44), 3) := by decide +kernel
theorem k_PF_entryOf_31 : px_dec prog_5_method_5_code [.aload_n 0] 31 = true := by decide +kernel
theorem d_PF_entryOf_32 : decode prog_5_method_5_code 32 = .ok (.getfield 28, 3) := by decide +kernel
theorem k_PF_entryOf_35 : px_dec prog_5_method_5_code [.iload_n 2] 35 = true := by decide +kernel
theorem d_PF_entryOf_36 : decode prog_5_method_5_code 36 = .ok (.invokevirtual 46, 3) := by decide +kernel
theorem d_PF_entryOf_39 : decode prog_5_method_5_code 39 = .ok (.checkcast 50, 3) := by decide +kernel
theorem d_PF_entryOf_42 : decode prog_5_method_5_code 42 = .ok (.areturn, 1) := by decide +kernel
set_option maxRecDepth 100000 in
set_option maxHeartbeats 4000000 in
theorem c_PF_entryOf (l : Launch) (D : va_G) (HB : Heap) (h : hp_T) (a pn pl b n : Nat) (n0 n1 ul mk : Int32) (eA : Nat → Nat) (wh gr pc ho : Nat → Int32) (ha : h a = some (.inr (5, [.int n0, .int n1, .ref pn, .ref pl, .int ul, .int mk]))) (hL : al_ok D h pl b n eA) (hE : en_ok h n eA wh gr pc ho) (hn : n ≤ 10) (x : Int32) (r : Option Nat) (hr : fs_ wh x n r) : ct_M l y_PF_entryOf (.code y_PF_entryOf prog_5_method_5_code 3 (Option.some (Jvm.ClassFile.FieldType.object "ProfileRights$Entry"))) ({ frames := 3, cells := 0, slots := 0, locals := 64 }) D HB [.ref a, .int x] h (fun o h2 => o = .inl (some (va_rf (r.map eA))) ∧ h2 = h) := by
  refine ct_of (by decide) (Nat.le_of_ble_eq_true rfl) rfl ?_
  intro p_ e_ s_ m_ r_ b_ t_ c_ C hnm
  obtain ⟨md, hl, -⟩ := id hL
  refine wk_run C k_PF_entryOf_0 (pc2 := 2) (lv2 := [(2, .int 0), (0, .ref a), (1, .int x)]) (st2 := []) rfl ?_
  refine Wk.sub (lv2 := [(0, .ref a), (1, .int x), (2, .int 0)]) [1, 2, 0] rfl ?_
  refine wk_ind (σ := Nat) (hF := fun _ => h) (lvF := fun i => [(0, .ref a), (1, .int x), (2, .int (nI i))]) (fun i => n - i) (fun i => i ≤ n ∧ ∀ j, j < i → wh j ≠ x) (fun i hi ih => ?_) 0 ⟨Nat.zero_le n, fun j hj => absurd hj (Nat.not_lt_zero j)⟩
  show Wk _ _ _ _ _ _ _ _ _ _ _ _ _ _ _ _ _ _ [(0, .ref a), (1, .int x), (2, .int (nI i))] _
  refine wk_run C k_PF_entryOf_2 (pc2 := 4) (lv2 := [(0, .ref a), (1, .int x), (2, .int (nI i))]) (st2 := [.ref a, .int (nI i)]) rfl ?_
  refine wk_get C fd_PF_28 ha rfl d_PF_entryOf_4 ?_
  refine wk_callV (cl := ("java/util/ArrayList", T_AL, 3)) (rest := [.int (nI i)]) C (al_size l HB hL) cs_PF_42 kc_AL_size ki_AL hl rfl rfl rfl (Nat.le_of_ble_eq_true rfl) (Nat.le_of_ble_eq_true rfl) (Nat.le_of_ble_eq_true rfl) (Nat.le_of_ble_eq_true rfl) (Nat.le_of_ble_eq_true rfl) d_PF_entryOf_7 (fun v h2 hq => ?_) (fun _ _ z => nomatch z.1)
  obtain ⟨e1, e2⟩ := hq; cases e1; replace e2 := e2.symm; subst e2
  refine wk_br C d_PF_entryOf_10 (P := (nI n) ≤ (nI i)) (tgt := 49) (rest := []) rfl (by decide) (fun c1 => ?_) (fun c1 => ?_)
  ·
    have hin : n ≤ i := (nI_leI (by omega) (by omega)).mp c1
    have hr0 : r = none := fs_un hr (fun j hj => hi.2 j (by omega))
    subst hr0
    refine wk_run C k_PF_entryOf_49 (pc2 := 50) (lv2 := [(0, .ref a), (1, .int x), (2, .int (nI i))]) (st2 := [.null]) rfl ?_
    exact wk_aret C rfl (Or.inl ⟨_, rfl⟩) (Or.inl rfl) ⟨rfl, rfl⟩ (by decide) (by decide) d_PF_entryOf_50
  ·
    have hin : i < n := by rcases Nat.lt_or_ge i n with z | z; exact z; exact absurd (nI_le z (by omega)) c1
    refine wk_run C k_PF_entryOf_13 (pc2 := 14) (lv2 := [(0, .ref a), (1, .int x), (2, .int (nI i))]) (st2 := [.ref a]) rfl ?_
    refine wk_get C fd_PF_28 ha rfl d_PF_entryOf_14 ?_
    refine wk_run C k_PF_entryOf_17 (pc2 := 18) (lv2 := [(0, .ref a), (1, .int x), (2, .int (nI i))]) (st2 := [.int (nI i), .ref pl]) rfl ?_
    refine wk_callV (cl := ("java/util/ArrayList", T_AL, 3)) (rest := []) C (al_get (j := i) l HB hL hin) cs_PF_46 kc_AL_get ki_AL hl rfl rfl rfl (Nat.le_of_ble_eq_true rfl) (Nat.le_of_ble_eq_true rfl) (Nat.le_of_ble_eq_true rfl) (Nat.le_of_ble_eq_true rfl) (Nat.le_of_ble_eq_true rfl) d_PF_entryOf_18 (fun v h2 hq => ?_) (fun _ _ z => nomatch z.1)
    obtain ⟨e1, e2⟩ := hq; cases e1; replace e2 := e2.symm; subst e2
    refine wk_cast C (hE i hin) rfl cl_PF_50 d_PF_entryOf_21 ?_
    refine wk_get C fd_PF_52 (hE i hin) rfl d_PF_entryOf_24 ?_
    refine wk_run C k_PF_entryOf_27 (pc2 := 28) (lv2 := [(0, .ref a), (1, .int x), (2, .int (nI i))]) (st2 := [.int x, .int (wh i)]) rfl ?_
    refine wk_br C d_PF_entryOf_28 (P := ¬ (wh i) = x) (tgt := 43) (rest := []) rfl (by decide) (fun c2 => ?_) (fun c2 => ?_)
    ·
      refine wk_run C k_PF_entryOf_43 (pc2 := 46) (lv2 := [(2, .int ((nI i) + 1)), (0, .ref a), (1, .int x)]) (st2 := []) rfl ?_
      refine wk_goto C d_PF_entryOf_46 (tgt := 2) (by decide) ?_
      refine Wk.sub (lv2 := [(0, .ref a), (1, .int x), (2, .int ((nI i) + 1))]) [1, 2, 0] rfl ?_
      rw [nI_1]
      exact ih (i + 1) ⟨by omega, fun j hj => by by_cases z : j = i; (subst z; exact c2); exact hi.2 j (by omega)⟩ (by omega)
    ·
      have hr0 : r = some i := fs_un hr ⟨hin, Classical.not_not.mp c2, hi.2⟩
      subst hr0
      refine wk_run C k_PF_entryOf_31 (pc2 := 32) (lv2 := [(0, .ref a), (1, .int x), (2, .int (nI i))]) (st2 := [.ref a]) rfl ?_
      refine wk_get C fd_PF_28 ha rfl d_PF_entryOf_32 ?_
      refine wk_run C k_PF_entryOf_35 (pc2 := 36) (lv2 := [(0, .ref a), (1, .int x), (2, .int (nI i))]) (st2 := [.int (nI i), .ref pl]) rfl ?_
      refine wk_callV (cl := ("java/util/ArrayList", T_AL, 3)) (rest := []) C (al_get (j := i) l HB hL hin) cs_PF_46 kc_AL_get ki_AL hl rfl rfl rfl (Nat.le_of_ble_eq_true rfl) (Nat.le_of_ble_eq_true rfl) (Nat.le_of_ble_eq_true rfl) (Nat.le_of_ble_eq_true rfl) (Nat.le_of_ble_eq_true rfl) d_PF_entryOf_36 (fun v h2 hq => ?_) (fun _ _ z => nomatch z.1)
      obtain ⟨e1, e2⟩ := hq; cases e1; replace e2 := e2.symm; subst e2
      refine wk_cast C (hE i hin) rfl cl_PF_50 d_PF_entryOf_39 ?_
      exact wk_aret C rfl (Or.inl ⟨_, rfl⟩) (Or.inr ⟨_, rfl⟩) ⟨rfl, rfl⟩ (by decide) (by decide) d_PF_entryOf_42
theorem k_PF_dropEntry_0 : px_dec prog_5_method_6_code [.iconst 0, .istore_n 2] 0 = true := by decide +kernel
theorem k_PF_dropEntry_2 : px_dec prog_5_method_6_code [.iload_n 2, .aload_n 0] 2 = true := by decide +kernel
theorem d_PF_dropEntry_4 : decode prog_5_method_6_code 4 = .ok (.getfield 28, 3) := by decide +kernel
theorem d_PF_dropEntry_7 : decode prog_5_method_6_code 7 = .ok (.invokevirtual 42, 3) := by decide +kernel
theorem d_PF_dropEntry_10 : decode prog_5_method_6_code 10 = .ok (.if_icmp .ge 37, 3) := by decide +kernel
theorem d_PF_dropEntry_47 : decode prog_5_method_6_code 47 = .ok (.return_, 1) := by decide +kernel
theorem k_PF_dropEntry_13 : px_dec prog_5_method_6_code [.aload_n 0] 13 = true := by decide +kernel
theorem d_PF_dropEntry_14 : decode prog_5_method_6_code 14 = .ok (.getfield 28, 3) := by decide +kernel
theorem k_PF_dropEntry_17 : px_dec prog_5_method_6_code [.iload_n 2] 17 = true := by decide +kernel
theorem d_PF_dropEntry_18 : decode prog_5_method_6_code 18 = .ok (.invokevirtual 46, 3) := by decide +kernel
theorem d_PF_dropEntry_21 : decode prog_5_method_6_code 21 = .ok (.checkcast 50, 3) := by decide +kernel
theorem d_PF_dropEntry_24 : decode prog_5_method_6_code 24 = .ok (.getfield 52, 3) := by decide +kernel
theorem k_PF_dropEntry_27 : px_dec prog_5_method_6_code [.iload_n 1] 27 = true := by decide +kernel
theorem d_PF_dropEntry_28 : decode prog_5_method_6_code 28 = .ok (.if_icmp .ne 13, 3) := by decide +kernel
theorem k_PF_dropEntry_41 : px_dec prog_5_method_6_code [.iinc 2 1] 41 = true := by decide +kernel
theorem d_PF_dropEntry_44 : decode prog_5_method_6_code 44 = .ok (.goto (-42), 3) := by decide +kernel
theorem k_PF_dropEntry_31 : px_dec prog_5_method_6_code [.aload_n 0] 31 = true := by decide +kernel
theorem d_PF_dropEntry_32 : decode prog_5_method_6_code 32 = .ok (.getfield 28, 3) := by decide +kernel
theorem k_PF_dropEntry_35 : px_dec prog_5_method_6_code [.iload_n 2] 35 = true := by decide +kernel
theorem d_PF_dropEntry_36 : decode prog_5_method_6_code 36 = .ok (.invokevirtual 55, 3) := by decide +kernel
theorem k_PF_dropEntry_39 : px_dec prog_5_method_6_code [.pop] 39 = true := by decide +kernel
theorem d_PF_dropEntry_40 : decode prog_5_method_6_code 40 = .ok (.return_, 1) := by decide +kernel
set_option maxRecDepth 100000 in
set_option maxHeartbeats 4000000 in
theorem c_PF_dropEntry (l : Launch) (D : va_G) (HB : Heap) (h : hp_T) (a pn pl b n : Nat) (n0 n1 ul mk : Int32) (eA : Nat → Nat) (wh gr pc ho : Nat → Int32) (ha : h a = some (.inr (5, [.int n0, .int n1, .ref pn, .ref pl, .int ul, .int mk]))) (hL : al_ok D h pl b n eA) (hE : en_ok h n eA wh gr pc ho) (hn : n ≤ 10) (x : Int32) (r : Option Nat) (hr : fs_ wh x n r) : ct_M l y_PF_dropEntry (.code y_PF_dropEntry prog_5_method_6_code 3 (Option.none : Option Jvm.ClassFile.FieldType)) ({ frames := 3, cells := 0, slots := 0, locals := 106 }) D HB [.ref a, .int x] h (fun o h2 => o = .inl none ∧ match r with | some k => al_ok D h2 pl b (n - 1) (al_del eA k) ∧ al_fr h h2 pl b | none => h2 = h) := by
  refine ct_of (by decide) (Nat.le_of_ble_eq_true rfl) rfl ?_
  intro p_ e_ s_ m_ r_ b_ t_ c_ C hnm
  obtain ⟨md, hl, -⟩ := id hL
  refine wk_run C k_PF_dropEntry_0 (pc2 := 2) (lv2 := [(2, .int 0), (0, .ref a), (1, .int x)]) (st2 := []) rfl ?_
  refine Wk.sub (lv2 := [(0, .ref a), (1, .int x), (2, .int 0)]) [1, 2, 0] rfl ?_
  refine wk_ind (σ := Nat) (hF := fun _ => h) (lvF := fun i => [(0, .ref a), (1, .int x), (2, .int (nI i))]) (fun i => n - i) (fun i => i ≤ n ∧ ∀ j, j < i → wh j ≠ x) (fun i hi ih => ?_) 0 ⟨Nat.zero_le n, fun j hj => absurd hj (Nat.not_lt_zero j)⟩
  show Wk _ _ _ _ _ _ _ _ _ _ _ _ _ _ _ _ _ _ [(0, .ref a), (1, .int x), (2, .int (nI i))] _
  refine wk_run C k_PF_dropEntry_2 (pc2 := 4) (lv2 := [(0, .ref a), (1, .int x), (2, .int (nI i))]) (st2 := [.ref a, .int (nI i)]) rfl ?_
  refine wk_get C fd_PF_28 ha rfl d_PF_dropEntry_4 ?_
  refine wk_callV (cl := ("java/util/ArrayList", T_AL, 3)) (rest := [.int (nI i)]) C (al_size l HB hL) cs_PF_42 kc_AL_size ki_AL hl rfl rfl rfl (Nat.le_of_ble_eq_true rfl) (Nat.le_of_ble_eq_true rfl) (Nat.le_of_ble_eq_true rfl) (Nat.le_of_ble_eq_true rfl) (Nat.le_of_ble_eq_true rfl) d_PF_dropEntry_7 (fun v h2 hq => ?_) (fun _ _ z => nomatch z.1)
  obtain ⟨e1, e2⟩ := hq; cases e1; replace e2 := e2.symm; subst e2
  refine wk_br C d_PF_dropEntry_10 (P := (nI n) ≤ (nI i)) (tgt := 47) (rest := []) rfl (by decide) (fun c1 => ?_) (fun c1 => ?_)
  ·
    have hin : n ≤ i := (nI_leI (by omega) (by omega)).mp c1
    have hr0 : r = none := fs_un hr (fun j hj => hi.2 j (by omega))
    subst hr0
    exact wk_vret C ⟨rfl, rfl⟩ (by decide) (by decide) d_PF_dropEntry_47
  ·
    have hin : i < n := by rcases Nat.lt_or_ge i n with z | z; exact z; exact absurd (nI_le z (by omega)) c1
    refine wk_run C k_PF_dropEntry_13 (pc2 := 14) (lv2 := [(0, .ref a), (1, .int x), (2, .int (nI i))]) (st2 := [.ref a]) rfl ?_
    refine wk_get C fd_PF_28 ha rfl d_PF_dropEntry_14 ?_
    refine wk_run C k_PF_dropEntry_17 (pc2 := 18) (lv2 := [(0, .ref a), (1, .int x), (2, .int (nI i))]) (st2 := [.int (nI i), .ref pl]) rfl ?_
    refine wk_callV (cl := ("java/util/ArrayList", T_AL, 3)) (rest := []) C (al_get (j := i) l HB hL hin) cs_PF_46 kc_AL_get ki_AL hl rfl rfl rfl (Nat.le_of_ble_eq_true rfl) (Nat.le_of_ble_eq_true rfl) (Nat.le_of_ble_eq_true rfl) (Nat.le_of_ble_eq_true rfl) (Nat.le_of_ble_eq_true rfl) d_PF_dropEntry_18 (fun v h2 hq => ?_) (fun _ _ z => nomatch z.1)
    obtain ⟨e1, e2⟩ := hq; cases e1; replace e2 := e2.symm; subst e2
    refine wk_cast C (hE i hin) rfl cl_PF_50 d_PF_dropEntry_21 ?_
    refine wk_get C fd_PF_52 (hE i hin) rfl d_PF_dropEntry_24 ?_
    refine wk_run C k_PF_dropEntry_27 (pc2 := 28) (lv2 := [(0, .ref a), (1, .int x), (2, .int (nI i))]) (st2 := [.int x, .int (wh i)]) rfl ?_
    refine wk_br C d_PF_dropEntry_28 (P := ¬ (wh i) = x) (tgt := 41) (rest := []) rfl (by decide) (fun c2 => ?_) (fun c2 => ?_)
    ·
      refine wk_run C k_PF_dropEntry_41 (pc2 := 44) (lv2 := [(2, .int ((nI i) + 1)), (0, .ref a), (1, .int x)]) (st2 := []) rfl ?_
      refine wk_goto C d_PF_dropEntry_44 (tgt := 2) (by decide) ?_
      refine Wk.sub (lv2 := [(0, .ref a), (1, .int x), (2, .int ((nI i) + 1))]) [1, 2, 0] rfl ?_
      rw [nI_1]
      exact ih (i + 1) ⟨by omega, fun j hj => by by_cases z : j = i; (subst z; exact c2); exact hi.2 j (by omega)⟩ (by omega)
    ·
      have hr0 : r = some i := fs_un hr ⟨hin, Classical.not_not.mp c2, hi.2⟩
      subst hr0
      refine wk_run C k_PF_dropEntry_31 (pc2 := 32) (lv2 := [(0, .ref a), (1, .int x), (2, .int (nI i))]) (st2 := [.ref a]) rfl ?_
      refine wk_get C fd_PF_28 ha rfl d_PF_dropEntry_32 ?_
      refine wk_run C k_PF_dropEntry_35 (pc2 := 36) (lv2 := [(0, .ref a), (1, .int x), (2, .int (nI i))]) (st2 := [.int (nI i), .ref pl]) rfl ?_
      refine wk_callV (cl := ("java/util/ArrayList", T_AL, 3)) (rest := []) C (c_AL_remove l D HB h pl b n i eA hL hin (fun j hj => kx_ob 4 (by decide) (hE j hj))) cs_PF_55 kc_AL_remove ki_AL hl rfl rfl rfl (Nat.le_of_ble_eq_true rfl) (Nat.le_of_ble_eq_true rfl) (Nat.le_of_ble_eq_true rfl) (Nat.le_of_ble_eq_true rfl) (Nat.le_of_ble_eq_true rfl) d_PF_dropEntry_36 (fun v h3 hq => ?_) (fun _ _ z => nomatch z.1)
      obtain ⟨e1, k1, k2⟩ := hq; cases e1
      refine wk_run C k_PF_dropEntry_39 (pc2 := 40) (lv2 := [(0, .ref a), (1, .int x), (2, .int (nI i))]) (st2 := []) rfl ?_
      exact wk_vret C ⟨rfl, k1, k2⟩ (by decide) (by decide) d_PF_dropEntry_40
theorem k_PF_openEntryOf_0 : px_dec prog_5_method_8_code [.aload_n 0, .iload_n 1] 0 = true := by decide +kernel
theorem d_PF_openEntryOf_2 : decode prog_5_method_8_code 2 = .ok (.invokevirtual 78, 3) := by decide +kernel
theorem k_PF_openEntryOf_5 : px_dec prog_5_method_8_code [.astore 4, .aload 4] 5 = true := by decide +kernel
theorem d_PF_openEntryOf_9 : decode prog_5_method_8_code 9 = .ok (.ifnull 18, 3) := by decide +kernel
theorem k_PF_openEntryOf_27 : px_dec prog_5_method_8_code [.aconst_null] 27 = true := by decide +kernel
theorem d_PF_openEntryOf_28 : decode prog_5_method_8_code 28 = .ok (.areturn, 1) := by decide +kernel
theorem k_PF_openEntryOf_12 : px_dec prog_5_method_8_code [.aload 4, .aload_n 2, .iload_n 3] 12 = true := by decide +kernel
theorem d_PF_openEntryOf_16 : decode prog_5_method_8_code 16 = .ok (.invokevirtual 82, 3) := by decide +kernel
theorem d_PF_openEntryOf_19 : decode prog_5_method_8_code 19 = .ok (.ifCond .eq 8, 3) := by decide +kernel
theorem k_PF_openEntryOf_22 : px_dec prog_5_method_8_code [.aload 4] 22 = true := by decide +kernel
theorem d_PF_openEntryOf_24 : decode prog_5_method_8_code 24 = .ok (.goto 4, 3) := by decide +kernel
set_option maxRecDepth 100000 in
set_option maxHeartbeats 4000000 in
theorem c_PF_openEntryOf (l : Launch) (D : va_G) (HB : Heap) (h : hp_T) (a pn pl b n : Nat) (n0 n1 ul mk : Int32) (eA : Nat → Nat) (wh gr pc ho : Nat → Int32) (ha : h a = some (.inr (5, [.int n0, .int n1, .ref pn, .ref pl, .int ul, .int mk]))) (hL : al_ok D h pl b n eA) (hE : en_ok h n eA wh gr pc ho) (hn : n ≤ 10) (u ug : Nat) (u0 u2 u3 u4 : Int32) (u5 : Int64) (hu : h u = some (.inr (2, [.int u0, .ref ug, .int u2, .int u3, .int u4, .long u5]))) (x hr : Int32) (r : Option Nat) (hf : fs_ wh x n r) : ct_M l y_PF_openEntryOf (.code y_PF_openEntryOf prog_5_method_8_code 5 (Option.some (Jvm.ClassFile.FieldType.object "ProfileRights$Entry"))) ({ frames := 4, cells := 0, slots := 0, locals := 86 }) D HB [.ref a, .int x, .ref u, .int hr] h (fun o h2 => o = .inl (some (va_rf ((oe_ pc ho u2 hr r).map eA))) ∧ h2 = h) := by
  refine ct_of (by decide) (Nat.le_of_ble_eq_true rfl) rfl ?_
  intro p_ e_ s_ m_ r_ b_ t_ c_ C hnm
  refine wk_run C k_PF_openEntryOf_0 (pc2 := 2) (lv2 := [(0, .ref a), (1, .int x), (2, .ref u), (3, .int hr)]) (st2 := [.int x, .ref a]) rfl ?_
  refine wk_callV (cl := ("ProfileRights$Profile", T_PF, 6)) (rest := []) C (c_PF_entryOf l D HB h a pn pl b n n0 n1 ul mk eA wh gr pc ho ha hL hE hn x r hf) cs_PF_78 kc_PF_entryOf ki_PF ha rfl rfl rfl (Nat.le_of_ble_eq_true rfl) (Nat.le_of_ble_eq_true rfl) (Nat.le_of_ble_eq_true rfl) (Nat.le_of_ble_eq_true rfl) (Nat.le_of_ble_eq_true rfl) d_PF_openEntryOf_2 (fun v h2 hq => ?_) (fun _ _ z => nomatch z.1)
  obtain ⟨e1, e2⟩ := hq; cases e1; replace e2 := e2.symm; subst e2
  cases r with
  | none =>
    show Wk _ _ _ _ _ _ _ _ _ _ _ _ _ _ _ _ _ _ _ [.null]
    refine wk_run C k_PF_openEntryOf_5 (pc2 := 9) (lv2 := [(4, .null), (0, .ref a), (1, .int x), (2, .ref u), (3, .int hr)]) (st2 := [.null]) rfl ?_
    refine wk_nlN C d_PF_openEntryOf_9 (tgt := 27) (by decide) ?_
    refine wk_run C k_PF_openEntryOf_27 (pc2 := 28) (lv2 := [(4, .null), (0, .ref a), (1, .int x), (2, .ref u), (3, .int hr)]) (st2 := [.null]) rfl ?_
    exact wk_aret C rfl (Or.inl ⟨_, rfl⟩) (Or.inl rfl) ⟨rfl, rfl⟩ (by decide) (by decide) d_PF_openEntryOf_28
  | some k =>
    show Wk _ _ _ _ _ _ _ _ _ _ _ _ _ _ _ _ _ _ _ [.ref (eA k)]
    have hk := hf.1
    refine wk_run C k_PF_openEntryOf_5 (pc2 := 9) (lv2 := [(4, .ref (eA k)), (0, .ref a), (1, .int x), (2, .ref u), (3, .int hr)]) (st2 := [.ref (eA k)]) rfl ?_
    refine wk_nlR C d_PF_openEntryOf_9 ?_
    refine wk_run C k_PF_openEntryOf_12 (pc2 := 16) (lv2 := [(4, .ref (eA k)), (0, .ref a), (1, .int x), (2, .ref u), (3, .int hr)]) (st2 := [.int hr, .ref u, .ref (eA k)]) rfl ?_
    refine wk_callV (cl := ("ProfileRights$Entry", T_EN, 4)) (rest := []) C (c_EN_isOpen l D HB h (eA k) u ug (wh k) (gr k) (pc k) (ho k) u0 u2 u3 u4 hr u5 (hE k hk) hu) cs_PF_82 kc_EN_isOpen ki_EN (hE k hk) rfl rfl rfl (Nat.le_of_ble_eq_true rfl) (Nat.le_of_ble_eq_true rfl) (Nat.le_of_ble_eq_true rfl) (Nat.le_of_ble_eq_true rfl) (Nat.le_of_ble_eq_true rfl) d_PF_openEntryOf_16 (fun v h2 hq => ?_) (fun _ _ z => nomatch z.1)
    obtain ⟨e1, e2⟩ := hq; cases e1; replace e2 := e2.symm; subst e2
    refine wk_br C d_PF_openEntryOf_19 (P := (if (pc k = 0 ∨ pc k = u2) ∧ ¬ (ho k >>> (hr &&& 31)) &&& 1 = 0 then (1 : Int32) else 0) = 0) (tgt := 27) (rest := []) rfl (by decide) (fun c1 => ?_) (fun c1 => ?_)
    ·
      refine wk_run C k_PF_openEntryOf_27 (pc2 := 28) (lv2 := [(4, .ref (eA k)), (0, .ref a), (1, .int x), (2, .ref u), (3, .int hr)]) (st2 := [.null]) rfl ?_
      have hno : ¬ op_ pc ho u2 hr k := fun z => by unfold op_ at z; rw [if_pos z] at c1; exact absurd c1 (by decide)
      exact wk_aret C rfl (Or.inl ⟨_, rfl⟩) (Or.inl rfl) ⟨by show _ = Sum.inl (some (va_rf (Option.map eA (@ite _ (op_ pc ho u2 hr k) (Classical.propDecidable _) (some k) none)))); rw [if_neg hno]; rfl, rfl⟩ (by decide) (by decide) d_PF_openEntryOf_28
    ·
      refine wk_run C k_PF_openEntryOf_22 (pc2 := 24) (lv2 := [(4, .ref (eA k)), (0, .ref a), (1, .int x), (2, .ref u), (3, .int hr)]) (st2 := [.ref (eA k)]) rfl ?_
      refine wk_goto C d_PF_openEntryOf_24 (tgt := 28) (by decide) ?_
      have hop : op_ pc ho u2 hr k := Classical.byContradiction (fun z => by unfold op_ at z; rw [if_neg z] at c1; exact c1 rfl)
      exact wk_aret C rfl (Or.inl ⟨_, rfl⟩) (Or.inr ⟨_, rfl⟩) ⟨by show _ = Sum.inl (some (va_rf (Option.map eA (@ite _ (op_ pc ho u2 hr k) (Classical.propDecidable _) (some k) none)))); rw [if_pos hop]; rfl, rfl⟩ (by decide) (by decide) d_PF_openEntryOf_28
end
section
section JN
variable {p : Program} {l : Launch} {e : Env} {R : Room} {s : State} {m : MethodId} {args : Array Value} {below : List Frame} {meth : Method} {c : Code} {Q : State → Prop} {nL : Nat} {D : va_G} {HB : Heap} {cells slots pc : Nat} {st : List Value} {h : hp_T} {lv : List (Nat × Value)}
/-- roads that meet -/
theorem wk_join {α : Type} {hF : α → hp_T} {lvF : α → List (Nat × Value)} {stF : α → List Value} {pc2 : Nat} (P : α → Prop) (k : ∀ a, P a → Wk p l e R s m args below meth c nL D HB Q (hF a) cells slots pc2 (lvF a) (stF a))
    (kk : (∀ a, P a → Wk p l e R s m args below meth c nL D HB Q (hF a) cells slots pc2 (lvF a) (stF a)) → Wk p l e R s m args below meth c nL D HB Q h cells slots pc lv st) : Wk p l e R s m args below meth c nL D HB Q h cells slots pc lv st := kk k
end JN
/-! the reference's content: row k of V is its field k (a number at 0, or a whole array) -/
abbrev vT : Type := Nat → Nat → Int32
def vs (V : vT) (k : Nat) (f : Nat → Int32) : vT := fun j => if j = k then f else V j
theorem vs_s {V : vT} {k : Nat} {f : Nat → Int32} : vs V k f k = f := if_pos rfl
theorem vs_n {V : vT} {k j : Nat} {f : Nat → Int32} (h : j ≠ k) : vs V k f j = V j := if_neg h
def vc (V : vT) (k : Nat) (x : Int32) : vT := vs V k (fun _ => x)
def nu (x : Int32) : Nat := x.toNatClampNeg
theorem nu_nI {n : Nat} (h : n < 2 ^ 31) : nu (nI n) = n := nI_clamp h
/-- a number of 0 .. n -/
def ok_ (x : Int32) (n : Nat) : Prop := x = nI (nu x) ∧ nu x ≤ n
theorem ok_nI {m n : Nat} (h : m ≤ n) (hn : n < 2 ^ 31) : ok_ (nI m) n := ⟨by rw [nu_nI (by omega)], by rw [nu_nI (by omega)]; exact h⟩
theorem ok_of {x : Int32} {m n : Nat} (e : x = nI m) (h : m ≤ n) (hn : n < 2 ^ 31) : ok_ x n := e ▸ ok_nI h hn
theorem ok_int {x : Int32} {n : Nat} (h : ok_ x n) (hn : n < 2 ^ 31) : x.toInt = (nu x : Int) := by rw [h.1, nI_toInt (by have := h.2; omega), ← h.1]
theorem vi_ {x y : Int32} {N n : Nat} (h1 : ¬ x < 1) (h2 : x ≤ y) (hy : ok_ y N) (hN : N < n) (hn : n < 2 ^ 31) : vp_in x n := by
  intro z
  have e1 := ok_int hy (by omega)
  have e2 := hy.2
  rw [Int32.lt_iff_toInt_lt] at h1
  rw [Int32.le_iff_toInt_le, e1] at h2
  have e3 : (1 : Int32).toInt = 1 := by decide
  rw [e3] at h1
  rcases z with z | z
  · rw [Int32.lt_iff_toInt_lt] at z
    have e4 : (0 : Int32).toInt = 0 := by decide
    rw [e4] at z; omega
  · have : x.toNatClampNeg = x.toInt.toNat := rfl
    omega
theorem vi_k {x : Int32} {N n : Nat} (hy : ok_ x N) (hN : N < n) (hn : n < 2 ^ 31) : vp_in x n := by
  rw [hy.1]; exact nI_in (by have := hy.2; omega) hn
/-- the class and the length of each array of the reference -/
def ml_ (k : Nat) : Option (Nat × Nat) := [none, some (100, 21), some (100, 41), some (100, 41), some (100, 41), some (103, 41), some (103, 1681), none, none, none, some (100, 8), some (100, 61), some (100, 1220), some (100, 61), some (100, 61), some (100, 61), some (100, 61), some (100, 610), some (100, 610), some (100, 610), some (100, 610), some (100, 20), none, none, some (100, 1000), none, some (103, 441)].getD k none
def mf_ (A : Nat → Nat) (V : vT) : List Value := [.int (V 0 0), .ref (A 1), .ref (A 2), .ref (A 3), .ref (A 4), .ref (A 5), .ref (A 6), .int (V 7 0), .int (V 8 0), .int (V 9 0), .ref (A 10), .ref (A 11), .ref (A 12), .ref (A 13), .ref (A 14), .ref (A 15), .ref (A 16), .ref (A 17), .ref (A 18), .ref (A 19), .ref (A 20), .ref (A 21), .int (V 22 0), .int (V 23 0), .ref (A 24), .int (V 25 0), .ref (A 26)]
/-- the reference stands in the heap with the content V; what was known beside it stays known -/
def mq (D : va_G) (h0 h : hp_T) (y : Nat) (A : Nat → Nat) (V : vT) : Prop :=
  h y = some (.inr (8, mf_ A V)) ∧ (∀ k t n, ml_ k = some (t, n) → h (A k) = some (.inl (D.1 t, n, .inl (V k)))) ∧ (∀ k j, ml_ k ≠ none → ml_ j ≠ none → A k = A j → k = j) ∧ (∀ q x, q ≠ y → (∀ k, ml_ k ≠ none → q ≠ A k) → h0 q = some x → h q = some x)
theorem mq.ob {D : va_G} {h0 h : hp_T} {y : Nat} {A : Nat → Nat} {V : vT} (M : mq D h0 h y A V) : h y = some (.inr (8, mf_ A V)) := M.1
theorem mq.ar {D : va_G} {h0 h : hp_T} {y : Nat} {A : Nat → Nat} {V : vT} (M : mq D h0 h y A V) : ∀ k t n, ml_ k = some (t, n) → h (A k) = some (.inl (D.1 t, n, .inl (V k))) := M.2.1
theorem mq.ij {D : va_G} {h0 h : hp_T} {y : Nat} {A : Nat → Nat} {V : vT} (M : mq D h0 h y A V) : ∀ k j, ml_ k ≠ none → ml_ j ≠ none → A k = A j → k = j := M.2.2.1
theorem mq.fr {D : va_G} {h0 h : hp_T} {y : Nat} {A : Nat → Nat} {V : vT} (M : mq D h0 h y A V) : ∀ q x, q ≠ y → (∀ k, ml_ k ≠ none → q ≠ A k) → h0 q = some x → h q = some x := M.2.2.2
theorem mq.ny {D : va_G} {h0 h : hp_T} {y : Nat} {A : Nat → Nat} {V : vT} (M : mq D h0 h y A V) {k : Nat} (hk : ml_ k ≠ none) : A k ≠ y := by
  intro z
  cases e : ml_ k with
  | none => exact hk e
  | some tn =>
    have h1 := M.ar k tn.1 tn.2 e
    rw [z, M.ob] at h1
    cases h1
def sc_ (k : Nat) : Prop := k = 0 ∨ k = 7 ∨ k = 8 ∨ k = 9 ∨ k = 22 ∨ k = 23 ∨ k = 25
theorem sc_no {k : Nat} (h : sc_ k) : ml_ k = none := by rcases h with rfl | rfl | rfl | rfl | rfl | rfl | rfl <;> rfl
theorem mq.sc {D : va_G} {h0 h : hp_T} {y : Nat} {A : Nat → Nat} {V : vT} (M : mq D h0 h y A V) {k : Nat} (hk : sc_ k) (x : Int32) : mq D h0 (hp_up h y (.inr (8, mf_ A (vc V k x)))) y A (vc V k x) := by
  refine ⟨hp_us, fun j t n hj => ?_, M.ij, fun q x hq hA hx => ?_⟩
  · rw [hp_un (M.ny (by rw [hj]; exact fun z => nomatch z))]
    have hne : j ≠ k := fun z => by rw [z, sc_no hk] at hj; cases hj
    rw [show vc V k x j = V j from vs_n hne]
    exact M.ar j t n hj
  · rw [hp_un hq]; exact M.fr q x hq hA hx
theorem mf_ar {A : Nat → Nat} {V : vT} {k : Nat} {f : Nat → Int32} (hk : ml_ k ≠ none) : mf_ A (vs V k f) = mf_ A V := by
  have hn : ∀ j, sc_ j → vs V k f j = V j := fun j hj => vs_n (fun z => hk (by rw [← z]; exact sc_no hj))
  unfold mf_
  rw [hn 0 (by simp [sc_]), hn 7 (by simp [sc_]), hn 8 (by simp [sc_]), hn 9 (by simp [sc_]), hn 22 (by simp [sc_]), hn 23 (by simp [sc_]), hn 25 (by simp [sc_])]
theorem mq.st {D : va_G} {h0 h : hp_T} {y : Nat} {A : Nat → Nat} {V : vT} (M : mq D h0 h y A V) {k t n : Nat} (hk : ml_ k = some (t, n)) (f : Nat → Int32) : mq D h0 (hp_up h (A k) (.inl (D.1 t, n, .inl f))) y A (vs V k f) := by
  have hk2 : ml_ k ≠ none := by rw [hk]; exact fun z => nomatch z
  refine ⟨?_, fun j t2 n2 hj => ?_, M.ij, fun q x hq hA hx => ?_⟩
  · rw [hp_un (fun z => M.ny hk2 z.symm), mf_ar hk2]; exact M.ob
  · by_cases z : j = k
    · subst z; rw [hk] at hj; cases hj; rw [hp_us, vs_s]
    · rw [hp_un (fun e => z (M.ij j k (by rw [hj]; exact fun z => nomatch z) hk2 e)), vs_n z]; exact M.ar j t2 n2 hj
  · rw [hp_un (hA k hk2)]; exact M.fr q x hq hA hx
section MW
variable {p : Program} {l : Launch} {e : Env} {R : Room} {s : State} {m : MethodId} {args : Array Value} {below : List Frame} {meth : Method} {c : Code} {Q : State → Prop}
variable {cc : ByteArray} {own : String} {nL : Nat} {ret : Option FieldType} {hh : List (Nat × Nat × Nat × Nat)} {D : va_G} {HB : Heap}
variable {h h0 : hp_T} {cells slots pc : Nat} {lv : List (Nat × Value)} {rest : List Value} {y : Nat} {A : Nat → Nat} {V : vT}
theorem wm_put (C : wk_C p s m args meth c cc own nL ret hh D HB) (M : mq D h0 h y A V) (k : Nat) {index : Nat} {x : Int32} (hk : sc_ k) (F : fd_ok own index 8 k .int false) (e2 : (mf_ A V).set k (.int x) = mf_ A (vc V k x)) (hd : decode cc pc = .ok (.putfield index, 3))
    (kk : ∀ h2, mq D h0 h2 y A (vc V k x) → Wk p l e R s m args below meth c nL D HB Q h2 cells slots (pc + 3) lv rest) : Wk p l e R s m args below meth c nL D HB Q h cells slots pc lv (.int x :: .ref y :: rest) :=
  wk_put C F M.ob rfl rfl (by rcases hk with rfl | rfl | rfl | rfl | rfl | rfl | rfl <;> exact Nat.le_of_ble_eq_true rfl) e2 hd (kk _ (M.sc hk x))
theorem wm_ld (C : wk_C p s m args meth c cc own nL ret hh D HB) (M : mq D h0 h y A V) (k : Nat) {n j : Nat} {i : Int32} (hk : ml_ k = some (100, n)) (hi : vp_in i n) (hj : nu i = j) (hd : decode cc pc = .ok (.iaload, 1))
    (kk : Wk p l e R s m args below meth c nL D HB Q h cells slots (pc + 1) lv (.int (V k j) :: rest)) : Wk p l e R s m args below meth c nL D HB Q h cells slots pc lv (.int i :: .ref (A k) :: rest) :=
  wk_iald C (M.ar k _ _ hk) hi hd (by rw [← hj] at kk; exact kk)
theorem wm_ldz (C : wk_C p s m args meth c cc own nL ret hh D HB) (M : mq D h0 h y A V) (k : Nat) {n j : Nat} {i : Int32} (hk : ml_ k = some (103, n)) (hi : vp_in i n) (hj : nu i = j) (hd : decode cc pc = .ok (.baload, 1))
    (kk : Wk p l e R s m args below meth c nL D HB Q h cells slots (pc + 1) lv (.int (V k j) :: rest)) : Wk p l e R s m args below meth c nL D HB Q h cells slots pc lv (.int i :: .ref (A k) :: rest) :=
  wk_zald C (M.ar k _ _ hk) hi hd (by rw [← hj] at kk; exact kk)
theorem wm_st (C : wk_C p s m args meth c cc own nL ret hh D HB) (M : mq D h0 h y A V) (k : Nat) {n j : Nat} {i x : Int32} (hk : ml_ k = some (100, n)) (hi : vp_in i n) (hj : nu i = j) (hd : decode cc pc = .ok (.iastore, 1))
    (kk : ∀ h2, mq D h0 h2 y A (vs V k (upd (V k) j x)) → Wk p l e R s m args below meth c nL D HB Q h2 cells slots (pc + 1) lv rest) : Wk p l e R s m args below meth c nL D HB Q h cells slots pc lv (.int x :: .int i :: .ref (A k) :: rest) :=
  wk_iast C (M.ar k _ _ hk) hi hd (kk _ (by rw [← hj]; exact M.st hk _))
theorem wm_stz (C : wk_C p s m args meth c cc own nL ret hh D HB) (M : mq D h0 h y A V) (k : Nat) {n j : Nat} {i x : Int32} (hk : ml_ k = some (103, n)) (hi : vp_in i n) (hj : nu i = j) (hx : vp_nar .boolean x = x) (hd : decode cc pc = .ok (.bastore, 1))
    (kk : ∀ h2, mq D h0 h2 y A (vs V k (upd (V k) j x)) → Wk p l e R s m args below meth c nL D HB Q h2 cells slots (pc + 1) lv rest) : Wk p l e R s m args below meth c nL D HB Q h cells slots pc lv (.int x :: .int i :: .ref (A k) :: rest) :=
  wk_zast C (M.ar k _ _ hk) hi hx hd (kk _ (by rw [← hj]; exact M.st hk _))
end MW
end
section
theorem bz_ {P : Prop} [Decidable P] (h : (if P then (1 : Int32) else 0) = 0) : ¬ P := fun z => by rw [if_pos z] at h; exact absurd h (by decide)
theorem bn_ {P : Prop} [Decidable P] (h : ¬ (if P then (1 : Int32) else 0) = 0) : P := Classical.byContradiction (fun z => h (if_neg z))
theorem nb_z {x : Int32} (h : x = 0 ∨ x = 1) : narrow .boolean (.int x) = .int x := by rcases h with rfl | rfl <;> rfl
theorem nb_i {P : Prop} [Decidable P] : narrow .boolean (.int (if P then (1 : Int32) else 0)) = .int (if P then (1 : Int32) else 0) := by split <;> rfl
theorem vn_z {x : Int32} (h : x = 0 ∨ x = 1) : vp_nar .boolean x = x := by rcases h with rfl | rfl <;> rfl

theorem k_MD_isGroup_0 : px_dec prog_9_method_4_code [.iload_n 1, .iconst 1] 0 = true := by decide +kernel
theorem d_MD_isGroup_2 : decode prog_9_method_4_code 2 = .ok (.if_icmp .lt 15, 3) := by decide +kernel
theorem k_MD_isGroup_17 : px_dec prog_9_method_4_code [.iconst 0] 17 = true := by decide +kernel
theorem d_MD_isGroup_18 : decode prog_9_method_4_code 18 = .ok (.ireturn, 1) := by decide +kernel
theorem k_MD_isGroup_5 : px_dec prog_9_method_4_code [.iload_n 1, .aload_n 0] 5 = true := by decide +kernel
theorem d_MD_isGroup_7 : decode prog_9_method_4_code 7 = .ok (.getfield 75, 3) := by decide +kernel
theorem d_MD_isGroup_10 : decode prog_9_method_4_code 10 = .ok (.if_icmp .gt 7, 3) := by decide +kernel
theorem k_MD_isGroup_13 : px_dec prog_9_method_4_code [.iconst 1] 13 = true := by decide +kernel
theorem d_MD_isGroup_14 : decode prog_9_method_4_code 14 = .ok (.goto 4, 3) := by decide +kernel
set_option maxRecDepth 100000 in
set_option maxHeartbeats 4000000 in
theorem c_MD_isGroup (l : Launch) (D : va_G) (HB : Heap) (h : hp_T) (h0 : hp_T) (y : Nat) (A : Nat → Nat) (V : vT) (x : Int32) (hM : mq D h0 h y A V) : ct_M l y_MD_isGroup (.code y_MD_isGroup prog_9_method_4_code 2 (Option.some Jvm.ClassFile.FieldType.boolean)) ({ frames := 0, cells := 0, slots := 0, locals := 0 }) D HB [.ref y, .int x] h (fun o h2 => o = .inl (some (.int (if ¬ x < 1 ∧ x ≤ V 7 0 then (1 : Int32) else 0))) ∧ h2 = h) := by
  refine ct_of (by decide) (Nat.le_of_ble_eq_true rfl) rfl ?_
  intro p_ e_ s_ m_ r_ b_ t_ c_ C hnm
  refine wk_run C k_MD_isGroup_0 (pc2 := 2) (lv2 := [(0, .ref y), (1, .int x)]) (st2 := [.int 1, .int x]) rfl ?_
  refine wk_br C d_MD_isGroup_2 (P := x < 1) (tgt := 17) (rest := []) rfl (by decide) (fun c1 => ?_) (fun c1 => ?_)
  ·
    refine wk_run C k_MD_isGroup_17 (pc2 := 18) (lv2 := [(0, .ref y), (1, .int x)]) (st2 := [.int 0]) rfl ?_
    exact wk_zret C rfl ⟨by rw [if_neg (by grind)], rfl⟩ (by decide) (by decide) d_MD_isGroup_18
  ·
    refine wk_run C k_MD_isGroup_5 (pc2 := 7) (lv2 := [(0, .ref y), (1, .int x)]) (st2 := [.ref y, .int x]) rfl ?_
    refine wk_get (v := .int (V 7 0)) C fd_MD_75 hM.ob rfl d_MD_isGroup_7 ?_
    refine wk_br C d_MD_isGroup_10 (P := (V 7 0) < x) (tgt := 17) (rest := []) rfl (by decide) (fun c2 => ?_) (fun c2 => ?_)
    ·
      refine wk_run C k_MD_isGroup_17 (pc2 := 18) (lv2 := [(0, .ref y), (1, .int x)]) (st2 := [.int 0]) rfl ?_
      exact wk_zret C rfl ⟨by rw [if_neg (by grind)], rfl⟩ (by decide) (by decide) d_MD_isGroup_18
    ·
      refine wk_run C k_MD_isGroup_13 (pc2 := 14) (lv2 := [(0, .ref y), (1, .int x)]) (st2 := [.int 1]) rfl ?_
      refine wk_goto C d_MD_isGroup_14 (tgt := 18) (by decide) ?_
      exact wk_zret C rfl ⟨by rw [if_pos (by grind)], rfl⟩ (by decide) (by decide) d_MD_isGroup_18
theorem k_MD_isUser_0 : px_dec prog_9_method_5_code [.iload_n 1, .iconst 1] 0 = true := by decide +kernel
theorem d_MD_isUser_2 : decode prog_9_method_5_code 2 = .ok (.if_icmp .lt 15, 3) := by decide +kernel
theorem k_MD_isUser_17 : px_dec prog_9_method_5_code [.iconst 0] 17 = true := by decide +kernel
theorem d_MD_isUser_18 : decode prog_9_method_5_code 18 = .ok (.ireturn, 1) := by decide +kernel
theorem k_MD_isUser_5 : px_dec prog_9_method_5_code [.iload_n 1, .aload_n 0] 5 = true := by decide +kernel
theorem d_MD_isUser_7 : decode prog_9_method_5_code 7 = .ok (.getfield 78, 3) := by decide +kernel
theorem d_MD_isUser_10 : decode prog_9_method_5_code 10 = .ok (.if_icmp .gt 7, 3) := by decide +kernel
theorem k_MD_isUser_13 : px_dec prog_9_method_5_code [.iconst 1] 13 = true := by decide +kernel
theorem d_MD_isUser_14 : decode prog_9_method_5_code 14 = .ok (.goto 4, 3) := by decide +kernel
set_option maxRecDepth 100000 in
set_option maxHeartbeats 4000000 in
theorem c_MD_isUser (l : Launch) (D : va_G) (HB : Heap) (h : hp_T) (h0 : hp_T) (y : Nat) (A : Nat → Nat) (V : vT) (x : Int32) (hM : mq D h0 h y A V) : ct_M l y_MD_isUser (.code y_MD_isUser prog_9_method_5_code 2 (Option.some Jvm.ClassFile.FieldType.boolean)) ({ frames := 0, cells := 0, slots := 0, locals := 0 }) D HB [.ref y, .int x] h (fun o h2 => o = .inl (some (.int (if ¬ x < 1 ∧ x ≤ V 8 0 then (1 : Int32) else 0))) ∧ h2 = h) := by
  refine ct_of (by decide) (Nat.le_of_ble_eq_true rfl) rfl ?_
  intro p_ e_ s_ m_ r_ b_ t_ c_ C hnm
  refine wk_run C k_MD_isUser_0 (pc2 := 2) (lv2 := [(0, .ref y), (1, .int x)]) (st2 := [.int 1, .int x]) rfl ?_
  refine wk_br C d_MD_isUser_2 (P := x < 1) (tgt := 17) (rest := []) rfl (by decide) (fun c1 => ?_) (fun c1 => ?_)
  ·
    refine wk_run C k_MD_isUser_17 (pc2 := 18) (lv2 := [(0, .ref y), (1, .int x)]) (st2 := [.int 0]) rfl ?_
    exact wk_zret C rfl ⟨by rw [if_neg (by grind)], rfl⟩ (by decide) (by decide) d_MD_isUser_18
  ·
    refine wk_run C k_MD_isUser_5 (pc2 := 7) (lv2 := [(0, .ref y), (1, .int x)]) (st2 := [.ref y, .int x]) rfl ?_
    refine wk_get (v := .int (V 8 0)) C fd_MD_78 hM.ob rfl d_MD_isUser_7 ?_
    refine wk_br C d_MD_isUser_10 (P := (V 8 0) < x) (tgt := 17) (rest := []) rfl (by decide) (fun c2 => ?_) (fun c2 => ?_)
    ·
      refine wk_run C k_MD_isUser_17 (pc2 := 18) (lv2 := [(0, .ref y), (1, .int x)]) (st2 := [.int 0]) rfl ?_
      exact wk_zret C rfl ⟨by rw [if_neg (by grind)], rfl⟩ (by decide) (by decide) d_MD_isUser_18
    ·
      refine wk_run C k_MD_isUser_13 (pc2 := 14) (lv2 := [(0, .ref y), (1, .int x)]) (st2 := [.int 1]) rfl ?_
      refine wk_goto C d_MD_isUser_14 (tgt := 18) (by decide) ?_
      exact wk_zret C rfl ⟨by rw [if_pos (by grind)], rfl⟩ (by decide) (by decide) d_MD_isUser_18
theorem k_MD_isProfile_0 : px_dec prog_9_method_6_code [.iload_n 1, .iconst 1] 0 = true := by decide +kernel
theorem d_MD_isProfile_2 : decode prog_9_method_6_code 2 = .ok (.if_icmp .lt 15, 3) := by decide +kernel
theorem k_MD_isProfile_17 : px_dec prog_9_method_6_code [.iconst 0] 17 = true := by decide +kernel
theorem d_MD_isProfile_18 : decode prog_9_method_6_code 18 = .ok (.ireturn, 1) := by decide +kernel
theorem k_MD_isProfile_5 : px_dec prog_9_method_6_code [.iload_n 1, .aload_n 0] 5 = true := by decide +kernel
theorem d_MD_isProfile_7 : decode prog_9_method_6_code 7 = .ok (.getfield 81, 3) := by decide +kernel
theorem d_MD_isProfile_10 : decode prog_9_method_6_code 10 = .ok (.if_icmp .gt 7, 3) := by decide +kernel
theorem k_MD_isProfile_13 : px_dec prog_9_method_6_code [.iconst 1] 13 = true := by decide +kernel
theorem d_MD_isProfile_14 : decode prog_9_method_6_code 14 = .ok (.goto 4, 3) := by decide +kernel
set_option maxRecDepth 100000 in
set_option maxHeartbeats 4000000 in
theorem c_MD_isProfile (l : Launch) (D : va_G) (HB : Heap) (h : hp_T) (h0 : hp_T) (y : Nat) (A : Nat → Nat) (V : vT) (x : Int32) (hM : mq D h0 h y A V) : ct_M l y_MD_isProfile (.code y_MD_isProfile prog_9_method_6_code 2 (Option.some Jvm.ClassFile.FieldType.boolean)) ({ frames := 0, cells := 0, slots := 0, locals := 0 }) D HB [.ref y, .int x] h (fun o h2 => o = .inl (some (.int (if ¬ x < 1 ∧ x ≤ V 9 0 then (1 : Int32) else 0))) ∧ h2 = h) := by
  refine ct_of (by decide) (Nat.le_of_ble_eq_true rfl) rfl ?_
  intro p_ e_ s_ m_ r_ b_ t_ c_ C hnm
  refine wk_run C k_MD_isProfile_0 (pc2 := 2) (lv2 := [(0, .ref y), (1, .int x)]) (st2 := [.int 1, .int x]) rfl ?_
  refine wk_br C d_MD_isProfile_2 (P := x < 1) (tgt := 17) (rest := []) rfl (by decide) (fun c1 => ?_) (fun c1 => ?_)
  ·
    refine wk_run C k_MD_isProfile_17 (pc2 := 18) (lv2 := [(0, .ref y), (1, .int x)]) (st2 := [.int 0]) rfl ?_
    exact wk_zret C rfl ⟨by rw [if_neg (by grind)], rfl⟩ (by decide) (by decide) d_MD_isProfile_18
  ·
    refine wk_run C k_MD_isProfile_5 (pc2 := 7) (lv2 := [(0, .ref y), (1, .int x)]) (st2 := [.ref y, .int x]) rfl ?_
    refine wk_get (v := .int (V 9 0)) C fd_MD_81 hM.ob rfl d_MD_isProfile_7 ?_
    refine wk_br C d_MD_isProfile_10 (P := (V 9 0) < x) (tgt := 17) (rest := []) rfl (by decide) (fun c2 => ?_) (fun c2 => ?_)
    ·
      refine wk_run C k_MD_isProfile_17 (pc2 := 18) (lv2 := [(0, .ref y), (1, .int x)]) (st2 := [.int 0]) rfl ?_
      exact wk_zret C rfl ⟨by rw [if_neg (by grind)], rfl⟩ (by decide) (by decide) d_MD_isProfile_18
    ·
      refine wk_run C k_MD_isProfile_13 (pc2 := 14) (lv2 := [(0, .ref y), (1, .int x)]) (st2 := [.int 1]) rfl ?_
      refine wk_goto C d_MD_isProfile_14 (tgt := 18) (by decide) ?_
      exact wk_zret C rfl ⟨by rw [if_pos (by grind)], rfl⟩ (by decide) (by decide) d_MD_isProfile_18
theorem k_MD_isClass_0 : px_dec prog_9_method_7_code [.iload_n 0] 0 = true := by decide +kernel
theorem d_MD_isClass_1 : decode prog_9_method_7_code 1 = .ok (.ifCond .lt 13, 3) := by decide +kernel
theorem k_MD_isClass_14 : px_dec prog_9_method_7_code [.iconst 0] 14 = true := by decide +kernel
theorem d_MD_isClass_15 : decode prog_9_method_7_code 15 = .ok (.ireturn, 1) := by decide +kernel
theorem k_MD_isClass_4 : px_dec prog_9_method_7_code [.iload_n 0, .bipush 8] 4 = true := by decide +kernel
theorem d_MD_isClass_7 : decode prog_9_method_7_code 7 = .ok (.if_icmp .ge 7, 3) := by decide +kernel
theorem k_MD_isClass_10 : px_dec prog_9_method_7_code [.iconst 1] 10 = true := by decide +kernel
theorem d_MD_isClass_11 : decode prog_9_method_7_code 11 = .ok (.goto 4, 3) := by decide +kernel
set_option maxRecDepth 100000 in
set_option maxHeartbeats 4000000 in
theorem c_MD_isClass (l : Launch) (D : va_G) (HB : Heap) (h : hp_T) (x : Int32) : ct_M l y_MD_isClass (.code y_MD_isClass prog_9_method_7_code 1 (Option.some Jvm.ClassFile.FieldType.boolean)) ({ frames := 0, cells := 0, slots := 0, locals := 0 }) D HB [.int x] h (fun o h2 => o = .inl (some (.int (if ¬ x < 0 ∧ x < 8 then (1 : Int32) else 0))) ∧ h2 = h) := by
  refine ct_of (by decide) (Nat.le_of_ble_eq_true rfl) rfl ?_
  intro p_ e_ s_ m_ r_ b_ t_ c_ C hnm
  refine wk_run C k_MD_isClass_0 (pc2 := 1) (lv2 := [(0, .int x)]) (st2 := [.int x]) rfl ?_
  refine wk_br C d_MD_isClass_1 (P := x < 0) (tgt := 14) (rest := []) rfl (by decide) (fun c1 => ?_) (fun c1 => ?_)
  ·
    refine wk_run C k_MD_isClass_14 (pc2 := 15) (lv2 := [(0, .int x)]) (st2 := [.int 0]) rfl ?_
    exact wk_zret C rfl ⟨by rw [if_neg (by grind)], rfl⟩ (by decide) (by decide) d_MD_isClass_15
  ·
    refine wk_run C k_MD_isClass_4 (pc2 := 7) (lv2 := [(0, .int x)]) (st2 := [.int 8, .int x]) rfl ?_
    refine wk_br C d_MD_isClass_7 (P := 8 ≤ x) (tgt := 14) (rest := []) rfl (by decide) (fun c2 => ?_) (fun c2 => ?_)
    ·
      refine wk_run C k_MD_isClass_14 (pc2 := 15) (lv2 := [(0, .int x)]) (st2 := [.int 0]) rfl ?_
      exact wk_zret C rfl ⟨by rw [if_neg (by grind)], rfl⟩ (by decide) (by decide) d_MD_isClass_15
    ·
      refine wk_run C k_MD_isClass_10 (pc2 := 11) (lv2 := [(0, .int x)]) (st2 := [.int 1]) rfl ?_
      refine wk_goto C d_MD_isClass_11 (tgt := 15) (by decide) ?_
      exact wk_zret C rfl ⟨by rw [if_pos (by grind)], rfl⟩ (by decide) (by decide) d_MD_isClass_15
theorem k_MD_isSign_0 : px_dec prog_9_method_8_code [.iload_n 0, .bipush 33] 0 = true := by decide +kernel
theorem d_MD_isSign_3 : decode prog_9_method_8_code 3 = .ok (.if_icmp .lt 13, 3) := by decide +kernel
theorem k_MD_isSign_16 : px_dec prog_9_method_8_code [.iconst 0] 16 = true := by decide +kernel
theorem d_MD_isSign_17 : decode prog_9_method_8_code 17 = .ok (.ireturn, 1) := by decide +kernel
theorem k_MD_isSign_6 : px_dec prog_9_method_8_code [.iload_n 0, .bipush 126] 6 = true := by decide +kernel
theorem d_MD_isSign_9 : decode prog_9_method_8_code 9 = .ok (.if_icmp .gt 7, 3) := by decide +kernel
theorem k_MD_isSign_12 : px_dec prog_9_method_8_code [.iconst 1] 12 = true := by decide +kernel
theorem d_MD_isSign_13 : decode prog_9_method_8_code 13 = .ok (.goto 4, 3) := by decide +kernel
set_option maxRecDepth 100000 in
set_option maxHeartbeats 4000000 in
theorem c_MD_isSign (l : Launch) (D : va_G) (HB : Heap) (h : hp_T) (x : Int32) : ct_M l y_MD_isSign (.code y_MD_isSign prog_9_method_8_code 1 (Option.some Jvm.ClassFile.FieldType.boolean)) ({ frames := 0, cells := 0, slots := 0, locals := 0 }) D HB [.int x] h (fun o h2 => o = .inl (some (.int (if ¬ x < 33 ∧ ¬ 126 < x then (1 : Int32) else 0))) ∧ h2 = h) := by
  refine ct_of (by decide) (Nat.le_of_ble_eq_true rfl) rfl ?_
  intro p_ e_ s_ m_ r_ b_ t_ c_ C hnm
  refine wk_run C k_MD_isSign_0 (pc2 := 3) (lv2 := [(0, .int x)]) (st2 := [.int 33, .int x]) rfl ?_
  refine wk_br C d_MD_isSign_3 (P := x < 33) (tgt := 16) (rest := []) rfl (by decide) (fun c1 => ?_) (fun c1 => ?_)
  ·
    refine wk_run C k_MD_isSign_16 (pc2 := 17) (lv2 := [(0, .int x)]) (st2 := [.int 0]) rfl ?_
    exact wk_zret C rfl ⟨by rw [if_neg (by grind)], rfl⟩ (by decide) (by decide) d_MD_isSign_17
  ·
    refine wk_run C k_MD_isSign_6 (pc2 := 9) (lv2 := [(0, .int x)]) (st2 := [.int 126, .int x]) rfl ?_
    refine wk_br C d_MD_isSign_9 (P := 126 < x) (tgt := 16) (rest := []) rfl (by decide) (fun c2 => ?_) (fun c2 => ?_)
    ·
      refine wk_run C k_MD_isSign_16 (pc2 := 17) (lv2 := [(0, .int x)]) (st2 := [.int 0]) rfl ?_
      exact wk_zret C rfl ⟨by rw [if_neg (by grind)], rfl⟩ (by decide) (by decide) d_MD_isSign_17
    ·
      refine wk_run C k_MD_isSign_12 (pc2 := 13) (lv2 := [(0, .int x)]) (st2 := [.int 1]) rfl ?_
      refine wk_goto C d_MD_isSign_13 (tgt := 17) (by decide) ?_
      exact wk_zret C rfl ⟨by rw [if_pos (by grind)], rfl⟩ (by decide) (by decide) d_MD_isSign_17
theorem k_MD_isTerminal_0 : px_dec prog_9_method_9_code [.iload_n 0] 0 = true := by decide +kernel
theorem d_MD_isTerminal_1 : decode prog_9_method_9_code 1 = .ok (.ifCond .lt 13, 3) := by decide +kernel
theorem k_MD_isTerminal_14 : px_dec prog_9_method_9_code [.iconst 0] 14 = true := by decide +kernel
theorem d_MD_isTerminal_15 : decode prog_9_method_9_code 15 = .ok (.ireturn, 1) := by decide +kernel
theorem k_MD_isTerminal_4 : px_dec prog_9_method_9_code [.iload_n 0, .bipush 100] 4 = true := by decide +kernel
theorem d_MD_isTerminal_7 : decode prog_9_method_9_code 7 = .ok (.if_icmp .ge 7, 3) := by decide +kernel
theorem k_MD_isTerminal_10 : px_dec prog_9_method_9_code [.iconst 1] 10 = true := by decide +kernel
theorem d_MD_isTerminal_11 : decode prog_9_method_9_code 11 = .ok (.goto 4, 3) := by decide +kernel
set_option maxRecDepth 100000 in
set_option maxHeartbeats 4000000 in
theorem c_MD_isTerminal (l : Launch) (D : va_G) (HB : Heap) (h : hp_T) (x : Int32) : ct_M l y_MD_isTerminal (.code y_MD_isTerminal prog_9_method_9_code 1 (Option.some Jvm.ClassFile.FieldType.boolean)) ({ frames := 0, cells := 0, slots := 0, locals := 0 }) D HB [.int x] h (fun o h2 => o = .inl (some (.int (if ¬ x < 0 ∧ x < 100 then (1 : Int32) else 0))) ∧ h2 = h) := by
  refine ct_of (by decide) (Nat.le_of_ble_eq_true rfl) rfl ?_
  intro p_ e_ s_ m_ r_ b_ t_ c_ C hnm
  refine wk_run C k_MD_isTerminal_0 (pc2 := 1) (lv2 := [(0, .int x)]) (st2 := [.int x]) rfl ?_
  refine wk_br C d_MD_isTerminal_1 (P := x < 0) (tgt := 14) (rest := []) rfl (by decide) (fun c1 => ?_) (fun c1 => ?_)
  ·
    refine wk_run C k_MD_isTerminal_14 (pc2 := 15) (lv2 := [(0, .int x)]) (st2 := [.int 0]) rfl ?_
    exact wk_zret C rfl ⟨by rw [if_neg (by grind)], rfl⟩ (by decide) (by decide) d_MD_isTerminal_15
  ·
    refine wk_run C k_MD_isTerminal_4 (pc2 := 7) (lv2 := [(0, .int x)]) (st2 := [.int 100, .int x]) rfl ?_
    refine wk_br C d_MD_isTerminal_7 (P := 100 ≤ x) (tgt := 14) (rest := []) rfl (by decide) (fun c2 => ?_) (fun c2 => ?_)
    ·
      refine wk_run C k_MD_isTerminal_14 (pc2 := 15) (lv2 := [(0, .int x)]) (st2 := [.int 0]) rfl ?_
      exact wk_zret C rfl ⟨by rw [if_neg (by grind)], rfl⟩ (by decide) (by decide) d_MD_isTerminal_15
    ·
      refine wk_run C k_MD_isTerminal_10 (pc2 := 11) (lv2 := [(0, .int x)]) (st2 := [.int 1]) rfl ?_
      refine wk_goto C d_MD_isTerminal_11 (tgt := 15) (by decide) ?_
      exact wk_zret C rfl ⟨by rw [if_pos (by grind)], rfl⟩ (by decide) (by decide) d_MD_isTerminal_15
theorem k_MD_isWild_0 : px_dec prog_9_method_29_code [.iload_n 0, .bipush 37] 0 = true := by decide +kernel
theorem d_MD_isWild_3 : decode prog_9_method_29_code 3 = .ok (.if_icmp .eq 9, 3) := by decide +kernel
theorem k_MD_isWild_12 : px_dec prog_9_method_29_code [.iconst 1] 12 = true := by decide +kernel
theorem d_MD_isWild_13 : decode prog_9_method_29_code 13 = .ok (.goto 4, 3) := by decide +kernel
theorem d_MD_isWild_17 : decode prog_9_method_29_code 17 = .ok (.ireturn, 1) := by decide +kernel
theorem k_MD_isWild_6 : px_dec prog_9_method_29_code [.iload_n 0, .bipush 42] 6 = true := by decide +kernel
theorem d_MD_isWild_9 : decode prog_9_method_29_code 9 = .ok (.if_icmp .ne 7, 3) := by decide +kernel
theorem k_MD_isWild_16 : px_dec prog_9_method_29_code [.iconst 0] 16 = true := by decide +kernel
set_option maxRecDepth 100000 in
set_option maxHeartbeats 4000000 in
theorem c_MD_isWild (l : Launch) (D : va_G) (HB : Heap) (h : hp_T) (x : Int32) : ct_M l y_MD_isWild (.code y_MD_isWild prog_9_method_29_code 1 (Option.some Jvm.ClassFile.FieldType.boolean)) ({ frames := 0, cells := 0, slots := 0, locals := 0 }) D HB [.int x] h (fun o h2 => o = .inl (some (.int (if x = 37 ∨ x = 42 then (1 : Int32) else 0))) ∧ h2 = h) := by
  refine ct_of (by decide) (Nat.le_of_ble_eq_true rfl) rfl ?_
  intro p_ e_ s_ m_ r_ b_ t_ c_ C hnm
  refine wk_run C k_MD_isWild_0 (pc2 := 3) (lv2 := [(0, .int x)]) (st2 := [.int 37, .int x]) rfl ?_
  refine wk_br C d_MD_isWild_3 (P := x = 37) (tgt := 12) (rest := []) rfl (by decide) (fun c1 => ?_) (fun c1 => ?_)
  ·
    refine wk_run C k_MD_isWild_12 (pc2 := 13) (lv2 := [(0, .int x)]) (st2 := [.int 1]) rfl ?_
    refine wk_goto C d_MD_isWild_13 (tgt := 17) (by decide) ?_
    exact wk_zret C rfl ⟨by rw [if_pos (by grind)], rfl⟩ (by decide) (by decide) d_MD_isWild_17
  ·
    refine wk_run C k_MD_isWild_6 (pc2 := 9) (lv2 := [(0, .int x)]) (st2 := [.int 42, .int x]) rfl ?_
    refine wk_br C d_MD_isWild_9 (P := ¬ x = 42) (tgt := 16) (rest := []) rfl (by decide) (fun c2 => ?_) (fun c2 => ?_)
    ·
      refine wk_run C k_MD_isWild_16 (pc2 := 17) (lv2 := [(0, .int x)]) (st2 := [.int 0]) rfl ?_
      exact wk_zret C rfl ⟨by rw [if_neg (by grind)], rfl⟩ (by decide) (by decide) d_MD_isWild_17
    ·
      refine wk_run C k_MD_isWild_12 (pc2 := 13) (lv2 := [(0, .int x)]) (st2 := [.int 1]) rfl ?_
      refine wk_goto C d_MD_isWild_13 (tgt := 17) (by decide) ?_
      exact wk_zret C rfl ⟨by rw [if_pos (by grind)], rfl⟩ (by decide) (by decide) d_MD_isWild_17
/-- a holder: a user above 0, else a group -/
abbrev ho_ (V : vT) (x : Int32) : Prop := (0 < x ∧ ¬ x < 1 ∧ x ≤ V 8 0) ∨ (¬ 0 < x ∧ ¬ 0 - x < 1 ∧ 0 - x ≤ V 7 0)
theorem k_MD_isWho_0 : px_dec prog_9_method_22_code [.iload_n 1] 0 = true := by decide +kernel
theorem d_MD_isWho_1 : decode prog_9_method_22_code 1 = .ok (.ifCond .le 11, 3) := by decide +kernel
theorem k_MD_isWho_12 : px_dec prog_9_method_22_code [.aload_n 0, .iconst 0, .iload_n 1, .isub] 12 = true := by decide +kernel
theorem d_MD_isWho_16 : decode prog_9_method_22_code 16 = .ok (.invokevirtual 84, 3) := by decide +kernel
theorem d_MD_isWho_19 : decode prog_9_method_22_code 19 = .ok (.ireturn, 1) := by decide +kernel
theorem k_MD_isWho_4 : px_dec prog_9_method_22_code [.aload_n 0, .iload_n 1] 4 = true := by decide +kernel
theorem d_MD_isWho_6 : decode prog_9_method_22_code 6 = .ok (.invokevirtual 92, 3) := by decide +kernel
theorem d_MD_isWho_9 : decode prog_9_method_22_code 9 = .ok (.goto 10, 3) := by decide +kernel
set_option maxRecDepth 100000 in
set_option maxHeartbeats 4000000 in
theorem c_MD_isWho (l : Launch) (D : va_G) (HB : Heap) (h : hp_T) (h0 : hp_T) (y : Nat) (A : Nat → Nat) (V : vT) (x : Int32) (hM : mq D h0 h y A V) : ct_M l y_MD_isWho (.code y_MD_isWho prog_9_method_22_code 2 (Option.some Jvm.ClassFile.FieldType.boolean)) ({ frames := 1, cells := 0, slots := 0, locals := 24 }) D HB [.ref y, .int x] h (fun o h2 => o = .inl (some (.int (if ho_ V x then (1 : Int32) else 0))) ∧ h2 = h) := by
  refine ct_of (by decide) (Nat.le_of_ble_eq_true rfl) rfl ?_
  intro p_ e_ s_ m_ r_ b_ t_ c_ C hnm
  refine wk_run C k_MD_isWho_0 (pc2 := 1) (lv2 := [(0, .ref y), (1, .int x)]) (st2 := [.int x]) rfl ?_
  refine wk_br C d_MD_isWho_1 (P := x ≤ 0) (tgt := 12) (rest := []) rfl (by decide) (fun c1 => ?_) (fun c1 => ?_)
  ·
    refine wk_run C k_MD_isWho_12 (pc2 := 16) (lv2 := [(0, .ref y), (1, .int x)]) (st2 := [.int (0 - x), .ref y]) rfl ?_
    refine wk_callV (cl := ("ProfileRightsModel", T_MD, 27)) (rest := []) C (c_MD_isGroup l D HB h h0 y A (V) (0 - x) hM) cs_MD_84 kc_MD_isGroup ki_MD hM.ob rfl rfl rfl (Nat.le_of_ble_eq_true rfl) (Nat.le_of_ble_eq_true rfl) (Nat.le_of_ble_eq_true rfl) (Nat.le_of_ble_eq_true rfl) (Nat.le_of_ble_eq_true rfl) d_MD_isWho_16 (fun v h2 hq => ?_) (fun _ _ z => nomatch z.1)
    obtain ⟨e1, e2⟩ := hq; cases e1; replace e2 := e2.symm; subst e2
    show Wk _ _ _ _ _ _ _ _ _ _ _ _ _ _ _ _ _ _ _ (.int (if ¬ (0 - x) < 1 ∧ (0 - x) ≤ V 7 0 then (1 : Int32) else 0) :: _)
    exact wk_zret C nb_i ⟨by congr 3; grind, rfl⟩ (by decide) (by decide) d_MD_isWho_19
  ·
    refine wk_run C k_MD_isWho_4 (pc2 := 6) (lv2 := [(0, .ref y), (1, .int x)]) (st2 := [.int x, .ref y]) rfl ?_
    refine wk_callV (cl := ("ProfileRightsModel", T_MD, 27)) (rest := []) C (c_MD_isUser l D HB h h0 y A (V) x hM) cs_MD_92 kc_MD_isUser ki_MD hM.ob rfl rfl rfl (Nat.le_of_ble_eq_true rfl) (Nat.le_of_ble_eq_true rfl) (Nat.le_of_ble_eq_true rfl) (Nat.le_of_ble_eq_true rfl) (Nat.le_of_ble_eq_true rfl) d_MD_isWho_6 (fun v h2 hq => ?_) (fun _ _ z => nomatch z.1)
    obtain ⟨e1, e2⟩ := hq; cases e1; replace e2 := e2.symm; subst e2
    show Wk _ _ _ _ _ _ _ _ _ _ _ _ _ _ _ _ _ _ _ (.int (if ¬ x < 1 ∧ x ≤ V 8 0 then (1 : Int32) else 0) :: _)
    refine wk_goto C d_MD_isWho_9 (tgt := 19) (by decide) ?_
    exact wk_zret C nb_i ⟨by congr 3; grind, rfl⟩ (by decide) (by decide) d_MD_isWho_19
theorem fl_ {D : va_G} {h0 h : hp_T} {y : Nat} {A : Nat → Nat} {V : vT} {x z : Int32} (hM : mq D h0 h y A (vc V 0 x)) (e : z = x) : mq D h0 h y A (vc V 0 z) := e ▸ hM
theorem k_MD_fails_0 : px_dec prog_9_method_3_code [.aload_n 0, .iload_n 1] 0 = true := by decide +kernel
theorem d_MD_fails_2 : decode prog_9_method_3_code 2 = .ok (.ifCond .eq 7, 3) := by decide +kernel
theorem k_MD_fails_9 : px_dec prog_9_method_3_code [.iload_n 2] 9 = true := by decide +kernel
theorem d_MD_fails_10 : decode prog_9_method_3_code 10 = .ok (.ifCond .eq 7, 3) := by decide +kernel
theorem k_MD_fails_17 : px_dec prog_9_method_3_code [.iconst 0] 17 = true := by decide +kernel
theorem d_MD_fails_18 : decode prog_9_method_3_code 18 = .ok (.putfield 71, 3) := by decide +kernel
theorem k_MD_fails_21 : px_dec prog_9_method_3_code [.aload_n 0] 21 = true := by decide +kernel
theorem d_MD_fails_22 : decode prog_9_method_3_code 22 = .ok (.getfield 71, 3) := by decide +kernel
theorem d_MD_fails_25 : decode prog_9_method_3_code 25 = .ok (.ifCond .le 7, 3) := by decide +kernel
theorem k_MD_fails_32 : px_dec prog_9_method_3_code [.iconst 0] 32 = true := by decide +kernel
theorem d_MD_fails_33 : decode prog_9_method_3_code 33 = .ok (.ireturn, 1) := by decide +kernel
theorem k_MD_fails_13 : px_dec prog_9_method_3_code [.iconst 2] 13 = true := by decide +kernel
theorem d_MD_fails_14 : decode prog_9_method_3_code 14 = .ok (.goto 4, 3) := by decide +kernel
theorem k_MD_fails_28 : px_dec prog_9_method_3_code [.iconst 1] 28 = true := by decide +kernel
theorem d_MD_fails_29 : decode prog_9_method_3_code 29 = .ok (.goto 4, 3) := by decide +kernel
theorem k_MD_fails_5 : px_dec prog_9_method_3_code [.iconst 1] 5 = true := by decide +kernel
theorem d_MD_fails_6 : decode prog_9_method_3_code 6 = .ok (.goto 12, 3) := by decide +kernel
set_option maxRecDepth 100000 in
set_option maxHeartbeats 4000000 in
theorem c_MD_fails (l : Launch) (D : va_G) (HB : Heap) (h : hp_T) (h0 : hp_T) (y : Nat) (A : Nat → Nat) (V : vT) (a b : Int32) (hM : mq D h0 h y A V) : ct_M l y_MD_fails (.code y_MD_fails prog_9_method_3_code 3 (Option.some Jvm.ClassFile.FieldType.boolean)) ({ frames := 0, cells := 0, slots := 0, locals := 0 }) D HB [.ref y, .int a, .int b] h (fun o h2 => o = .inl (some (.int (if a = 0 ∧ b = 0 then (0 : Int32) else 1))) ∧ mq D h0 h2 y A (vc V 0 (if a = 0 then if b = 0 then 0 else 2 else 1))) := by
  refine ct_of (by decide) (Nat.le_of_ble_eq_true rfl) rfl ?_
  intro p_ e_ s_ m_ r_ b_ t_ c_ C hnm
  refine wk_run C k_MD_fails_0 (pc2 := 2) (lv2 := [(0, .ref y), (1, .int a), (2, .int b)]) (st2 := [.int a, .ref y]) rfl ?_
  refine wk_br C d_MD_fails_2 (P := a = 0) (tgt := 9) (rest := [.ref y]) rfl (by decide) (fun c1 => ?_) (fun c1 => ?_)
  ·
    refine wk_run C k_MD_fails_9 (pc2 := 10) (lv2 := [(0, .ref y), (1, .int a), (2, .int b)]) (st2 := [.int b, .ref y]) rfl ?_
    refine wk_br C d_MD_fails_10 (P := b = 0) (tgt := 17) (rest := [.ref y]) rfl (by decide) (fun c2 => ?_) (fun c2 => ?_)
    ·
      refine wk_run C k_MD_fails_17 (pc2 := 18) (lv2 := [(0, .ref y), (1, .int a), (2, .int b)]) (st2 := [.int 0, .ref y]) rfl ?_
      refine wm_put C hM 0 (by simp [sc_]) fd_MD_71 rfl d_MD_fails_18 (fun h (hM : mq D h0 h y A (vc (V) 0 0)) => ?_)
      refine wk_run C k_MD_fails_21 (pc2 := 22) (lv2 := [(0, .ref y), (1, .int a), (2, .int b)]) (st2 := [.ref y]) rfl ?_
      refine wk_get (v := .int (0)) C fd_MD_71 hM.ob rfl d_MD_fails_22 ?_
      refine wk_br C d_MD_fails_25 (P := (0) ≤ 0) (tgt := 32) (rest := []) rfl (by decide) (fun c3 => ?_) (fun c3 => ?_)
      ·
        refine wk_run C k_MD_fails_32 (pc2 := 33) (lv2 := [(0, .ref y), (1, .int a), (2, .int b)]) (st2 := [.int 0]) rfl ?_
        exact wk_zret C rfl ⟨by first | (rw [if_pos (by grind)]) | (rw [if_neg (by grind)]), fl_ hM (by grind)⟩ (by decide) (by decide) d_MD_fails_33
      ·
        exact absurd (by decide) c3
    ·
      refine wk_run C k_MD_fails_13 (pc2 := 14) (lv2 := [(0, .ref y), (1, .int a), (2, .int b)]) (st2 := [.int 2, .ref y]) rfl ?_
      refine wk_goto C d_MD_fails_14 (tgt := 18) (by decide) ?_
      refine wm_put C hM 0 (by simp [sc_]) fd_MD_71 rfl d_MD_fails_18 (fun h (hM : mq D h0 h y A (vc (V) 0 2)) => ?_)
      refine wk_run C k_MD_fails_21 (pc2 := 22) (lv2 := [(0, .ref y), (1, .int a), (2, .int b)]) (st2 := [.ref y]) rfl ?_
      refine wk_get (v := .int (2)) C fd_MD_71 hM.ob rfl d_MD_fails_22 ?_
      refine wk_br C d_MD_fails_25 (P := (2) ≤ 0) (tgt := 32) (rest := []) rfl (by decide) (fun c4 => ?_) (fun c4 => ?_)
      ·
        exact absurd c4 (by decide)
      ·
        refine wk_run C k_MD_fails_28 (pc2 := 29) (lv2 := [(0, .ref y), (1, .int a), (2, .int b)]) (st2 := [.int 1]) rfl ?_
        refine wk_goto C d_MD_fails_29 (tgt := 33) (by decide) ?_
        exact wk_zret C rfl ⟨by first | (rw [if_pos (by grind)]) | (rw [if_neg (by grind)]), fl_ hM (by grind)⟩ (by decide) (by decide) d_MD_fails_33
  ·
    refine wk_run C k_MD_fails_5 (pc2 := 6) (lv2 := [(0, .ref y), (1, .int a), (2, .int b)]) (st2 := [.int 1, .ref y]) rfl ?_
    refine wk_goto C d_MD_fails_6 (tgt := 18) (by decide) ?_
    refine wm_put C hM 0 (by simp [sc_]) fd_MD_71 rfl d_MD_fails_18 (fun h (hM : mq D h0 h y A (vc (V) 0 1)) => ?_)
    refine wk_run C k_MD_fails_21 (pc2 := 22) (lv2 := [(0, .ref y), (1, .int a), (2, .int b)]) (st2 := [.ref y]) rfl ?_
    refine wk_get (v := .int (1)) C fd_MD_71 hM.ob rfl d_MD_fails_22 ?_
    refine wk_br C d_MD_fails_25 (P := (1) ≤ 0) (tgt := 32) (rest := []) rfl (by decide) (fun c5 => ?_) (fun c5 => ?_)
    ·
      exact absurd c5 (by decide)
    ·
      refine wk_run C k_MD_fails_28 (pc2 := 29) (lv2 := [(0, .ref y), (1, .int a), (2, .int b)]) (st2 := [.int 1]) rfl ?_
      refine wk_goto C d_MD_fails_29 (tgt := 33) (by decide) ?_
      exact wk_zret C rfl ⟨by first | (rw [if_pos (by grind)]) | (rw [if_neg (by grind)]), fl_ hM (by grind)⟩ (by decide) (by decide) d_MD_fails_33
theorem c_MD_f0 (l : Launch) (D : va_G) (HB : Heap) (h h0 : hp_T) (y : Nat) (A : Nat → Nat) (V : vT) (hM : mq D h0 h y A V) : ct_M l y_MD_fails (.code y_MD_fails prog_9_method_3_code 3 (some .boolean)) { frames := 0, cells := 0, slots := 0, locals := 0 } D HB [.ref y, .int 0, .int 0] h (fun o h2 => o = .inl (some (.int 0)) ∧ mq D h0 h2 y A (vc V 0 0)) := c_MD_fails l D HB h h0 y A V 0 0 hM
theorem c_MD_f1 (l : Launch) (D : va_G) (HB : Heap) (h h0 : hp_T) (y : Nat) (A : Nat → Nat) (V : vT) (hM : mq D h0 h y A V) : ct_M l y_MD_fails (.code y_MD_fails prog_9_method_3_code 3 (some .boolean)) { frames := 0, cells := 0, slots := 0, locals := 0 } D HB [.ref y, .int 1, .int 0] h (fun o h2 => o = .inl (some (.int 1)) ∧ mq D h0 h2 y A (vc V 0 1)) := c_MD_fails l D HB h h0 y A V 1 0 hM
theorem c_MD_f2 (l : Launch) (D : va_G) (HB : Heap) (h h0 : hp_T) (y : Nat) (A : Nat → Nat) (V : vT) (hM : mq D h0 h y A V) : ct_M l y_MD_fails (.code y_MD_fails prog_9_method_3_code 3 (some .boolean)) { frames := 0, cells := 0, slots := 0, locals := 0 } D HB [.ref y, .int 0, .int 1] h (fun o h2 => o = .inl (some (.int 1)) ∧ mq D h0 h2 y A (vc V 0 2)) := c_MD_fails l D HB h h0 y A V 0 1 hM
abbrev rT : Type := Int32 × Int32 × vT
def sp_group (V : vT) (x : Int32) : rT := if ¬ x = 0 ∧ ¬ (¬ x < 1 ∧ x ≤ V 7 0) then (1, 0, vc V 0 1) else if V 7 0 = 20 then (2, 0, vc V 0 2) else (0, V 7 0 + 1, vs (vc (vc V 0 0) 7 (V 7 0 + 1)) 1 (upd (V 1) (nu (V 7 0 + 1)) x))
def sp_user (V : vT) (x : Int32) : rT := if ¬ (¬ x < 1 ∧ x ≤ V 7 0) then (1, 0, vc V 0 1) else if V 8 0 = 40 then (2, 0, vc V 0 2) else (0, V 8 0 + 1, vs (vs (vc (vc V 0 0) 8 (V 8 0 + 1)) 2 (upd (V 2) (nu (V 8 0 + 1)) x)) 4 (upd (V 4) (nu (V 8 0 + 1)) 3))
def sp_terminal (V : vT) (u t : Int32) : rT := if ¬ ((¬ u < 1 ∧ u ≤ V 8 0) ∧ ¬ t < 0 ∧ t < 100) then (1, 0, vc V 0 1) else (0, V 3 (nu u), vs (vc V 0 0) 3 (upd (V 3) (nu u) t))
def sp_revoke (V : vT) (u b : Int32) : rT := if ¬ (¬ u < 1 ∧ u ≤ V 8 0) then (1, 0, vc V 0 1) else if V 5 (nu u) = b then (0, 0, vc V 0 0) else (0, 1, vs (vs (vc V 0 0) 5 (upd (V 5) (nu u) b)) 4 (upd (V 4) (nu u) (if b = 0 then 3 else V 4 (nu u))))
def sp_pass (V : vT) (u b : Int32) : rT := if ¬ (¬ u < 1 ∧ u ≤ V 8 0) then (1, 0, vc V 0 1) else if ¬ V 5 (nu u) = 0 then (0, -1, vc V 0 0) else
  (0, if b = 0 then V 4 (nu u) - 1 else 3, vs (vs (vc V 0 0) 4 (upd (V 4) (nu u) (if b = 0 then V 4 (nu u) - 1 else 3))) 5 (upd (V 5) (nu u) (if (if b = 0 then V 4 (nu u) - 1 else 3) = 0 then 1 else 0)))
def sp_acts (V : vT) (u w : Int32) : rT := if ¬ ((¬ u < 1 ∧ u ≤ V 8 0) ∧ ¬ w < 1 ∧ w ≤ V 8 0) then (1, 0, vc V 0 1) else (0, if u = w ∨ ¬ V 6 (41 * nu u + nu w) = 0 then 1 else 0, vc V 0 0)
def sp_surrogate (V : vT) (u w b : Int32) : rT := if ¬ ((¬ u < 1 ∧ u ≤ V 8 0) ∧ ¬ w < 1 ∧ w ≤ V 8 0) then (1, 0, vc V 0 1) else if u = w ∨ V 6 (41 * nu u + nu w) = b then (0, 0, vc V 0 0) else (0, 1, vs (vc V 0 0) 6 (upd (V 6) (41 * nu u + nu w) b))
def sp_mode (V : vT) (c m : Int32) : rT := if ¬ ((¬ c < 0 ∧ c < 8) ∧ ¬ m < 0 ∧ m ≤ 2) then (1, 0, vc V 0 1) else (0, V 10 (nu c), vs (vc V 0 0) 10 (upd (V 10) (nu c) m))
def sp_profile (V : vT) (c u : Int32) : rT := if ¬ ((¬ c < 0 ∧ c < 8) ∧ ¬ u < 1 ∧ u ≤ V 8 0) then (1, 0, vc V 0 1) else if V 9 0 = 60 then (2, 0, vc V 0 2) else (0, V 9 0 + 1, vs (vc (vc V 0 0) 9 (V 9 0 + 1)) 11 (upd (V 11) (nu (V 9 0 + 1)) c))
def sp_name (V : vT) (p c : Int32) : rT := if ¬ ((¬ p < 1 ∧ p ≤ V 9 0) ∧ ¬ c < 33 ∧ ¬ 126 < c) then (1, 0, vc V 0 1) else if V 13 (nu p) = 20 then (2, 0, vc V 0 2) else (0, V 13 (nu p) + 1, vs (vs (vc V 0 0) 12 (upd (V 12) (20 * nu p + nu (V 13 (nu p))) c)) 13 (upd (V 13) (nu p) (V 13 (nu p) + 1)))
def sp_universal (V : vT) (p a m : Int32) : rT := if ¬ ((¬ p < 1 ∧ p ≤ V 9 0) ∧ (¬ a < 0 ∧ a ≤ 4) ∧ ¬ m < 0 ∧ m ≤ 7) then (1, 0, vc V 0 1) else (0, 8 * V 14 (nu p) + V 15 (nu p), vs (vs (vc V 0 0) 14 (upd (V 14) (nu p) a)) 15 (upd (V 15) (nu p) m))
def sp_who (V : vT) (p i : Int32) : rT := if ¬ (¬ p < 1 ∧ p ≤ V 9 0) then (1, 0, vc V 0 1) else (0, if i < 0 ∨ V 16 (nu p) ≤ i then 0 else V 17 (10 * nu p + nu i), vc V 0 0)
def sp_ask (V : vT) (c : Int32) : rT := if ¬ (¬ c < 33 ∧ ¬ 126 < c) then (0, 0, vc (vc V 0 0) 22 0) else if V 22 0 < 20 then (0, V 22 0 + 1, vc (vs (vc V 0 0) 21 (upd (V 21) (nu (V 22 0)) c)) 22 (V 22 0 + 1)) else (0, V 22 0, vc V 0 0)
def sp_matched (V : vT) : rT := (0, V 23 0, vc V 0 0)
def sp_audit (V : vT) (i w : Int32) : rT := (0, if ¬ i < 0 ∧ i < V 25 0 ∧ i < 200 ∧ ¬ w < 0 ∧ w ≤ 4 then V 24 (5 * nu i + nu w) else -1, vc V 0 0)
theorem upd_s {f : Nat → Int32} {j : Nat} {x : Int32} : upd f j x j = x := if_pos rfl
/-- numbers: a product and a sum -/
theorem nx_ {a b : Int32} {k m n N : Nat} (ha : ok_ a m) (hb : ok_ b n) (hN : k * m + n < N) (hN2 : N < 2 ^ 31) : vp_in (nI k * a + b) N ∧ nu (nI k * a + b) = k * nu a + nu b := by
  have e : nI k * a + b = nI (k * nu a + nu b) := by
    rw [ha.1, hb.1]; unfold nI nu
    rw [← Int32.ofNat_mul, ← Int32.ofNat_add]
    rw [show (Int32.ofNat (Int32.toNatClampNeg a)) = a from ha.1.symm, show (Int32.ofNat (Int32.toNatClampNeg b)) = b from hb.1.symm]
  have h1 : k * nu a ≤ k * m := Nat.mul_le_mul_left k ha.2
  have h2 := hb.2
  rw [e]
  exact ⟨nI_in (by omega) hN2, nu_nI (by omega)⟩
theorem ok_r {x y : Int32} {N : Nat} (h1 : ¬ x < 1) (h2 : x ≤ y) (hy : ok_ y N) (hN : N < 2 ^ 31) : ok_ x N := by
  have e1 := ok_int hy (by omega)
  have e2 := hy.2
  have h0 : ¬ x < 0 := fun z => h1 (by rw [Int32.lt_iff_toInt_lt] at z ⊢; have e0 : (0 : Int32).toInt = 0 := by decide
                                       have e1 : (1 : Int32).toInt = 1 := by decide
                                       rw [e0] at z; rw [e1]; omega)
  obtain ⟨k, hk, rfl⟩ := nI_of h0
  rw [Int32.le_iff_toInt_le, e1, nI_toInt hk] at h2
  exact ok_nI (by omega) (by omega)
theorem ok_c {x y : Int32} {N : Nat} (h1 : ¬ x < 0) (h2 : x < y) (hy : y = nI (N + 1)) (hN : N + 1 < 2 ^ 31) : ok_ x N := by
  obtain ⟨k, hk, rfl⟩ := nI_of h1
  subst hy
  rw [nI_ltI hk (by omega)] at h2
  exact ok_nI (by omega) (by omega)
theorem ok_p {x : Int32} {n : Nat} (h : ok_ x n) (hne : ¬ x = nI n) (hn : n < 2 ^ 31) : ok_ (x + 1) n ∧ nu (x + 1) = nu x + 1 := by
  have hlt : nu x < n := Nat.lt_of_le_of_ne h.2 (fun z => hne (by rw [h.1, z]))
  have e : x + 1 = nI (nu x + 1) := by rw [← nI_1, ← h.1]
  rw [e]; exact ⟨ok_nI hlt hn, nu_nI (by omega)⟩
theorem ok_lt {x : Int32} (h : ok_ x 20) (h2 : x < 20) : ok_ x 19 := by
  refine ⟨h.1, ?_⟩
  rw [h.1] at h2
  have := (nI_ltI (a := nu x) (b := 20) (by have := h.2; omega) (by decide)).mp h2
  omega
theorem ok_m {x : Int32} {m n : Nat} (h : ok_ x m) (hm : m ≤ n) : ok_ x n := ⟨h.1, Nat.le_trans h.2 hm⟩

theorem k_MD_thrown_0 : px_dec prog_9_method_2_code [.aload_n 0] 0 = true := by decide +kernel
theorem d_MD_thrown_1 : decode prog_9_method_2_code 1 = .ok (.getfield 71, 3) := by decide +kernel
theorem d_MD_thrown_4 : decode prog_9_method_2_code 4 = .ok (.ireturn, 1) := by decide +kernel
set_option maxRecDepth 100000 in
set_option maxHeartbeats 4000000 in
theorem c_MD_thrown (l : Launch) (D : va_G) (HB : Heap) (h : hp_T) (h0 : hp_T) (y : Nat) (A : Nat → Nat) (V : vT)  (hM : mq D h0 h y A V) : ct_M l y_MD_thrown (.code y_MD_thrown prog_9_method_2_code 1 (Option.some Jvm.ClassFile.FieldType.int)) ({ frames := 0, cells := 0, slots := 0, locals := 0 }) D HB [.ref y] h (fun o h2 => ∃ (cd r : Int32) (V2 : vT), (fun V : vT => ((0 : Int32), V 0 0, V)) V  = (cd, r, V2) ∧ o = .inl (some (.int r)) ∧ mq D h0 h2 y A V2) := by
  refine ct_of (by decide) (Nat.le_of_ble_eq_true rfl) rfl ?_
  intro p_ e_ s_ m_ r_ b_ t_ c_ C hnm
  refine wk_run C k_MD_thrown_0 (pc2 := 1) (lv2 := [(0, .ref y)]) (st2 := [.ref y]) rfl ?_
  refine wk_get (v := .int (V 0 0)) C fd_MD_71 hM.ob rfl d_MD_thrown_1 ?_
  exact wk_iret C ⟨0, (V 0 0), V, rfl, rfl, hM⟩ (by decide) (by decide) d_MD_thrown_4
theorem k_MD_group_0 : px_dec prog_9_method_10_code [.iload_n 1] 0 = true := by decide +kernel
theorem d_MD_group_1 : decode prog_9_method_10_code 1 = .ok (.ifCond .eq 15, 3) := by decide +kernel
theorem k_MD_group_16 : px_dec prog_9_method_10_code [.iconst 0, .istore_n 2, .aload_n 0, .iload_n 2, .iload_n 2] 16 = true := by decide +kernel
theorem d_MD_group_21 : decode prog_9_method_10_code 21 = .ok (.ifCond .ne 16, 3) := by decide +kernel
theorem k_MD_group_24 : px_dec prog_9_method_10_code [.aload_n 0] 24 = true := by decide +kernel
theorem d_MD_group_25 : decode prog_9_method_10_code 25 = .ok (.getfield 75, 3) := by decide +kernel
theorem k_MD_group_28 : px_dec prog_9_method_10_code [.bipush 20] 28 = true := by decide +kernel
theorem d_MD_group_30 : decode prog_9_method_10_code 30 = .ok (.if_icmp .ne 7, 3) := by decide +kernel
theorem k_MD_group_37 : px_dec prog_9_method_10_code [.iconst 0] 37 = true := by decide +kernel
theorem d_MD_group_38 : decode prog_9_method_10_code 38 = .ok (.invokevirtual 88, 3) := by decide +kernel
theorem d_MD_group_41 : decode prog_9_method_10_code 41 = .ok (.ifCond .eq 5, 3) := by decide +kernel
theorem k_MD_group_46 : px_dec prog_9_method_10_code [.aload_n 0, .dup] 46 = true := by decide +kernel
theorem d_MD_group_48 : decode prog_9_method_10_code 48 = .ok (.getfield 75, 3) := by decide +kernel
theorem k_MD_group_51 : px_dec prog_9_method_10_code [.iconst 1, .iadd] 51 = true := by decide +kernel
theorem d_MD_group_53 : decode prog_9_method_10_code 53 = .ok (.putfield 75, 3) := by decide +kernel
theorem k_MD_group_56 : px_dec prog_9_method_10_code [.aload_n 0] 56 = true := by decide +kernel
theorem d_MD_group_57 : decode prog_9_method_10_code 57 = .ok (.getfield 7, 3) := by decide +kernel
theorem k_MD_group_60 : px_dec prog_9_method_10_code [.aload_n 0] 60 = true := by decide +kernel
theorem d_MD_group_61 : decode prog_9_method_10_code 61 = .ok (.getfield 75, 3) := by decide +kernel
theorem k_MD_group_64 : px_dec prog_9_method_10_code [.iload_n 1] 64 = true := by decide +kernel
theorem d_MD_group_65 : decode prog_9_method_10_code 65 = .ok (.iastore, 1) := by decide +kernel
theorem k_MD_group_66 : px_dec prog_9_method_10_code [.aload_n 0] 66 = true := by decide +kernel
theorem d_MD_group_67 : decode prog_9_method_10_code 67 = .ok (.getfield 75, 3) := by decide +kernel
theorem d_MD_group_70 : decode prog_9_method_10_code 70 = .ok (.ireturn, 1) := by decide +kernel
theorem k_MD_group_33 : px_dec prog_9_method_10_code [.iconst 1] 33 = true := by decide +kernel
theorem d_MD_group_34 : decode prog_9_method_10_code 34 = .ok (.goto 4, 3) := by decide +kernel
theorem k_MD_group_44 : px_dec prog_9_method_10_code [.iconst 0] 44 = true := by decide +kernel
theorem d_MD_group_45 : decode prog_9_method_10_code 45 = .ok (.ireturn, 1) := by decide +kernel
theorem k_MD_group_4 : px_dec prog_9_method_10_code [.aload_n 0, .iload_n 1] 4 = true := by decide +kernel
theorem d_MD_group_6 : decode prog_9_method_10_code 6 = .ok (.invokevirtual 84, 3) := by decide +kernel
theorem d_MD_group_9 : decode prog_9_method_10_code 9 = .ok (.ifCond .ne 7, 3) := by decide +kernel
theorem k_MD_group_12 : px_dec prog_9_method_10_code [.iconst 1] 12 = true := by decide +kernel
theorem d_MD_group_13 : decode prog_9_method_10_code 13 = .ok (.goto 4, 3) := by decide +kernel
theorem k_MD_group_17 : px_dec prog_9_method_10_code [.istore_n 2, .aload_n 0, .iload_n 2, .iload_n 2] 17 = true := by decide +kernel
set_option maxRecDepth 100000 in
set_option maxHeartbeats 4000000 in
theorem c_MD_group (l : Launch) (D : va_G) (HB : Heap) (h : hp_T) (h0 : hp_T) (y : Nat) (A : Nat → Nat) (V : vT) (x : Int32) (hG : ok_ (V 7 0) 20) (hM : mq D h0 h y A V) : ct_M l y_MD_group (.code y_MD_group prog_9_method_10_code 3 (Option.some Jvm.ClassFile.FieldType.int)) ({ frames := 1, cells := 0, slots := 0, locals := 30 }) D HB [.ref y, .int x] h (fun o h2 => ∃ (cd r : Int32) (V2 : vT), sp_group V x = (cd, r, V2) ∧ o = .inl (some (.int r)) ∧ mq D h0 h2 y A V2) := by
  refine ct_of (by decide) (Nat.le_of_ble_eq_true rfl) rfl ?_
  intro p_ e_ s_ m_ r_ b_ t_ c_ C hnm
  refine wk_run C k_MD_group_0 (pc2 := 1) (lv2 := [(0, .ref y), (1, .int x)]) (st2 := [.int x]) rfl ?_
  refine wk_br C d_MD_group_1 (P := x = 0) (tgt := 16) (rest := []) rfl (by decide) (fun c1 => ?_) (fun c1 => ?_)
  ·
    refine wk_run C k_MD_group_16 (pc2 := 21) (lv2 := [(2, .int 0), (0, .ref y), (1, .int x)]) (st2 := [.int 0, .int 0, .ref y]) rfl ?_
    refine wk_br C d_MD_group_21 (P := ¬ 0 = 0) (tgt := 37) (rest := [.int 0, .ref y]) rfl (by decide) (fun c2 => ?_) (fun c2 => ?_)
    ·
      exact absurd c2 (by decide)
    ·
      refine wk_run C k_MD_group_24 (pc2 := 25) (lv2 := [(2, .int 0), (0, .ref y), (1, .int x)]) (st2 := [.ref y, .int 0, .ref y]) rfl ?_
      refine wk_get (v := .int (V 7 0)) C fd_MD_75 hM.ob rfl d_MD_group_25 ?_
      refine wk_run C k_MD_group_28 (pc2 := 30) (lv2 := [(2, .int 0), (0, .ref y), (1, .int x)]) (st2 := [.int 20, .int (V 7 0), .int 0, .ref y]) rfl ?_
      refine wk_br C d_MD_group_30 (P := ¬ (V 7 0) = 20) (tgt := 37) (rest := [.int 0, .ref y]) rfl (by decide) (fun c3 => ?_) (fun c3 => ?_)
      ·
        refine wk_run C k_MD_group_37 (pc2 := 38) (lv2 := [(2, .int 0), (0, .ref y), (1, .int x)]) (st2 := [.int 0, .int 0, .ref y]) rfl ?_
        refine wk_callV (cl := ("ProfileRightsModel", T_MD, 27)) (rest := []) C (c_MD_f0 l D HB h h0 y A (V) hM) cs_MD_88 kc_MD_fails ki_MD hM.ob rfl rfl rfl (Nat.le_of_ble_eq_true rfl) (Nat.le_of_ble_eq_true rfl) (Nat.le_of_ble_eq_true rfl) (Nat.le_of_ble_eq_true rfl) (Nat.le_of_ble_eq_true rfl) d_MD_group_38 (fun v h hq => ?_) (fun _ _ z => nomatch z.1)
        obtain ⟨e1, hM⟩ := hq; cases e1
        refine wk_br C d_MD_group_41 (P := 0 = 0) (tgt := 46) (rest := []) rfl (by decide) (fun c4 => ?_) (fun c4 => ?_)
        ·
          refine wk_run C k_MD_group_46 (pc2 := 48) (lv2 := [(2, .int 0), (0, .ref y), (1, .int x)]) (st2 := [.ref y, .ref y]) rfl ?_
          refine wk_get (v := .int (V 7 0)) C fd_MD_75 hM.ob rfl d_MD_group_48 ?_
          refine wk_run C k_MD_group_51 (pc2 := 53) (lv2 := [(2, .int 0), (0, .ref y), (1, .int x)]) (st2 := [.int ((V 7 0) + 1), .ref y]) rfl ?_
          refine wm_put C hM 7 (by simp [sc_]) fd_MD_75 rfl d_MD_group_53 (fun h (hM : mq D h0 h y A (vc (vc (V) 0 0) 7 ((V 7 0) + 1))) => ?_)
          refine wk_run C k_MD_group_56 (pc2 := 57) (lv2 := [(2, .int 0), (0, .ref y), (1, .int x)]) (st2 := [.ref y]) rfl ?_
          refine wk_get (v := .ref (A 1)) C fd_MD_7 hM.ob rfl d_MD_group_57 ?_
          refine wk_run C k_MD_group_60 (pc2 := 61) (lv2 := [(2, .int 0), (0, .ref y), (1, .int x)]) (st2 := [.ref y, .ref (A 1)]) rfl ?_
          refine wk_get (v := .int (((V 7 0) + 1))) C fd_MD_75 hM.ob rfl d_MD_group_61 ?_
          refine wk_run C k_MD_group_64 (pc2 := 65) (lv2 := [(2, .int 0), (0, .ref y), (1, .int x)]) (st2 := [.int x, .int (((V 7 0) + 1)), .ref (A 1)]) rfl ?_
          refine wm_st C hM 1 (j := (nu (V 7 0 + 1))) rfl (vi_k (ok_p hG c3 (by decide)).1 (by decide) (by decide)) rfl d_MD_group_65 (fun h (hM : mq D h0 h y A (vs (vc (vc (V) 0 0) 7 ((V 7 0) + 1)) 1 (upd (V 1) (nu (V 7 0 + 1)) x))) => ?_)
          refine wk_run C k_MD_group_66 (pc2 := 67) (lv2 := [(2, .int 0), (0, .ref y), (1, .int x)]) (st2 := [.ref y]) rfl ?_
          refine wk_get (v := .int (((V 7 0) + 1))) C fd_MD_75 hM.ob rfl d_MD_group_67 ?_
          exact wk_iret C ⟨0, (((V 7 0) + 1)), vs (vc (vc (V) 0 0) 7 ((V 7 0) + 1)) 1 (upd (V 1) (nu (V 7 0 + 1)) x), by clear C hM hnm; grind [sp_group], rfl, hM⟩ (by decide) (by decide) d_MD_group_70
        ·
          exact absurd (by decide) c4
      ·
        refine wk_run C k_MD_group_33 (pc2 := 34) (lv2 := [(2, .int 0), (0, .ref y), (1, .int x)]) (st2 := [.int 1, .int 0, .ref y]) rfl ?_
        refine wk_goto C d_MD_group_34 (tgt := 38) (by decide) ?_
        refine wk_callV (cl := ("ProfileRightsModel", T_MD, 27)) (rest := []) C (c_MD_f2 l D HB h h0 y A (V) hM) cs_MD_88 kc_MD_fails ki_MD hM.ob rfl rfl rfl (Nat.le_of_ble_eq_true rfl) (Nat.le_of_ble_eq_true rfl) (Nat.le_of_ble_eq_true rfl) (Nat.le_of_ble_eq_true rfl) (Nat.le_of_ble_eq_true rfl) d_MD_group_38 (fun v h hq => ?_) (fun _ _ z => nomatch z.1)
        obtain ⟨e1, hM⟩ := hq; cases e1
        refine wk_br C d_MD_group_41 (P := 1 = 0) (tgt := 46) (rest := []) rfl (by decide) (fun c5 => ?_) (fun c5 => ?_)
        ·
          exact absurd c5 (by decide)
        ·
          refine wk_run C k_MD_group_44 (pc2 := 45) (lv2 := [(2, .int 0), (0, .ref y), (1, .int x)]) (st2 := [.int 0]) rfl ?_
          exact wk_iret C ⟨2, 0, vc (V) 0 2, by clear C hM hnm; grind [sp_group], rfl, hM⟩ (by decide) (by decide) d_MD_group_45
  ·
    refine wk_run C k_MD_group_4 (pc2 := 6) (lv2 := [(0, .ref y), (1, .int x)]) (st2 := [.int x, .ref y]) rfl ?_
    refine wk_callV (cl := ("ProfileRightsModel", T_MD, 27)) (rest := []) C (c_MD_isGroup l D HB h h0 y A (V) x hM) cs_MD_84 kc_MD_isGroup ki_MD hM.ob rfl rfl rfl (Nat.le_of_ble_eq_true rfl) (Nat.le_of_ble_eq_true rfl) (Nat.le_of_ble_eq_true rfl) (Nat.le_of_ble_eq_true rfl) (Nat.le_of_ble_eq_true rfl) d_MD_group_6 (fun v h2 hq => ?_) (fun _ _ z => nomatch z.1)
    obtain ⟨e1, e2⟩ := hq; cases e1; replace e2 := e2.symm; subst e2
    show Wk _ _ _ _ _ _ _ _ _ _ _ _ _ _ _ _ _ _ _ (.int (if ¬ x < 1 ∧ x ≤ V 7 0 then (1 : Int32) else 0) :: _)
    refine wk_br C d_MD_group_9 (P := ¬ (if ¬ x < 1 ∧ x ≤ V 7 0 then (1 : Int32) else 0) = 0) (tgt := 16) (rest := []) rfl (by decide) (fun c6 => ?_) (fun c6 => ?_)
    ·
      replace c6 := bn_ c6
      refine wk_run C k_MD_group_16 (pc2 := 21) (lv2 := [(2, .int 0), (0, .ref y), (1, .int x)]) (st2 := [.int 0, .int 0, .ref y]) rfl ?_
      refine wk_br C d_MD_group_21 (P := ¬ 0 = 0) (tgt := 37) (rest := [.int 0, .ref y]) rfl (by decide) (fun c7 => ?_) (fun c7 => ?_)
      ·
        exact absurd c7 (by decide)
      ·
        refine wk_run C k_MD_group_24 (pc2 := 25) (lv2 := [(2, .int 0), (0, .ref y), (1, .int x)]) (st2 := [.ref y, .int 0, .ref y]) rfl ?_
        refine wk_get (v := .int (V 7 0)) C fd_MD_75 hM.ob rfl d_MD_group_25 ?_
        refine wk_run C k_MD_group_28 (pc2 := 30) (lv2 := [(2, .int 0), (0, .ref y), (1, .int x)]) (st2 := [.int 20, .int (V 7 0), .int 0, .ref y]) rfl ?_
        refine wk_br C d_MD_group_30 (P := ¬ (V 7 0) = 20) (tgt := 37) (rest := [.int 0, .ref y]) rfl (by decide) (fun c8 => ?_) (fun c8 => ?_)
        ·
          refine wk_run C k_MD_group_37 (pc2 := 38) (lv2 := [(2, .int 0), (0, .ref y), (1, .int x)]) (st2 := [.int 0, .int 0, .ref y]) rfl ?_
          refine wk_callV (cl := ("ProfileRightsModel", T_MD, 27)) (rest := []) C (c_MD_f0 l D HB h h0 y A (V) hM) cs_MD_88 kc_MD_fails ki_MD hM.ob rfl rfl rfl (Nat.le_of_ble_eq_true rfl) (Nat.le_of_ble_eq_true rfl) (Nat.le_of_ble_eq_true rfl) (Nat.le_of_ble_eq_true rfl) (Nat.le_of_ble_eq_true rfl) d_MD_group_38 (fun v h hq => ?_) (fun _ _ z => nomatch z.1)
          obtain ⟨e1, hM⟩ := hq; cases e1
          refine wk_br C d_MD_group_41 (P := 0 = 0) (tgt := 46) (rest := []) rfl (by decide) (fun c9 => ?_) (fun c9 => ?_)
          ·
            refine wk_run C k_MD_group_46 (pc2 := 48) (lv2 := [(2, .int 0), (0, .ref y), (1, .int x)]) (st2 := [.ref y, .ref y]) rfl ?_
            refine wk_get (v := .int (V 7 0)) C fd_MD_75 hM.ob rfl d_MD_group_48 ?_
            refine wk_run C k_MD_group_51 (pc2 := 53) (lv2 := [(2, .int 0), (0, .ref y), (1, .int x)]) (st2 := [.int ((V 7 0) + 1), .ref y]) rfl ?_
            refine wm_put C hM 7 (by simp [sc_]) fd_MD_75 rfl d_MD_group_53 (fun h (hM : mq D h0 h y A (vc (vc (V) 0 0) 7 ((V 7 0) + 1))) => ?_)
            refine wk_run C k_MD_group_56 (pc2 := 57) (lv2 := [(2, .int 0), (0, .ref y), (1, .int x)]) (st2 := [.ref y]) rfl ?_
            refine wk_get (v := .ref (A 1)) C fd_MD_7 hM.ob rfl d_MD_group_57 ?_
            refine wk_run C k_MD_group_60 (pc2 := 61) (lv2 := [(2, .int 0), (0, .ref y), (1, .int x)]) (st2 := [.ref y, .ref (A 1)]) rfl ?_
            refine wk_get (v := .int (((V 7 0) + 1))) C fd_MD_75 hM.ob rfl d_MD_group_61 ?_
            refine wk_run C k_MD_group_64 (pc2 := 65) (lv2 := [(2, .int 0), (0, .ref y), (1, .int x)]) (st2 := [.int x, .int (((V 7 0) + 1)), .ref (A 1)]) rfl ?_
            refine wm_st C hM 1 (j := (nu (V 7 0 + 1))) rfl (vi_k (ok_p hG c8 (by decide)).1 (by decide) (by decide)) rfl d_MD_group_65 (fun h (hM : mq D h0 h y A (vs (vc (vc (V) 0 0) 7 ((V 7 0) + 1)) 1 (upd (V 1) (nu (V 7 0 + 1)) x))) => ?_)
            refine wk_run C k_MD_group_66 (pc2 := 67) (lv2 := [(2, .int 0), (0, .ref y), (1, .int x)]) (st2 := [.ref y]) rfl ?_
            refine wk_get (v := .int (((V 7 0) + 1))) C fd_MD_75 hM.ob rfl d_MD_group_67 ?_
            exact wk_iret C ⟨0, (((V 7 0) + 1)), vs (vc (vc (V) 0 0) 7 ((V 7 0) + 1)) 1 (upd (V 1) (nu (V 7 0 + 1)) x), by clear C hM hnm; grind [sp_group], rfl, hM⟩ (by decide) (by decide) d_MD_group_70
          ·
            exact absurd (by decide) c9
        ·
          refine wk_run C k_MD_group_33 (pc2 := 34) (lv2 := [(2, .int 0), (0, .ref y), (1, .int x)]) (st2 := [.int 1, .int 0, .ref y]) rfl ?_
          refine wk_goto C d_MD_group_34 (tgt := 38) (by decide) ?_
          refine wk_callV (cl := ("ProfileRightsModel", T_MD, 27)) (rest := []) C (c_MD_f2 l D HB h h0 y A (V) hM) cs_MD_88 kc_MD_fails ki_MD hM.ob rfl rfl rfl (Nat.le_of_ble_eq_true rfl) (Nat.le_of_ble_eq_true rfl) (Nat.le_of_ble_eq_true rfl) (Nat.le_of_ble_eq_true rfl) (Nat.le_of_ble_eq_true rfl) d_MD_group_38 (fun v h hq => ?_) (fun _ _ z => nomatch z.1)
          obtain ⟨e1, hM⟩ := hq; cases e1
          refine wk_br C d_MD_group_41 (P := 1 = 0) (tgt := 46) (rest := []) rfl (by decide) (fun c10 => ?_) (fun c10 => ?_)
          ·
            exact absurd c10 (by decide)
          ·
            refine wk_run C k_MD_group_44 (pc2 := 45) (lv2 := [(2, .int 0), (0, .ref y), (1, .int x)]) (st2 := [.int 0]) rfl ?_
            exact wk_iret C ⟨2, 0, vc (V) 0 2, by clear C hM hnm; grind [sp_group], rfl, hM⟩ (by decide) (by decide) d_MD_group_45
    ·
      replace c6 := bz_ (Classical.not_not.mp c6)
      refine wk_run C k_MD_group_12 (pc2 := 13) (lv2 := [(0, .ref y), (1, .int x)]) (st2 := [.int 1]) rfl ?_
      refine wk_goto C d_MD_group_13 (tgt := 17) (by decide) ?_
      refine wk_run C k_MD_group_17 (pc2 := 21) (lv2 := [(2, .int 1), (0, .ref y), (1, .int x)]) (st2 := [.int 1, .int 1, .ref y]) rfl ?_
      refine wk_br C d_MD_group_21 (P := ¬ 1 = 0) (tgt := 37) (rest := [.int 1, .ref y]) rfl (by decide) (fun c11 => ?_) (fun c11 => ?_)
      ·
        refine wk_run C k_MD_group_37 (pc2 := 38) (lv2 := [(2, .int 1), (0, .ref y), (1, .int x)]) (st2 := [.int 0, .int 1, .ref y]) rfl ?_
        refine wk_callV (cl := ("ProfileRightsModel", T_MD, 27)) (rest := []) C (c_MD_f1 l D HB h h0 y A (V) hM) cs_MD_88 kc_MD_fails ki_MD hM.ob rfl rfl rfl (Nat.le_of_ble_eq_true rfl) (Nat.le_of_ble_eq_true rfl) (Nat.le_of_ble_eq_true rfl) (Nat.le_of_ble_eq_true rfl) (Nat.le_of_ble_eq_true rfl) d_MD_group_38 (fun v h hq => ?_) (fun _ _ z => nomatch z.1)
        obtain ⟨e1, hM⟩ := hq; cases e1
        refine wk_br C d_MD_group_41 (P := 1 = 0) (tgt := 46) (rest := []) rfl (by decide) (fun c12 => ?_) (fun c12 => ?_)
        ·
          exact absurd c12 (by decide)
        ·
          refine wk_run C k_MD_group_44 (pc2 := 45) (lv2 := [(2, .int 1), (0, .ref y), (1, .int x)]) (st2 := [.int 0]) rfl ?_
          exact wk_iret C ⟨1, 0, vc (V) 0 1, by clear C hM hnm; grind [sp_group], rfl, hM⟩ (by decide) (by decide) d_MD_group_45
      ·
        exact absurd (by decide) c11
theorem k_MD_user_0 : px_dec prog_9_method_12_code [.aload_n 0, .iload_n 1] 0 = true := by decide +kernel
theorem d_MD_user_2 : decode prog_9_method_12_code 2 = .ok (.invokevirtual 84, 3) := by decide +kernel
theorem d_MD_user_5 : decode prog_9_method_12_code 5 = .ok (.ifCond .ne 7, 3) := by decide +kernel
theorem k_MD_user_12 : px_dec prog_9_method_12_code [.iconst 0, .istore_n 2, .aload_n 0, .iload_n 2, .iload_n 2] 12 = true := by decide +kernel
theorem d_MD_user_17 : decode prog_9_method_12_code 17 = .ok (.ifCond .ne 16, 3) := by decide +kernel
theorem k_MD_user_20 : px_dec prog_9_method_12_code [.aload_n 0] 20 = true := by decide +kernel
theorem d_MD_user_21 : decode prog_9_method_12_code 21 = .ok (.getfield 78, 3) := by decide +kernel
theorem k_MD_user_24 : px_dec prog_9_method_12_code [.bipush 40] 24 = true := by decide +kernel
theorem d_MD_user_26 : decode prog_9_method_12_code 26 = .ok (.if_icmp .ne 7, 3) := by decide +kernel
theorem k_MD_user_33 : px_dec prog_9_method_12_code [.iconst 0] 33 = true := by decide +kernel
theorem d_MD_user_34 : decode prog_9_method_12_code 34 = .ok (.invokevirtual 88, 3) := by decide +kernel
theorem d_MD_user_37 : decode prog_9_method_12_code 37 = .ok (.ifCond .eq 5, 3) := by decide +kernel
theorem k_MD_user_42 : px_dec prog_9_method_12_code [.aload_n 0, .dup] 42 = true := by decide +kernel
theorem d_MD_user_44 : decode prog_9_method_12_code 44 = .ok (.getfield 78, 3) := by decide +kernel
theorem k_MD_user_47 : px_dec prog_9_method_12_code [.iconst 1, .iadd] 47 = true := by decide +kernel
theorem d_MD_user_49 : decode prog_9_method_12_code 49 = .ok (.putfield 78, 3) := by decide +kernel
theorem k_MD_user_52 : px_dec prog_9_method_12_code [.aload_n 0] 52 = true := by decide +kernel
theorem d_MD_user_53 : decode prog_9_method_12_code 53 = .ok (.getfield 13, 3) := by decide +kernel
theorem k_MD_user_56 : px_dec prog_9_method_12_code [.aload_n 0] 56 = true := by decide +kernel
theorem d_MD_user_57 : decode prog_9_method_12_code 57 = .ok (.getfield 78, 3) := by decide +kernel
theorem k_MD_user_60 : px_dec prog_9_method_12_code [.iload_n 1] 60 = true := by decide +kernel
theorem d_MD_user_61 : decode prog_9_method_12_code 61 = .ok (.iastore, 1) := by decide +kernel
theorem k_MD_user_62 : px_dec prog_9_method_12_code [.aload_n 0] 62 = true := by decide +kernel
theorem d_MD_user_63 : decode prog_9_method_12_code 63 = .ok (.getfield 19, 3) := by decide +kernel
theorem k_MD_user_66 : px_dec prog_9_method_12_code [.aload_n 0] 66 = true := by decide +kernel
theorem d_MD_user_67 : decode prog_9_method_12_code 67 = .ok (.getfield 78, 3) := by decide +kernel
theorem k_MD_user_70 : px_dec prog_9_method_12_code [.iconst 3] 70 = true := by decide +kernel
theorem d_MD_user_71 : decode prog_9_method_12_code 71 = .ok (.iastore, 1) := by decide +kernel
theorem k_MD_user_72 : px_dec prog_9_method_12_code [.aload_n 0] 72 = true := by decide +kernel
theorem d_MD_user_73 : decode prog_9_method_12_code 73 = .ok (.getfield 78, 3) := by decide +kernel
theorem d_MD_user_76 : decode prog_9_method_12_code 76 = .ok (.ireturn, 1) := by decide +kernel
theorem k_MD_user_29 : px_dec prog_9_method_12_code [.iconst 1] 29 = true := by decide +kernel
theorem d_MD_user_30 : decode prog_9_method_12_code 30 = .ok (.goto 4, 3) := by decide +kernel
theorem k_MD_user_40 : px_dec prog_9_method_12_code [.iconst 0] 40 = true := by decide +kernel
theorem d_MD_user_41 : decode prog_9_method_12_code 41 = .ok (.ireturn, 1) := by decide +kernel
theorem k_MD_user_8 : px_dec prog_9_method_12_code [.iconst 1] 8 = true := by decide +kernel
theorem d_MD_user_9 : decode prog_9_method_12_code 9 = .ok (.goto 4, 3) := by decide +kernel
theorem k_MD_user_13 : px_dec prog_9_method_12_code [.istore_n 2, .aload_n 0, .iload_n 2, .iload_n 2] 13 = true := by decide +kernel
set_option maxRecDepth 100000 in
set_option maxHeartbeats 4000000 in
theorem c_MD_user (l : Launch) (D : va_G) (HB : Heap) (h : hp_T) (h0 : hp_T) (y : Nat) (A : Nat → Nat) (V : vT) (x : Int32) (hU : ok_ (V 8 0) 40) (hM : mq D h0 h y A V) : ct_M l y_MD_user (.code y_MD_user prog_9_method_12_code 3 (Option.some Jvm.ClassFile.FieldType.int)) ({ frames := 1, cells := 0, slots := 0, locals := 30 }) D HB [.ref y, .int x] h (fun o h2 => ∃ (cd r : Int32) (V2 : vT), sp_user V x = (cd, r, V2) ∧ o = .inl (some (.int r)) ∧ mq D h0 h2 y A V2) := by
  refine ct_of (by decide) (Nat.le_of_ble_eq_true rfl) rfl ?_
  intro p_ e_ s_ m_ r_ b_ t_ c_ C hnm
  refine wk_run C k_MD_user_0 (pc2 := 2) (lv2 := [(0, .ref y), (1, .int x)]) (st2 := [.int x, .ref y]) rfl ?_
  refine wk_callV (cl := ("ProfileRightsModel", T_MD, 27)) (rest := []) C (c_MD_isGroup l D HB h h0 y A (V) x hM) cs_MD_84 kc_MD_isGroup ki_MD hM.ob rfl rfl rfl (Nat.le_of_ble_eq_true rfl) (Nat.le_of_ble_eq_true rfl) (Nat.le_of_ble_eq_true rfl) (Nat.le_of_ble_eq_true rfl) (Nat.le_of_ble_eq_true rfl) d_MD_user_2 (fun v h2 hq => ?_) (fun _ _ z => nomatch z.1)
  obtain ⟨e1, e2⟩ := hq; cases e1; replace e2 := e2.symm; subst e2
  show Wk _ _ _ _ _ _ _ _ _ _ _ _ _ _ _ _ _ _ _ (.int (if ¬ x < 1 ∧ x ≤ V 7 0 then (1 : Int32) else 0) :: _)
  refine wk_br C d_MD_user_5 (P := ¬ (if ¬ x < 1 ∧ x ≤ V 7 0 then (1 : Int32) else 0) = 0) (tgt := 12) (rest := []) rfl (by decide) (fun c1 => ?_) (fun c1 => ?_)
  ·
    replace c1 := bn_ c1
    refine wk_run C k_MD_user_12 (pc2 := 17) (lv2 := [(2, .int 0), (0, .ref y), (1, .int x)]) (st2 := [.int 0, .int 0, .ref y]) rfl ?_
    refine wk_br C d_MD_user_17 (P := ¬ 0 = 0) (tgt := 33) (rest := [.int 0, .ref y]) rfl (by decide) (fun c2 => ?_) (fun c2 => ?_)
    ·
      exact absurd c2 (by decide)
    ·
      refine wk_run C k_MD_user_20 (pc2 := 21) (lv2 := [(2, .int 0), (0, .ref y), (1, .int x)]) (st2 := [.ref y, .int 0, .ref y]) rfl ?_
      refine wk_get (v := .int (V 8 0)) C fd_MD_78 hM.ob rfl d_MD_user_21 ?_
      refine wk_run C k_MD_user_24 (pc2 := 26) (lv2 := [(2, .int 0), (0, .ref y), (1, .int x)]) (st2 := [.int 40, .int (V 8 0), .int 0, .ref y]) rfl ?_
      refine wk_br C d_MD_user_26 (P := ¬ (V 8 0) = 40) (tgt := 33) (rest := [.int 0, .ref y]) rfl (by decide) (fun c3 => ?_) (fun c3 => ?_)
      ·
        refine wk_run C k_MD_user_33 (pc2 := 34) (lv2 := [(2, .int 0), (0, .ref y), (1, .int x)]) (st2 := [.int 0, .int 0, .ref y]) rfl ?_
        refine wk_callV (cl := ("ProfileRightsModel", T_MD, 27)) (rest := []) C (c_MD_f0 l D HB h h0 y A (V) hM) cs_MD_88 kc_MD_fails ki_MD hM.ob rfl rfl rfl (Nat.le_of_ble_eq_true rfl) (Nat.le_of_ble_eq_true rfl) (Nat.le_of_ble_eq_true rfl) (Nat.le_of_ble_eq_true rfl) (Nat.le_of_ble_eq_true rfl) d_MD_user_34 (fun v h hq => ?_) (fun _ _ z => nomatch z.1)
        obtain ⟨e1, hM⟩ := hq; cases e1
        refine wk_br C d_MD_user_37 (P := 0 = 0) (tgt := 42) (rest := []) rfl (by decide) (fun c4 => ?_) (fun c4 => ?_)
        ·
          refine wk_run C k_MD_user_42 (pc2 := 44) (lv2 := [(2, .int 0), (0, .ref y), (1, .int x)]) (st2 := [.ref y, .ref y]) rfl ?_
          refine wk_get (v := .int (V 8 0)) C fd_MD_78 hM.ob rfl d_MD_user_44 ?_
          refine wk_run C k_MD_user_47 (pc2 := 49) (lv2 := [(2, .int 0), (0, .ref y), (1, .int x)]) (st2 := [.int ((V 8 0) + 1), .ref y]) rfl ?_
          refine wm_put C hM 8 (by simp [sc_]) fd_MD_78 rfl d_MD_user_49 (fun h (hM : mq D h0 h y A (vc (vc (V) 0 0) 8 ((V 8 0) + 1))) => ?_)
          refine wk_run C k_MD_user_52 (pc2 := 53) (lv2 := [(2, .int 0), (0, .ref y), (1, .int x)]) (st2 := [.ref y]) rfl ?_
          refine wk_get (v := .ref (A 2)) C fd_MD_13 hM.ob rfl d_MD_user_53 ?_
          refine wk_run C k_MD_user_56 (pc2 := 57) (lv2 := [(2, .int 0), (0, .ref y), (1, .int x)]) (st2 := [.ref y, .ref (A 2)]) rfl ?_
          refine wk_get (v := .int (((V 8 0) + 1))) C fd_MD_78 hM.ob rfl d_MD_user_57 ?_
          refine wk_run C k_MD_user_60 (pc2 := 61) (lv2 := [(2, .int 0), (0, .ref y), (1, .int x)]) (st2 := [.int x, .int (((V 8 0) + 1)), .ref (A 2)]) rfl ?_
          refine wm_st C hM 2 (j := (nu (V 8 0 + 1))) rfl (vi_k (ok_p hU c3 (by decide)).1 (by decide) (by decide)) rfl d_MD_user_61 (fun h (hM : mq D h0 h y A (vs (vc (vc (V) 0 0) 8 ((V 8 0) + 1)) 2 (upd (V 2) (nu (V 8 0 + 1)) x))) => ?_)
          refine wk_run C k_MD_user_62 (pc2 := 63) (lv2 := [(2, .int 0), (0, .ref y), (1, .int x)]) (st2 := [.ref y]) rfl ?_
          refine wk_get (v := .ref (A 4)) C fd_MD_19 hM.ob rfl d_MD_user_63 ?_
          refine wk_run C k_MD_user_66 (pc2 := 67) (lv2 := [(2, .int 0), (0, .ref y), (1, .int x)]) (st2 := [.ref y, .ref (A 4)]) rfl ?_
          refine wk_get (v := .int (((V 8 0) + 1))) C fd_MD_78 hM.ob rfl d_MD_user_67 ?_
          refine wk_run C k_MD_user_70 (pc2 := 71) (lv2 := [(2, .int 0), (0, .ref y), (1, .int x)]) (st2 := [.int 3, .int (((V 8 0) + 1)), .ref (A 4)]) rfl ?_
          refine wm_st C hM 4 (j := (nu (V 8 0 + 1))) rfl (vi_k (ok_p hU c3 (by decide)).1 (by decide) (by decide)) rfl d_MD_user_71 (fun h (hM : mq D h0 h y A (vs (vs (vc (vc (V) 0 0) 8 ((V 8 0) + 1)) 2 (upd (V 2) (nu (V 8 0 + 1)) x)) 4 (upd (V 4) (nu (V 8 0 + 1)) 3))) => ?_)
          refine wk_run C k_MD_user_72 (pc2 := 73) (lv2 := [(2, .int 0), (0, .ref y), (1, .int x)]) (st2 := [.ref y]) rfl ?_
          refine wk_get (v := .int (((V 8 0) + 1))) C fd_MD_78 hM.ob rfl d_MD_user_73 ?_
          exact wk_iret C ⟨0, (((V 8 0) + 1)), vs (vs (vc (vc (V) 0 0) 8 ((V 8 0) + 1)) 2 (upd (V 2) (nu (V 8 0 + 1)) x)) 4 (upd (V 4) (nu (V 8 0 + 1)) 3), by clear C hM hnm; grind [sp_user], rfl, hM⟩ (by decide) (by decide) d_MD_user_76
        ·
          exact absurd (by decide) c4
      ·
        refine wk_run C k_MD_user_29 (pc2 := 30) (lv2 := [(2, .int 0), (0, .ref y), (1, .int x)]) (st2 := [.int 1, .int 0, .ref y]) rfl ?_
        refine wk_goto C d_MD_user_30 (tgt := 34) (by decide) ?_
        refine wk_callV (cl := ("ProfileRightsModel", T_MD, 27)) (rest := []) C (c_MD_f2 l D HB h h0 y A (V) hM) cs_MD_88 kc_MD_fails ki_MD hM.ob rfl rfl rfl (Nat.le_of_ble_eq_true rfl) (Nat.le_of_ble_eq_true rfl) (Nat.le_of_ble_eq_true rfl) (Nat.le_of_ble_eq_true rfl) (Nat.le_of_ble_eq_true rfl) d_MD_user_34 (fun v h hq => ?_) (fun _ _ z => nomatch z.1)
        obtain ⟨e1, hM⟩ := hq; cases e1
        refine wk_br C d_MD_user_37 (P := 1 = 0) (tgt := 42) (rest := []) rfl (by decide) (fun c5 => ?_) (fun c5 => ?_)
        ·
          exact absurd c5 (by decide)
        ·
          refine wk_run C k_MD_user_40 (pc2 := 41) (lv2 := [(2, .int 0), (0, .ref y), (1, .int x)]) (st2 := [.int 0]) rfl ?_
          exact wk_iret C ⟨2, 0, vc (V) 0 2, by clear C hM hnm; grind [sp_user], rfl, hM⟩ (by decide) (by decide) d_MD_user_41
  ·
    replace c1 := bz_ (Classical.not_not.mp c1)
    refine wk_run C k_MD_user_8 (pc2 := 9) (lv2 := [(0, .ref y), (1, .int x)]) (st2 := [.int 1]) rfl ?_
    refine wk_goto C d_MD_user_9 (tgt := 13) (by decide) ?_
    refine wk_run C k_MD_user_13 (pc2 := 17) (lv2 := [(2, .int 1), (0, .ref y), (1, .int x)]) (st2 := [.int 1, .int 1, .ref y]) rfl ?_
    refine wk_br C d_MD_user_17 (P := ¬ 1 = 0) (tgt := 33) (rest := [.int 1, .ref y]) rfl (by decide) (fun c6 => ?_) (fun c6 => ?_)
    ·
      refine wk_run C k_MD_user_33 (pc2 := 34) (lv2 := [(2, .int 1), (0, .ref y), (1, .int x)]) (st2 := [.int 0, .int 1, .ref y]) rfl ?_
      refine wk_callV (cl := ("ProfileRightsModel", T_MD, 27)) (rest := []) C (c_MD_f1 l D HB h h0 y A (V) hM) cs_MD_88 kc_MD_fails ki_MD hM.ob rfl rfl rfl (Nat.le_of_ble_eq_true rfl) (Nat.le_of_ble_eq_true rfl) (Nat.le_of_ble_eq_true rfl) (Nat.le_of_ble_eq_true rfl) (Nat.le_of_ble_eq_true rfl) d_MD_user_34 (fun v h hq => ?_) (fun _ _ z => nomatch z.1)
      obtain ⟨e1, hM⟩ := hq; cases e1
      refine wk_br C d_MD_user_37 (P := 1 = 0) (tgt := 42) (rest := []) rfl (by decide) (fun c7 => ?_) (fun c7 => ?_)
      ·
        exact absurd c7 (by decide)
      ·
        refine wk_run C k_MD_user_40 (pc2 := 41) (lv2 := [(2, .int 1), (0, .ref y), (1, .int x)]) (st2 := [.int 0]) rfl ?_
        exact wk_iret C ⟨1, 0, vc (V) 0 1, by clear C hM hnm; grind [sp_user], rfl, hM⟩ (by decide) (by decide) d_MD_user_41
    ·
      exact absurd (by decide) c6
theorem k_MD_terminal_0 : px_dec prog_9_method_13_code [.aload_n 0, .aload_n 0, .iload_n 1] 0 = true := by decide +kernel
theorem d_MD_terminal_3 : decode prog_9_method_13_code 3 = .ok (.invokevirtual 92, 3) := by decide +kernel
theorem d_MD_terminal_6 : decode prog_9_method_13_code 6 = .ok (.ifCond .eq 10, 3) := by decide +kernel
theorem k_MD_terminal_16 : px_dec prog_9_method_13_code [.iconst 1] 16 = true := by decide +kernel
theorem d_MD_terminal_17 : decode prog_9_method_13_code 17 = .ok (.goto 4, 3) := by decide +kernel
theorem k_MD_terminal_21 : px_dec prog_9_method_13_code [.iconst 0] 21 = true := by decide +kernel
theorem d_MD_terminal_22 : decode prog_9_method_13_code 22 = .ok (.invokevirtual 88, 3) := by decide +kernel
theorem d_MD_terminal_25 : decode prog_9_method_13_code 25 = .ok (.ifCond .eq 5, 3) := by decide +kernel
theorem k_MD_terminal_28 : px_dec prog_9_method_13_code [.iconst 0] 28 = true := by decide +kernel
theorem d_MD_terminal_29 : decode prog_9_method_13_code 29 = .ok (.ireturn, 1) := by decide +kernel
theorem k_MD_terminal_9 : px_dec prog_9_method_13_code [.iload_n 2] 9 = true := by decide +kernel
theorem d_MD_terminal_10 : decode prog_9_method_13_code 10 = .ok (.invokestatic 95, 3) := by decide +kernel
theorem d_MD_terminal_13 : decode prog_9_method_13_code 13 = .ok (.ifCond .ne 7, 3) := by decide +kernel
theorem k_MD_terminal_20 : px_dec prog_9_method_13_code [.iconst 0, .iconst 0] 20 = true := by decide +kernel
theorem k_MD_terminal_30 : px_dec prog_9_method_13_code [.aload_n 0] 30 = true := by decide +kernel
theorem d_MD_terminal_31 : decode prog_9_method_13_code 31 = .ok (.getfield 16, 3) := by decide +kernel
theorem k_MD_terminal_34 : px_dec prog_9_method_13_code [.iload_n 1] 34 = true := by decide +kernel
theorem d_MD_terminal_35 : decode prog_9_method_13_code 35 = .ok (.iaload, 1) := by decide +kernel
theorem k_MD_terminal_36 : px_dec prog_9_method_13_code [.istore_n 3, .aload_n 0] 36 = true := by decide +kernel
theorem d_MD_terminal_38 : decode prog_9_method_13_code 38 = .ok (.getfield 16, 3) := by decide +kernel
theorem k_MD_terminal_41 : px_dec prog_9_method_13_code [.iload_n 1, .iload_n 2] 41 = true := by decide +kernel
theorem d_MD_terminal_43 : decode prog_9_method_13_code 43 = .ok (.iastore, 1) := by decide +kernel
theorem k_MD_terminal_44 : px_dec prog_9_method_13_code [.iload_n 3] 44 = true := by decide +kernel
theorem d_MD_terminal_45 : decode prog_9_method_13_code 45 = .ok (.ireturn, 1) := by decide +kernel
set_option maxRecDepth 100000 in
set_option maxHeartbeats 4000000 in
theorem c_MD_terminal (l : Launch) (D : va_G) (HB : Heap) (h : hp_T) (h0 : hp_T) (y : Nat) (A : Nat → Nat) (V : vT) (u : Int32) (t : Int32) (hU : ok_ (V 8 0) 40) (hM : mq D h0 h y A V) : ct_M l y_MD_terminal (.code y_MD_terminal prog_9_method_13_code 4 (Option.some Jvm.ClassFile.FieldType.int)) ({ frames := 1, cells := 0, slots := 0, locals := 30 }) D HB [.ref y, .int u, .int t] h (fun o h2 => ∃ (cd r : Int32) (V2 : vT), sp_terminal V u t = (cd, r, V2) ∧ o = .inl (some (.int r)) ∧ mq D h0 h2 y A V2) := by
  refine ct_of (by decide) (Nat.le_of_ble_eq_true rfl) rfl ?_
  intro p_ e_ s_ m_ r_ b_ t_ c_ C hnm
  refine wk_run C k_MD_terminal_0 (pc2 := 3) (lv2 := [(0, .ref y), (1, .int u), (2, .int t)]) (st2 := [.int u, .ref y, .ref y]) rfl ?_
  refine wk_callV (cl := ("ProfileRightsModel", T_MD, 27)) (rest := [.ref y]) C (c_MD_isUser l D HB h h0 y A (V) u hM) cs_MD_92 kc_MD_isUser ki_MD hM.ob rfl rfl rfl (Nat.le_of_ble_eq_true rfl) (Nat.le_of_ble_eq_true rfl) (Nat.le_of_ble_eq_true rfl) (Nat.le_of_ble_eq_true rfl) (Nat.le_of_ble_eq_true rfl) d_MD_terminal_3 (fun v h2 hq => ?_) (fun _ _ z => nomatch z.1)
  obtain ⟨e1, e2⟩ := hq; cases e1; replace e2 := e2.symm; subst e2
  show Wk _ _ _ _ _ _ _ _ _ _ _ _ _ _ _ _ _ _ _ (.int (if ¬ u < 1 ∧ u ≤ V 8 0 then (1 : Int32) else 0) :: _)
  refine wk_br C d_MD_terminal_6 (P := (if ¬ u < 1 ∧ u ≤ V 8 0 then (1 : Int32) else 0) = 0) (tgt := 16) (rest := [.ref y]) rfl (by decide) (fun c1 => ?_) (fun c1 => ?_)
  ·
    replace c1 := bz_ c1
    refine wk_run C k_MD_terminal_16 (pc2 := 17) (lv2 := [(0, .ref y), (1, .int u), (2, .int t)]) (st2 := [.int 1, .ref y]) rfl ?_
    refine wk_goto C d_MD_terminal_17 (tgt := 21) (by decide) ?_
    refine wk_run C k_MD_terminal_21 (pc2 := 22) (lv2 := [(0, .ref y), (1, .int u), (2, .int t)]) (st2 := [.int 0, .int 1, .ref y]) rfl ?_
    refine wk_callV (cl := ("ProfileRightsModel", T_MD, 27)) (rest := []) C (c_MD_f1 l D HB h h0 y A (V) hM) cs_MD_88 kc_MD_fails ki_MD hM.ob rfl rfl rfl (Nat.le_of_ble_eq_true rfl) (Nat.le_of_ble_eq_true rfl) (Nat.le_of_ble_eq_true rfl) (Nat.le_of_ble_eq_true rfl) (Nat.le_of_ble_eq_true rfl) d_MD_terminal_22 (fun v h hq => ?_) (fun _ _ z => nomatch z.1)
    obtain ⟨e1, hM⟩ := hq; cases e1
    refine wk_br C d_MD_terminal_25 (P := 1 = 0) (tgt := 30) (rest := []) rfl (by decide) (fun c2 => ?_) (fun c2 => ?_)
    ·
      exact absurd c2 (by decide)
    ·
      refine wk_run C k_MD_terminal_28 (pc2 := 29) (lv2 := [(0, .ref y), (1, .int u), (2, .int t)]) (st2 := [.int 0]) rfl ?_
      exact wk_iret C ⟨1, 0, vc (V) 0 1, by clear C hM hnm; grind [sp_terminal], rfl, hM⟩ (by decide) (by decide) d_MD_terminal_29
  ·
    replace c1 := bn_ c1
    refine wk_run C k_MD_terminal_9 (pc2 := 10) (lv2 := [(0, .ref y), (1, .int u), (2, .int t)]) (st2 := [.int t, .ref y]) rfl ?_
    refine wk_callS (rest := [.ref y]) C (c_MD_isTerminal l D HB h t) cs_MD_95 kc_MD_isTerminal ki_MD rfl rfl (Nat.le_of_ble_eq_true rfl) (Nat.le_of_ble_eq_true rfl) (Nat.le_of_ble_eq_true rfl) (Nat.le_of_ble_eq_true rfl) (Nat.le_of_ble_eq_true rfl) d_MD_terminal_10 (fun v h2 hq => ?_) (fun _ _ z => nomatch z.1)
    obtain ⟨e1, e2⟩ := hq; cases e1; replace e2 := e2.symm; subst e2
    refine wk_br C d_MD_terminal_13 (P := ¬ (if ¬ t < 0 ∧ t < 100 then (1 : Int32) else 0) = 0) (tgt := 20) (rest := [.ref y]) rfl (by decide) (fun c3 => ?_) (fun c3 => ?_)
    ·
      replace c3 := bn_ c3
      refine wk_run C k_MD_terminal_20 (pc2 := 22) (lv2 := [(0, .ref y), (1, .int u), (2, .int t)]) (st2 := [.int 0, .int 0, .ref y]) rfl ?_
      refine wk_callV (cl := ("ProfileRightsModel", T_MD, 27)) (rest := []) C (c_MD_f0 l D HB h h0 y A (V) hM) cs_MD_88 kc_MD_fails ki_MD hM.ob rfl rfl rfl (Nat.le_of_ble_eq_true rfl) (Nat.le_of_ble_eq_true rfl) (Nat.le_of_ble_eq_true rfl) (Nat.le_of_ble_eq_true rfl) (Nat.le_of_ble_eq_true rfl) d_MD_terminal_22 (fun v h hq => ?_) (fun _ _ z => nomatch z.1)
      obtain ⟨e1, hM⟩ := hq; cases e1
      refine wk_br C d_MD_terminal_25 (P := 0 = 0) (tgt := 30) (rest := []) rfl (by decide) (fun c4 => ?_) (fun c4 => ?_)
      ·
        refine wk_run C k_MD_terminal_30 (pc2 := 31) (lv2 := [(0, .ref y), (1, .int u), (2, .int t)]) (st2 := [.ref y]) rfl ?_
        refine wk_get (v := .ref (A 3)) C fd_MD_16 hM.ob rfl d_MD_terminal_31 ?_
        refine wk_run C k_MD_terminal_34 (pc2 := 35) (lv2 := [(0, .ref y), (1, .int u), (2, .int t)]) (st2 := [.int u, .ref (A 3)]) rfl ?_
        refine wm_ld C hM 3 (j := nu u) rfl (vi_ c1.1 c1.2 hU (by decide) (by decide)) rfl d_MD_terminal_35 ?_
        show Wk _ _ _ _ _ _ _ _ _ _ _ _ _ _ _ _ _ _ _ (.int (V 3 (nu u)) :: _)
        refine wk_run C k_MD_terminal_36 (pc2 := 38) (lv2 := [(3, .int (V 3 (nu u))), (0, .ref y), (1, .int u), (2, .int t)]) (st2 := [.ref y]) rfl ?_
        refine wk_get (v := .ref (A 3)) C fd_MD_16 hM.ob rfl d_MD_terminal_38 ?_
        refine wk_run C k_MD_terminal_41 (pc2 := 43) (lv2 := [(3, .int (V 3 (nu u))), (0, .ref y), (1, .int u), (2, .int t)]) (st2 := [.int t, .int u, .ref (A 3)]) rfl ?_
        refine wm_st C hM 3 (j := (nu u)) rfl (vi_ c1.1 c1.2 hU (by decide) (by decide)) rfl d_MD_terminal_43 (fun h (hM : mq D h0 h y A (vs (vc (V) 0 0) 3 (upd (V 3) (nu u) t))) => ?_)
        refine wk_run C k_MD_terminal_44 (pc2 := 45) (lv2 := [(3, .int (V 3 (nu u))), (0, .ref y), (1, .int u), (2, .int t)]) (st2 := [.int (V 3 (nu u))]) rfl ?_
        exact wk_iret C ⟨0, (V 3 (nu u)), vs (vc (V) 0 0) 3 (upd (V 3) (nu u) t), by clear C hM hnm; grind [sp_terminal], rfl, hM⟩ (by decide) (by decide) d_MD_terminal_45
      ·
        exact absurd (by decide) c4
    ·
      replace c3 := bz_ (Classical.not_not.mp c3)
      refine wk_run C k_MD_terminal_16 (pc2 := 17) (lv2 := [(0, .ref y), (1, .int u), (2, .int t)]) (st2 := [.int 1, .ref y]) rfl ?_
      refine wk_goto C d_MD_terminal_17 (tgt := 21) (by decide) ?_
      refine wk_run C k_MD_terminal_21 (pc2 := 22) (lv2 := [(0, .ref y), (1, .int u), (2, .int t)]) (st2 := [.int 0, .int 1, .ref y]) rfl ?_
      refine wk_callV (cl := ("ProfileRightsModel", T_MD, 27)) (rest := []) C (c_MD_f1 l D HB h h0 y A (V) hM) cs_MD_88 kc_MD_fails ki_MD hM.ob rfl rfl rfl (Nat.le_of_ble_eq_true rfl) (Nat.le_of_ble_eq_true rfl) (Nat.le_of_ble_eq_true rfl) (Nat.le_of_ble_eq_true rfl) (Nat.le_of_ble_eq_true rfl) d_MD_terminal_22 (fun v h hq => ?_) (fun _ _ z => nomatch z.1)
      obtain ⟨e1, hM⟩ := hq; cases e1
      refine wk_br C d_MD_terminal_25 (P := 1 = 0) (tgt := 30) (rest := []) rfl (by decide) (fun c5 => ?_) (fun c5 => ?_)
      ·
        exact absurd c5 (by decide)
      ·
        refine wk_run C k_MD_terminal_28 (pc2 := 29) (lv2 := [(0, .ref y), (1, .int u), (2, .int t)]) (st2 := [.int 0]) rfl ?_
        exact wk_iret C ⟨1, 0, vc (V) 0 1, by clear C hM hnm; grind [sp_terminal], rfl, hM⟩ (by decide) (by decide) d_MD_terminal_29
theorem k_MD_mode_0 : px_dec prog_9_method_18_code [.aload_n 0, .iload_n 1] 0 = true := by decide +kernel
theorem d_MD_mode_2 : decode prog_9_method_18_code 2 = .ok (.invokestatic 98, 3) := by decide +kernel
theorem d_MD_mode_5 : decode prog_9_method_18_code 5 = .ok (.ifCond .eq 12, 3) := by decide +kernel
theorem k_MD_mode_17 : px_dec prog_9_method_18_code [.iconst 1] 17 = true := by decide +kernel
theorem d_MD_mode_18 : decode prog_9_method_18_code 18 = .ok (.goto 4, 3) := by decide +kernel
theorem k_MD_mode_22 : px_dec prog_9_method_18_code [.iconst 0] 22 = true := by decide +kernel
theorem d_MD_mode_23 : decode prog_9_method_18_code 23 = .ok (.invokevirtual 88, 3) := by decide +kernel
theorem d_MD_mode_26 : decode prog_9_method_18_code 26 = .ok (.ifCond .eq 5, 3) := by decide +kernel
theorem k_MD_mode_29 : px_dec prog_9_method_18_code [.iconst 0] 29 = true := by decide +kernel
theorem d_MD_mode_30 : decode prog_9_method_18_code 30 = .ok (.ireturn, 1) := by decide +kernel
theorem k_MD_mode_8 : px_dec prog_9_method_18_code [.iload_n 2] 8 = true := by decide +kernel
theorem d_MD_mode_9 : decode prog_9_method_18_code 9 = .ok (.ifCond .lt 8, 3) := by decide +kernel
theorem k_MD_mode_12 : px_dec prog_9_method_18_code [.iload_n 2, .iconst 2] 12 = true := by decide +kernel
theorem d_MD_mode_14 : decode prog_9_method_18_code 14 = .ok (.if_icmp .le 7, 3) := by decide +kernel
theorem k_MD_mode_21 : px_dec prog_9_method_18_code [.iconst 0, .iconst 0] 21 = true := by decide +kernel
theorem k_MD_mode_31 : px_dec prog_9_method_18_code [.aload_n 0] 31 = true := by decide +kernel
theorem d_MD_mode_32 : decode prog_9_method_18_code 32 = .ok (.getfield 29, 3) := by decide +kernel
theorem k_MD_mode_35 : px_dec prog_9_method_18_code [.iload_n 1] 35 = true := by decide +kernel
theorem d_MD_mode_36 : decode prog_9_method_18_code 36 = .ok (.iaload, 1) := by decide +kernel
theorem k_MD_mode_37 : px_dec prog_9_method_18_code [.istore_n 3, .aload_n 0] 37 = true := by decide +kernel
theorem d_MD_mode_39 : decode prog_9_method_18_code 39 = .ok (.getfield 29, 3) := by decide +kernel
theorem k_MD_mode_42 : px_dec prog_9_method_18_code [.iload_n 1, .iload_n 2] 42 = true := by decide +kernel
theorem d_MD_mode_44 : decode prog_9_method_18_code 44 = .ok (.iastore, 1) := by decide +kernel
theorem k_MD_mode_45 : px_dec prog_9_method_18_code [.iload_n 3] 45 = true := by decide +kernel
theorem d_MD_mode_46 : decode prog_9_method_18_code 46 = .ok (.ireturn, 1) := by decide +kernel
set_option maxRecDepth 100000 in
set_option maxHeartbeats 4000000 in
theorem c_MD_mode (l : Launch) (D : va_G) (HB : Heap) (h : hp_T) (h0 : hp_T) (y : Nat) (A : Nat → Nat) (V : vT) (c : Int32) (m : Int32)  (hM : mq D h0 h y A V) : ct_M l y_MD_mode (.code y_MD_mode prog_9_method_18_code 4 (Option.some Jvm.ClassFile.FieldType.int)) ({ frames := 1, cells := 0, slots := 0, locals := 30 }) D HB [.ref y, .int c, .int m] h (fun o h2 => ∃ (cd r : Int32) (V2 : vT), sp_mode V c m = (cd, r, V2) ∧ o = .inl (some (.int r)) ∧ mq D h0 h2 y A V2) := by
  refine ct_of (by decide) (Nat.le_of_ble_eq_true rfl) rfl ?_
  intro p_ e_ s_ m_ r_ b_ t_ c_ C hnm
  refine wk_run C k_MD_mode_0 (pc2 := 2) (lv2 := [(0, .ref y), (1, .int c), (2, .int m)]) (st2 := [.int c, .ref y]) rfl ?_
  refine wk_callS (rest := [.ref y]) C (c_MD_isClass l D HB h c) cs_MD_98 kc_MD_isClass ki_MD rfl rfl (Nat.le_of_ble_eq_true rfl) (Nat.le_of_ble_eq_true rfl) (Nat.le_of_ble_eq_true rfl) (Nat.le_of_ble_eq_true rfl) (Nat.le_of_ble_eq_true rfl) d_MD_mode_2 (fun v h2 hq => ?_) (fun _ _ z => nomatch z.1)
  obtain ⟨e1, e2⟩ := hq; cases e1; replace e2 := e2.symm; subst e2
  refine wk_br C d_MD_mode_5 (P := (if ¬ c < 0 ∧ c < 8 then (1 : Int32) else 0) = 0) (tgt := 17) (rest := [.ref y]) rfl (by decide) (fun c1 => ?_) (fun c1 => ?_)
  ·
    replace c1 := bz_ c1
    refine wk_run C k_MD_mode_17 (pc2 := 18) (lv2 := [(0, .ref y), (1, .int c), (2, .int m)]) (st2 := [.int 1, .ref y]) rfl ?_
    refine wk_goto C d_MD_mode_18 (tgt := 22) (by decide) ?_
    refine wk_run C k_MD_mode_22 (pc2 := 23) (lv2 := [(0, .ref y), (1, .int c), (2, .int m)]) (st2 := [.int 0, .int 1, .ref y]) rfl ?_
    refine wk_callV (cl := ("ProfileRightsModel", T_MD, 27)) (rest := []) C (c_MD_f1 l D HB h h0 y A (V) hM) cs_MD_88 kc_MD_fails ki_MD hM.ob rfl rfl rfl (Nat.le_of_ble_eq_true rfl) (Nat.le_of_ble_eq_true rfl) (Nat.le_of_ble_eq_true rfl) (Nat.le_of_ble_eq_true rfl) (Nat.le_of_ble_eq_true rfl) d_MD_mode_23 (fun v h hq => ?_) (fun _ _ z => nomatch z.1)
    obtain ⟨e1, hM⟩ := hq; cases e1
    refine wk_br C d_MD_mode_26 (P := 1 = 0) (tgt := 31) (rest := []) rfl (by decide) (fun c2 => ?_) (fun c2 => ?_)
    ·
      exact absurd c2 (by decide)
    ·
      refine wk_run C k_MD_mode_29 (pc2 := 30) (lv2 := [(0, .ref y), (1, .int c), (2, .int m)]) (st2 := [.int 0]) rfl ?_
      exact wk_iret C ⟨1, 0, vc (V) 0 1, by clear C hM hnm; grind [sp_mode], rfl, hM⟩ (by decide) (by decide) d_MD_mode_30
  ·
    replace c1 := bn_ c1
    refine wk_run C k_MD_mode_8 (pc2 := 9) (lv2 := [(0, .ref y), (1, .int c), (2, .int m)]) (st2 := [.int m, .ref y]) rfl ?_
    refine wk_br C d_MD_mode_9 (P := m < 0) (tgt := 17) (rest := [.ref y]) rfl (by decide) (fun c3 => ?_) (fun c3 => ?_)
    ·
      refine wk_run C k_MD_mode_17 (pc2 := 18) (lv2 := [(0, .ref y), (1, .int c), (2, .int m)]) (st2 := [.int 1, .ref y]) rfl ?_
      refine wk_goto C d_MD_mode_18 (tgt := 22) (by decide) ?_
      refine wk_run C k_MD_mode_22 (pc2 := 23) (lv2 := [(0, .ref y), (1, .int c), (2, .int m)]) (st2 := [.int 0, .int 1, .ref y]) rfl ?_
      refine wk_callV (cl := ("ProfileRightsModel", T_MD, 27)) (rest := []) C (c_MD_f1 l D HB h h0 y A (V) hM) cs_MD_88 kc_MD_fails ki_MD hM.ob rfl rfl rfl (Nat.le_of_ble_eq_true rfl) (Nat.le_of_ble_eq_true rfl) (Nat.le_of_ble_eq_true rfl) (Nat.le_of_ble_eq_true rfl) (Nat.le_of_ble_eq_true rfl) d_MD_mode_23 (fun v h hq => ?_) (fun _ _ z => nomatch z.1)
      obtain ⟨e1, hM⟩ := hq; cases e1
      refine wk_br C d_MD_mode_26 (P := 1 = 0) (tgt := 31) (rest := []) rfl (by decide) (fun c4 => ?_) (fun c4 => ?_)
      ·
        exact absurd c4 (by decide)
      ·
        refine wk_run C k_MD_mode_29 (pc2 := 30) (lv2 := [(0, .ref y), (1, .int c), (2, .int m)]) (st2 := [.int 0]) rfl ?_
        exact wk_iret C ⟨1, 0, vc (V) 0 1, by clear C hM hnm; grind [sp_mode], rfl, hM⟩ (by decide) (by decide) d_MD_mode_30
    ·
      refine wk_run C k_MD_mode_12 (pc2 := 14) (lv2 := [(0, .ref y), (1, .int c), (2, .int m)]) (st2 := [.int 2, .int m, .ref y]) rfl ?_
      refine wk_br C d_MD_mode_14 (P := m ≤ 2) (tgt := 21) (rest := [.ref y]) rfl (by decide) (fun c5 => ?_) (fun c5 => ?_)
      ·
        refine wk_run C k_MD_mode_21 (pc2 := 23) (lv2 := [(0, .ref y), (1, .int c), (2, .int m)]) (st2 := [.int 0, .int 0, .ref y]) rfl ?_
        refine wk_callV (cl := ("ProfileRightsModel", T_MD, 27)) (rest := []) C (c_MD_f0 l D HB h h0 y A (V) hM) cs_MD_88 kc_MD_fails ki_MD hM.ob rfl rfl rfl (Nat.le_of_ble_eq_true rfl) (Nat.le_of_ble_eq_true rfl) (Nat.le_of_ble_eq_true rfl) (Nat.le_of_ble_eq_true rfl) (Nat.le_of_ble_eq_true rfl) d_MD_mode_23 (fun v h hq => ?_) (fun _ _ z => nomatch z.1)
        obtain ⟨e1, hM⟩ := hq; cases e1
        refine wk_br C d_MD_mode_26 (P := 0 = 0) (tgt := 31) (rest := []) rfl (by decide) (fun c6 => ?_) (fun c6 => ?_)
        ·
          refine wk_run C k_MD_mode_31 (pc2 := 32) (lv2 := [(0, .ref y), (1, .int c), (2, .int m)]) (st2 := [.ref y]) rfl ?_
          refine wk_get (v := .ref (A 10)) C fd_MD_29 hM.ob rfl d_MD_mode_32 ?_
          refine wk_run C k_MD_mode_35 (pc2 := 36) (lv2 := [(0, .ref y), (1, .int c), (2, .int m)]) (st2 := [.int c, .ref (A 10)]) rfl ?_
          refine wm_ld C hM 10 (j := nu c) rfl (vi_k (ok_c c1.1 c1.2 (show (8 : Int32) = nI (7 + 1) from rfl) (by decide)) (by decide) (by decide)) rfl d_MD_mode_36 ?_
          show Wk _ _ _ _ _ _ _ _ _ _ _ _ _ _ _ _ _ _ _ (.int (V 10 (nu c)) :: _)
          refine wk_run C k_MD_mode_37 (pc2 := 39) (lv2 := [(3, .int (V 10 (nu c))), (0, .ref y), (1, .int c), (2, .int m)]) (st2 := [.ref y]) rfl ?_
          refine wk_get (v := .ref (A 10)) C fd_MD_29 hM.ob rfl d_MD_mode_39 ?_
          refine wk_run C k_MD_mode_42 (pc2 := 44) (lv2 := [(3, .int (V 10 (nu c))), (0, .ref y), (1, .int c), (2, .int m)]) (st2 := [.int m, .int c, .ref (A 10)]) rfl ?_
          refine wm_st C hM 10 (j := (nu c)) rfl (vi_k (ok_c c1.1 c1.2 (show (8 : Int32) = nI (7 + 1) from rfl) (by decide)) (by decide) (by decide)) rfl d_MD_mode_44 (fun h (hM : mq D h0 h y A (vs (vc (V) 0 0) 10 (upd (V 10) (nu c) m))) => ?_)
          refine wk_run C k_MD_mode_45 (pc2 := 46) (lv2 := [(3, .int (V 10 (nu c))), (0, .ref y), (1, .int c), (2, .int m)]) (st2 := [.int (V 10 (nu c))]) rfl ?_
          exact wk_iret C ⟨0, (V 10 (nu c)), vs (vc (V) 0 0) 10 (upd (V 10) (nu c) m), by clear C hM hnm; grind [sp_mode], rfl, hM⟩ (by decide) (by decide) d_MD_mode_46
        ·
          exact absurd (by decide) c6
      ·
        refine wk_run C k_MD_mode_17 (pc2 := 18) (lv2 := [(0, .ref y), (1, .int c), (2, .int m)]) (st2 := [.int 1, .ref y]) rfl ?_
        refine wk_goto C d_MD_mode_18 (tgt := 22) (by decide) ?_
        refine wk_run C k_MD_mode_22 (pc2 := 23) (lv2 := [(0, .ref y), (1, .int c), (2, .int m)]) (st2 := [.int 0, .int 1, .ref y]) rfl ?_
        refine wk_callV (cl := ("ProfileRightsModel", T_MD, 27)) (rest := []) C (c_MD_f1 l D HB h h0 y A (V) hM) cs_MD_88 kc_MD_fails ki_MD hM.ob rfl rfl rfl (Nat.le_of_ble_eq_true rfl) (Nat.le_of_ble_eq_true rfl) (Nat.le_of_ble_eq_true rfl) (Nat.le_of_ble_eq_true rfl) (Nat.le_of_ble_eq_true rfl) d_MD_mode_23 (fun v h hq => ?_) (fun _ _ z => nomatch z.1)
        obtain ⟨e1, hM⟩ := hq; cases e1
        refine wk_br C d_MD_mode_26 (P := 1 = 0) (tgt := 31) (rest := []) rfl (by decide) (fun c7 => ?_) (fun c7 => ?_)
        ·
          exact absurd c7 (by decide)
        ·
          refine wk_run C k_MD_mode_29 (pc2 := 30) (lv2 := [(0, .ref y), (1, .int c), (2, .int m)]) (st2 := [.int 0]) rfl ?_
          exact wk_iret C ⟨1, 0, vc (V) 0 1, by clear C hM hnm; grind [sp_mode], rfl, hM⟩ (by decide) (by decide) d_MD_mode_30
theorem k_MD_profile_0 : px_dec prog_9_method_19_code [.iload_n 1] 0 = true := by decide +kernel
theorem d_MD_profile_1 : decode prog_9_method_19_code 1 = .ok (.invokestatic 98, 3) := by decide +kernel
theorem d_MD_profile_4 : decode prog_9_method_19_code 4 = .ok (.ifCond .eq 11, 3) := by decide +kernel
theorem k_MD_profile_15 : px_dec prog_9_method_19_code [.iconst 1] 15 = true := by decide +kernel
theorem d_MD_profile_16 : decode prog_9_method_19_code 16 = .ok (.goto 4, 3) := by decide +kernel
theorem k_MD_profile_20 : px_dec prog_9_method_19_code [.istore_n 3, .aload_n 0, .iload_n 3, .iload_n 3] 20 = true := by decide +kernel
theorem d_MD_profile_24 : decode prog_9_method_19_code 24 = .ok (.ifCond .ne 16, 3) := by decide +kernel
theorem k_MD_profile_40 : px_dec prog_9_method_19_code [.iconst 0] 40 = true := by decide +kernel
theorem d_MD_profile_41 : decode prog_9_method_19_code 41 = .ok (.invokevirtual 88, 3) := by decide +kernel
theorem d_MD_profile_44 : decode prog_9_method_19_code 44 = .ok (.ifCond .eq 5, 3) := by decide +kernel
theorem k_MD_profile_47 : px_dec prog_9_method_19_code [.iconst 0] 47 = true := by decide +kernel
theorem d_MD_profile_48 : decode prog_9_method_19_code 48 = .ok (.ireturn, 1) := by decide +kernel
theorem k_MD_profile_7 : px_dec prog_9_method_19_code [.aload_n 0, .iload_n 2] 7 = true := by decide +kernel
theorem d_MD_profile_9 : decode prog_9_method_19_code 9 = .ok (.invokevirtual 92, 3) := by decide +kernel
theorem d_MD_profile_12 : decode prog_9_method_19_code 12 = .ok (.ifCond .ne 7, 3) := by decide +kernel
theorem k_MD_profile_19 : px_dec prog_9_method_19_code [.iconst 0, .istore_n 3, .aload_n 0, .iload_n 3, .iload_n 3] 19 = true := by decide +kernel
theorem k_MD_profile_27 : px_dec prog_9_method_19_code [.aload_n 0] 27 = true := by decide +kernel
theorem d_MD_profile_28 : decode prog_9_method_19_code 28 = .ok (.getfield 81, 3) := by decide +kernel
theorem k_MD_profile_31 : px_dec prog_9_method_19_code [.bipush 60] 31 = true := by decide +kernel
theorem d_MD_profile_33 : decode prog_9_method_19_code 33 = .ok (.if_icmp .ne 7, 3) := by decide +kernel
theorem k_MD_profile_49 : px_dec prog_9_method_19_code [.aload_n 0, .dup] 49 = true := by decide +kernel
theorem d_MD_profile_51 : decode prog_9_method_19_code 51 = .ok (.getfield 81, 3) := by decide +kernel
theorem k_MD_profile_54 : px_dec prog_9_method_19_code [.iconst 1, .iadd] 54 = true := by decide +kernel
theorem d_MD_profile_56 : decode prog_9_method_19_code 56 = .ok (.putfield 81, 3) := by decide +kernel
theorem k_MD_profile_59 : px_dec prog_9_method_19_code [.aload_n 0] 59 = true := by decide +kernel
theorem d_MD_profile_60 : decode prog_9_method_19_code 60 = .ok (.getfield 32, 3) := by decide +kernel
theorem k_MD_profile_63 : px_dec prog_9_method_19_code [.aload_n 0] 63 = true := by decide +kernel
theorem d_MD_profile_64 : decode prog_9_method_19_code 64 = .ok (.getfield 81, 3) := by decide +kernel
theorem k_MD_profile_67 : px_dec prog_9_method_19_code [.iload_n 1] 67 = true := by decide +kernel
theorem d_MD_profile_68 : decode prog_9_method_19_code 68 = .ok (.iastore, 1) := by decide +kernel
theorem k_MD_profile_69 : px_dec prog_9_method_19_code [.aload_n 0] 69 = true := by decide +kernel
theorem d_MD_profile_70 : decode prog_9_method_19_code 70 = .ok (.getfield 81, 3) := by decide +kernel
theorem d_MD_profile_73 : decode prog_9_method_19_code 73 = .ok (.ireturn, 1) := by decide +kernel
theorem k_MD_profile_36 : px_dec prog_9_method_19_code [.iconst 1] 36 = true := by decide +kernel
theorem d_MD_profile_37 : decode prog_9_method_19_code 37 = .ok (.goto 4, 3) := by decide +kernel
set_option maxRecDepth 100000 in
set_option maxHeartbeats 4000000 in
theorem c_MD_profile (l : Launch) (D : va_G) (HB : Heap) (h : hp_T) (h0 : hp_T) (y : Nat) (A : Nat → Nat) (V : vT) (c : Int32) (u : Int32) (hP : ok_ (V 9 0) 60) (hM : mq D h0 h y A V) : ct_M l y_MD_profile (.code y_MD_profile prog_9_method_19_code 4 (Option.some Jvm.ClassFile.FieldType.int)) ({ frames := 1, cells := 0, slots := 0, locals := 30 }) D HB [.ref y, .int c, .int u] h (fun o h2 => ∃ (cd r : Int32) (V2 : vT), sp_profile V c u = (cd, r, V2) ∧ o = .inl (some (.int r)) ∧ mq D h0 h2 y A V2) := by
  refine ct_of (by decide) (Nat.le_of_ble_eq_true rfl) rfl ?_
  intro p_ e_ s_ m_ r_ b_ t_ c_ C hnm
  refine wk_run C k_MD_profile_0 (pc2 := 1) (lv2 := [(0, .ref y), (1, .int c), (2, .int u)]) (st2 := [.int c]) rfl ?_
  refine wk_callS (rest := []) C (c_MD_isClass l D HB h c) cs_MD_98 kc_MD_isClass ki_MD rfl rfl (Nat.le_of_ble_eq_true rfl) (Nat.le_of_ble_eq_true rfl) (Nat.le_of_ble_eq_true rfl) (Nat.le_of_ble_eq_true rfl) (Nat.le_of_ble_eq_true rfl) d_MD_profile_1 (fun v h2 hq => ?_) (fun _ _ z => nomatch z.1)
  obtain ⟨e1, e2⟩ := hq; cases e1; replace e2 := e2.symm; subst e2
  refine wk_br C d_MD_profile_4 (P := (if ¬ c < 0 ∧ c < 8 then (1 : Int32) else 0) = 0) (tgt := 15) (rest := []) rfl (by decide) (fun c1 => ?_) (fun c1 => ?_)
  ·
    replace c1 := bz_ c1
    refine wk_run C k_MD_profile_15 (pc2 := 16) (lv2 := [(0, .ref y), (1, .int c), (2, .int u)]) (st2 := [.int 1]) rfl ?_
    refine wk_goto C d_MD_profile_16 (tgt := 20) (by decide) ?_
    refine wk_run C k_MD_profile_20 (pc2 := 24) (lv2 := [(3, .int 1), (0, .ref y), (1, .int c), (2, .int u)]) (st2 := [.int 1, .int 1, .ref y]) rfl ?_
    refine wk_br C d_MD_profile_24 (P := ¬ 1 = 0) (tgt := 40) (rest := [.int 1, .ref y]) rfl (by decide) (fun c2 => ?_) (fun c2 => ?_)
    ·
      refine wk_run C k_MD_profile_40 (pc2 := 41) (lv2 := [(3, .int 1), (0, .ref y), (1, .int c), (2, .int u)]) (st2 := [.int 0, .int 1, .ref y]) rfl ?_
      refine wk_callV (cl := ("ProfileRightsModel", T_MD, 27)) (rest := []) C (c_MD_f1 l D HB h h0 y A (V) hM) cs_MD_88 kc_MD_fails ki_MD hM.ob rfl rfl rfl (Nat.le_of_ble_eq_true rfl) (Nat.le_of_ble_eq_true rfl) (Nat.le_of_ble_eq_true rfl) (Nat.le_of_ble_eq_true rfl) (Nat.le_of_ble_eq_true rfl) d_MD_profile_41 (fun v h hq => ?_) (fun _ _ z => nomatch z.1)
      obtain ⟨e1, hM⟩ := hq; cases e1
      refine wk_br C d_MD_profile_44 (P := 1 = 0) (tgt := 49) (rest := []) rfl (by decide) (fun c3 => ?_) (fun c3 => ?_)
      ·
        exact absurd c3 (by decide)
      ·
        refine wk_run C k_MD_profile_47 (pc2 := 48) (lv2 := [(3, .int 1), (0, .ref y), (1, .int c), (2, .int u)]) (st2 := [.int 0]) rfl ?_
        exact wk_iret C ⟨1, 0, vc (V) 0 1, by clear C hM hnm; grind [sp_profile], rfl, hM⟩ (by decide) (by decide) d_MD_profile_48
    ·
      exact absurd (by decide) c2
  ·
    replace c1 := bn_ c1
    refine wk_run C k_MD_profile_7 (pc2 := 9) (lv2 := [(0, .ref y), (1, .int c), (2, .int u)]) (st2 := [.int u, .ref y]) rfl ?_
    refine wk_callV (cl := ("ProfileRightsModel", T_MD, 27)) (rest := []) C (c_MD_isUser l D HB h h0 y A (V) u hM) cs_MD_92 kc_MD_isUser ki_MD hM.ob rfl rfl rfl (Nat.le_of_ble_eq_true rfl) (Nat.le_of_ble_eq_true rfl) (Nat.le_of_ble_eq_true rfl) (Nat.le_of_ble_eq_true rfl) (Nat.le_of_ble_eq_true rfl) d_MD_profile_9 (fun v h2 hq => ?_) (fun _ _ z => nomatch z.1)
    obtain ⟨e1, e2⟩ := hq; cases e1; replace e2 := e2.symm; subst e2
    show Wk _ _ _ _ _ _ _ _ _ _ _ _ _ _ _ _ _ _ _ (.int (if ¬ u < 1 ∧ u ≤ V 8 0 then (1 : Int32) else 0) :: _)
    refine wk_br C d_MD_profile_12 (P := ¬ (if ¬ u < 1 ∧ u ≤ V 8 0 then (1 : Int32) else 0) = 0) (tgt := 19) (rest := []) rfl (by decide) (fun c4 => ?_) (fun c4 => ?_)
    ·
      replace c4 := bn_ c4
      refine wk_run C k_MD_profile_19 (pc2 := 24) (lv2 := [(3, .int 0), (0, .ref y), (1, .int c), (2, .int u)]) (st2 := [.int 0, .int 0, .ref y]) rfl ?_
      refine wk_br C d_MD_profile_24 (P := ¬ 0 = 0) (tgt := 40) (rest := [.int 0, .ref y]) rfl (by decide) (fun c5 => ?_) (fun c5 => ?_)
      ·
        exact absurd c5 (by decide)
      ·
        refine wk_run C k_MD_profile_27 (pc2 := 28) (lv2 := [(3, .int 0), (0, .ref y), (1, .int c), (2, .int u)]) (st2 := [.ref y, .int 0, .ref y]) rfl ?_
        refine wk_get (v := .int (V 9 0)) C fd_MD_81 hM.ob rfl d_MD_profile_28 ?_
        refine wk_run C k_MD_profile_31 (pc2 := 33) (lv2 := [(3, .int 0), (0, .ref y), (1, .int c), (2, .int u)]) (st2 := [.int 60, .int (V 9 0), .int 0, .ref y]) rfl ?_
        refine wk_br C d_MD_profile_33 (P := ¬ (V 9 0) = 60) (tgt := 40) (rest := [.int 0, .ref y]) rfl (by decide) (fun c6 => ?_) (fun c6 => ?_)
        ·
          refine wk_run C k_MD_profile_40 (pc2 := 41) (lv2 := [(3, .int 0), (0, .ref y), (1, .int c), (2, .int u)]) (st2 := [.int 0, .int 0, .ref y]) rfl ?_
          refine wk_callV (cl := ("ProfileRightsModel", T_MD, 27)) (rest := []) C (c_MD_f0 l D HB h h0 y A (V) hM) cs_MD_88 kc_MD_fails ki_MD hM.ob rfl rfl rfl (Nat.le_of_ble_eq_true rfl) (Nat.le_of_ble_eq_true rfl) (Nat.le_of_ble_eq_true rfl) (Nat.le_of_ble_eq_true rfl) (Nat.le_of_ble_eq_true rfl) d_MD_profile_41 (fun v h hq => ?_) (fun _ _ z => nomatch z.1)
          obtain ⟨e1, hM⟩ := hq; cases e1
          refine wk_br C d_MD_profile_44 (P := 0 = 0) (tgt := 49) (rest := []) rfl (by decide) (fun c7 => ?_) (fun c7 => ?_)
          ·
            refine wk_run C k_MD_profile_49 (pc2 := 51) (lv2 := [(3, .int 0), (0, .ref y), (1, .int c), (2, .int u)]) (st2 := [.ref y, .ref y]) rfl ?_
            refine wk_get (v := .int (V 9 0)) C fd_MD_81 hM.ob rfl d_MD_profile_51 ?_
            refine wk_run C k_MD_profile_54 (pc2 := 56) (lv2 := [(3, .int 0), (0, .ref y), (1, .int c), (2, .int u)]) (st2 := [.int ((V 9 0) + 1), .ref y]) rfl ?_
            refine wm_put C hM 9 (by simp [sc_]) fd_MD_81 rfl d_MD_profile_56 (fun h (hM : mq D h0 h y A (vc (vc (V) 0 0) 9 ((V 9 0) + 1))) => ?_)
            refine wk_run C k_MD_profile_59 (pc2 := 60) (lv2 := [(3, .int 0), (0, .ref y), (1, .int c), (2, .int u)]) (st2 := [.ref y]) rfl ?_
            refine wk_get (v := .ref (A 11)) C fd_MD_32 hM.ob rfl d_MD_profile_60 ?_
            refine wk_run C k_MD_profile_63 (pc2 := 64) (lv2 := [(3, .int 0), (0, .ref y), (1, .int c), (2, .int u)]) (st2 := [.ref y, .ref (A 11)]) rfl ?_
            refine wk_get (v := .int (((V 9 0) + 1))) C fd_MD_81 hM.ob rfl d_MD_profile_64 ?_
            refine wk_run C k_MD_profile_67 (pc2 := 68) (lv2 := [(3, .int 0), (0, .ref y), (1, .int c), (2, .int u)]) (st2 := [.int c, .int (((V 9 0) + 1)), .ref (A 11)]) rfl ?_
            refine wm_st C hM 11 (j := (nu (V 9 0 + 1))) rfl (vi_k (ok_p hP c6 (by decide)).1 (by decide) (by decide)) rfl d_MD_profile_68 (fun h (hM : mq D h0 h y A (vs (vc (vc (V) 0 0) 9 ((V 9 0) + 1)) 11 (upd (V 11) (nu (V 9 0 + 1)) c))) => ?_)
            refine wk_run C k_MD_profile_69 (pc2 := 70) (lv2 := [(3, .int 0), (0, .ref y), (1, .int c), (2, .int u)]) (st2 := [.ref y]) rfl ?_
            refine wk_get (v := .int (((V 9 0) + 1))) C fd_MD_81 hM.ob rfl d_MD_profile_70 ?_
            exact wk_iret C ⟨0, (((V 9 0) + 1)), vs (vc (vc (V) 0 0) 9 ((V 9 0) + 1)) 11 (upd (V 11) (nu (V 9 0 + 1)) c), by clear C hM hnm; grind [sp_profile], rfl, hM⟩ (by decide) (by decide) d_MD_profile_73
          ·
            exact absurd (by decide) c7
        ·
          refine wk_run C k_MD_profile_36 (pc2 := 37) (lv2 := [(3, .int 0), (0, .ref y), (1, .int c), (2, .int u)]) (st2 := [.int 1, .int 0, .ref y]) rfl ?_
          refine wk_goto C d_MD_profile_37 (tgt := 41) (by decide) ?_
          refine wk_callV (cl := ("ProfileRightsModel", T_MD, 27)) (rest := []) C (c_MD_f2 l D HB h h0 y A (V) hM) cs_MD_88 kc_MD_fails ki_MD hM.ob rfl rfl rfl (Nat.le_of_ble_eq_true rfl) (Nat.le_of_ble_eq_true rfl) (Nat.le_of_ble_eq_true rfl) (Nat.le_of_ble_eq_true rfl) (Nat.le_of_ble_eq_true rfl) d_MD_profile_41 (fun v h hq => ?_) (fun _ _ z => nomatch z.1)
          obtain ⟨e1, hM⟩ := hq; cases e1
          refine wk_br C d_MD_profile_44 (P := 1 = 0) (tgt := 49) (rest := []) rfl (by decide) (fun c8 => ?_) (fun c8 => ?_)
          ·
            exact absurd c8 (by decide)
          ·
            refine wk_run C k_MD_profile_47 (pc2 := 48) (lv2 := [(3, .int 0), (0, .ref y), (1, .int c), (2, .int u)]) (st2 := [.int 0]) rfl ?_
            exact wk_iret C ⟨2, 0, vc (V) 0 2, by clear C hM hnm; grind [sp_profile], rfl, hM⟩ (by decide) (by decide) d_MD_profile_48
    ·
      replace c4 := bz_ (Classical.not_not.mp c4)
      refine wk_run C k_MD_profile_15 (pc2 := 16) (lv2 := [(0, .ref y), (1, .int c), (2, .int u)]) (st2 := [.int 1]) rfl ?_
      refine wk_goto C d_MD_profile_16 (tgt := 20) (by decide) ?_
      refine wk_run C k_MD_profile_20 (pc2 := 24) (lv2 := [(3, .int 1), (0, .ref y), (1, .int c), (2, .int u)]) (st2 := [.int 1, .int 1, .ref y]) rfl ?_
      refine wk_br C d_MD_profile_24 (P := ¬ 1 = 0) (tgt := 40) (rest := [.int 1, .ref y]) rfl (by decide) (fun c9 => ?_) (fun c9 => ?_)
      ·
        refine wk_run C k_MD_profile_40 (pc2 := 41) (lv2 := [(3, .int 1), (0, .ref y), (1, .int c), (2, .int u)]) (st2 := [.int 0, .int 1, .ref y]) rfl ?_
        refine wk_callV (cl := ("ProfileRightsModel", T_MD, 27)) (rest := []) C (c_MD_f1 l D HB h h0 y A (V) hM) cs_MD_88 kc_MD_fails ki_MD hM.ob rfl rfl rfl (Nat.le_of_ble_eq_true rfl) (Nat.le_of_ble_eq_true rfl) (Nat.le_of_ble_eq_true rfl) (Nat.le_of_ble_eq_true rfl) (Nat.le_of_ble_eq_true rfl) d_MD_profile_41 (fun v h hq => ?_) (fun _ _ z => nomatch z.1)
        obtain ⟨e1, hM⟩ := hq; cases e1
        refine wk_br C d_MD_profile_44 (P := 1 = 0) (tgt := 49) (rest := []) rfl (by decide) (fun c10 => ?_) (fun c10 => ?_)
        ·
          exact absurd c10 (by decide)
        ·
          refine wk_run C k_MD_profile_47 (pc2 := 48) (lv2 := [(3, .int 1), (0, .ref y), (1, .int c), (2, .int u)]) (st2 := [.int 0]) rfl ?_
          exact wk_iret C ⟨1, 0, vc (V) 0 1, by clear C hM hnm; grind [sp_profile], rfl, hM⟩ (by decide) (by decide) d_MD_profile_48
      ·
        exact absurd (by decide) c9
theorem k_MD_universal_0 : px_dec prog_9_method_21_code [.aload_n 0, .aload_n 0, .iload_n 1] 0 = true := by decide +kernel
theorem d_MD_universal_3 : decode prog_9_method_21_code 3 = .ok (.invokevirtual 101, 3) := by decide +kernel
theorem d_MD_universal_6 : decode prog_9_method_21_code 6 = .ok (.ifCond .eq 22, 3) := by decide +kernel
theorem k_MD_universal_28 : px_dec prog_9_method_21_code [.iconst 1] 28 = true := by decide +kernel
theorem d_MD_universal_29 : decode prog_9_method_21_code 29 = .ok (.goto 4, 3) := by decide +kernel
theorem k_MD_universal_33 : px_dec prog_9_method_21_code [.iconst 0] 33 = true := by decide +kernel
theorem d_MD_universal_34 : decode prog_9_method_21_code 34 = .ok (.invokevirtual 88, 3) := by decide +kernel
theorem d_MD_universal_37 : decode prog_9_method_21_code 37 = .ok (.ifCond .eq 5, 3) := by decide +kernel
theorem k_MD_universal_40 : px_dec prog_9_method_21_code [.iconst 0] 40 = true := by decide +kernel
theorem d_MD_universal_41 : decode prog_9_method_21_code 41 = .ok (.ireturn, 1) := by decide +kernel
theorem k_MD_universal_9 : px_dec prog_9_method_21_code [.iload_n 2] 9 = true := by decide +kernel
theorem d_MD_universal_10 : decode prog_9_method_21_code 10 = .ok (.ifCond .lt 18, 3) := by decide +kernel
theorem k_MD_universal_13 : px_dec prog_9_method_21_code [.iload_n 2, .iconst 4] 13 = true := by decide +kernel
theorem d_MD_universal_15 : decode prog_9_method_21_code 15 = .ok (.if_icmp .gt 13, 3) := by decide +kernel
theorem k_MD_universal_18 : px_dec prog_9_method_21_code [.iload_n 3] 18 = true := by decide +kernel
theorem d_MD_universal_19 : decode prog_9_method_21_code 19 = .ok (.ifCond .lt 9, 3) := by decide +kernel
theorem k_MD_universal_22 : px_dec prog_9_method_21_code [.iload_n 3, .bipush 7] 22 = true := by decide +kernel
theorem d_MD_universal_25 : decode prog_9_method_21_code 25 = .ok (.if_icmp .le 7, 3) := by decide +kernel
theorem k_MD_universal_32 : px_dec prog_9_method_21_code [.iconst 0, .iconst 0] 32 = true := by decide +kernel
theorem k_MD_universal_42 : px_dec prog_9_method_21_code [.bipush 8, .aload_n 0] 42 = true := by decide +kernel
theorem d_MD_universal_45 : decode prog_9_method_21_code 45 = .ok (.getfield 41, 3) := by decide +kernel
theorem k_MD_universal_48 : px_dec prog_9_method_21_code [.iload_n 1] 48 = true := by decide +kernel
theorem d_MD_universal_49 : decode prog_9_method_21_code 49 = .ok (.iaload, 1) := by decide +kernel
theorem k_MD_universal_50 : px_dec prog_9_method_21_code [.imul, .aload_n 0] 50 = true := by decide +kernel
theorem d_MD_universal_52 : decode prog_9_method_21_code 52 = .ok (.getfield 44, 3) := by decide +kernel
theorem k_MD_universal_55 : px_dec prog_9_method_21_code [.iload_n 1] 55 = true := by decide +kernel
theorem d_MD_universal_56 : decode prog_9_method_21_code 56 = .ok (.iaload, 1) := by decide +kernel
theorem k_MD_universal_57 : px_dec prog_9_method_21_code [.iadd, .istore 4, .aload_n 0] 57 = true := by decide +kernel
theorem d_MD_universal_61 : decode prog_9_method_21_code 61 = .ok (.getfield 41, 3) := by decide +kernel
theorem k_MD_universal_64 : px_dec prog_9_method_21_code [.iload_n 1, .iload_n 2] 64 = true := by decide +kernel
theorem d_MD_universal_66 : decode prog_9_method_21_code 66 = .ok (.iastore, 1) := by decide +kernel
theorem k_MD_universal_67 : px_dec prog_9_method_21_code [.aload_n 0] 67 = true := by decide +kernel
theorem d_MD_universal_68 : decode prog_9_method_21_code 68 = .ok (.getfield 44, 3) := by decide +kernel
theorem k_MD_universal_71 : px_dec prog_9_method_21_code [.iload_n 1, .iload_n 3] 71 = true := by decide +kernel
theorem d_MD_universal_73 : decode prog_9_method_21_code 73 = .ok (.iastore, 1) := by decide +kernel
theorem k_MD_universal_74 : px_dec prog_9_method_21_code [.iload 4] 74 = true := by decide +kernel
theorem d_MD_universal_76 : decode prog_9_method_21_code 76 = .ok (.ireturn, 1) := by decide +kernel
set_option maxRecDepth 100000 in
set_option maxHeartbeats 4000000 in
theorem c_MD_universal (l : Launch) (D : va_G) (HB : Heap) (h : hp_T) (h0 : hp_T) (y : Nat) (A : Nat → Nat) (V : vT) (p : Int32) (a : Int32) (m : Int32) (hP : ok_ (V 9 0) 60) (hM : mq D h0 h y A V) : ct_M l y_MD_universal (.code y_MD_universal prog_9_method_21_code 5 (Option.some Jvm.ClassFile.FieldType.int)) ({ frames := 1, cells := 0, slots := 0, locals := 30 }) D HB [.ref y, .int p, .int a, .int m] h (fun o h2 => ∃ (cd r : Int32) (V2 : vT), sp_universal V p a m = (cd, r, V2) ∧ o = .inl (some (.int r)) ∧ mq D h0 h2 y A V2) := by
  refine ct_of (by decide) (Nat.le_of_ble_eq_true rfl) rfl ?_
  intro p_ e_ s_ m_ r_ b_ t_ c_ C hnm
  refine wk_run C k_MD_universal_0 (pc2 := 3) (lv2 := [(0, .ref y), (1, .int p), (2, .int a), (3, .int m)]) (st2 := [.int p, .ref y, .ref y]) rfl ?_
  refine wk_callV (cl := ("ProfileRightsModel", T_MD, 27)) (rest := [.ref y]) C (c_MD_isProfile l D HB h h0 y A (V) p hM) cs_MD_101 kc_MD_isProfile ki_MD hM.ob rfl rfl rfl (Nat.le_of_ble_eq_true rfl) (Nat.le_of_ble_eq_true rfl) (Nat.le_of_ble_eq_true rfl) (Nat.le_of_ble_eq_true rfl) (Nat.le_of_ble_eq_true rfl) d_MD_universal_3 (fun v h2 hq => ?_) (fun _ _ z => nomatch z.1)
  obtain ⟨e1, e2⟩ := hq; cases e1; replace e2 := e2.symm; subst e2
  show Wk _ _ _ _ _ _ _ _ _ _ _ _ _ _ _ _ _ _ _ (.int (if ¬ p < 1 ∧ p ≤ V 9 0 then (1 : Int32) else 0) :: _)
  refine wk_br C d_MD_universal_6 (P := (if ¬ p < 1 ∧ p ≤ V 9 0 then (1 : Int32) else 0) = 0) (tgt := 28) (rest := [.ref y]) rfl (by decide) (fun c1 => ?_) (fun c1 => ?_)
  ·
    replace c1 := bz_ c1
    refine wk_run C k_MD_universal_28 (pc2 := 29) (lv2 := [(0, .ref y), (1, .int p), (2, .int a), (3, .int m)]) (st2 := [.int 1, .ref y]) rfl ?_
    refine wk_goto C d_MD_universal_29 (tgt := 33) (by decide) ?_
    refine wk_run C k_MD_universal_33 (pc2 := 34) (lv2 := [(0, .ref y), (1, .int p), (2, .int a), (3, .int m)]) (st2 := [.int 0, .int 1, .ref y]) rfl ?_
    refine wk_callV (cl := ("ProfileRightsModel", T_MD, 27)) (rest := []) C (c_MD_f1 l D HB h h0 y A (V) hM) cs_MD_88 kc_MD_fails ki_MD hM.ob rfl rfl rfl (Nat.le_of_ble_eq_true rfl) (Nat.le_of_ble_eq_true rfl) (Nat.le_of_ble_eq_true rfl) (Nat.le_of_ble_eq_true rfl) (Nat.le_of_ble_eq_true rfl) d_MD_universal_34 (fun v h hq => ?_) (fun _ _ z => nomatch z.1)
    obtain ⟨e1, hM⟩ := hq; cases e1
    refine wk_br C d_MD_universal_37 (P := 1 = 0) (tgt := 42) (rest := []) rfl (by decide) (fun c2 => ?_) (fun c2 => ?_)
    ·
      exact absurd c2 (by decide)
    ·
      refine wk_run C k_MD_universal_40 (pc2 := 41) (lv2 := [(0, .ref y), (1, .int p), (2, .int a), (3, .int m)]) (st2 := [.int 0]) rfl ?_
      exact wk_iret C ⟨1, 0, vc (V) 0 1, by clear C hM hnm; grind [sp_universal], rfl, hM⟩ (by decide) (by decide) d_MD_universal_41
  ·
    replace c1 := bn_ c1
    refine wk_run C k_MD_universal_9 (pc2 := 10) (lv2 := [(0, .ref y), (1, .int p), (2, .int a), (3, .int m)]) (st2 := [.int a, .ref y]) rfl ?_
    refine wk_br C d_MD_universal_10 (P := a < 0) (tgt := 28) (rest := [.ref y]) rfl (by decide) (fun c3 => ?_) (fun c3 => ?_)
    ·
      refine wk_run C k_MD_universal_28 (pc2 := 29) (lv2 := [(0, .ref y), (1, .int p), (2, .int a), (3, .int m)]) (st2 := [.int 1, .ref y]) rfl ?_
      refine wk_goto C d_MD_universal_29 (tgt := 33) (by decide) ?_
      refine wk_run C k_MD_universal_33 (pc2 := 34) (lv2 := [(0, .ref y), (1, .int p), (2, .int a), (3, .int m)]) (st2 := [.int 0, .int 1, .ref y]) rfl ?_
      refine wk_callV (cl := ("ProfileRightsModel", T_MD, 27)) (rest := []) C (c_MD_f1 l D HB h h0 y A (V) hM) cs_MD_88 kc_MD_fails ki_MD hM.ob rfl rfl rfl (Nat.le_of_ble_eq_true rfl) (Nat.le_of_ble_eq_true rfl) (Nat.le_of_ble_eq_true rfl) (Nat.le_of_ble_eq_true rfl) (Nat.le_of_ble_eq_true rfl) d_MD_universal_34 (fun v h hq => ?_) (fun _ _ z => nomatch z.1)
      obtain ⟨e1, hM⟩ := hq; cases e1
      refine wk_br C d_MD_universal_37 (P := 1 = 0) (tgt := 42) (rest := []) rfl (by decide) (fun c4 => ?_) (fun c4 => ?_)
      ·
        exact absurd c4 (by decide)
      ·
        refine wk_run C k_MD_universal_40 (pc2 := 41) (lv2 := [(0, .ref y), (1, .int p), (2, .int a), (3, .int m)]) (st2 := [.int 0]) rfl ?_
        exact wk_iret C ⟨1, 0, vc (V) 0 1, by clear C hM hnm; grind [sp_universal], rfl, hM⟩ (by decide) (by decide) d_MD_universal_41
    ·
      refine wk_run C k_MD_universal_13 (pc2 := 15) (lv2 := [(0, .ref y), (1, .int p), (2, .int a), (3, .int m)]) (st2 := [.int 4, .int a, .ref y]) rfl ?_
      refine wk_br C d_MD_universal_15 (P := 4 < a) (tgt := 28) (rest := [.ref y]) rfl (by decide) (fun c5 => ?_) (fun c5 => ?_)
      ·
        refine wk_run C k_MD_universal_28 (pc2 := 29) (lv2 := [(0, .ref y), (1, .int p), (2, .int a), (3, .int m)]) (st2 := [.int 1, .ref y]) rfl ?_
        refine wk_goto C d_MD_universal_29 (tgt := 33) (by decide) ?_
        refine wk_run C k_MD_universal_33 (pc2 := 34) (lv2 := [(0, .ref y), (1, .int p), (2, .int a), (3, .int m)]) (st2 := [.int 0, .int 1, .ref y]) rfl ?_
        refine wk_callV (cl := ("ProfileRightsModel", T_MD, 27)) (rest := []) C (c_MD_f1 l D HB h h0 y A (V) hM) cs_MD_88 kc_MD_fails ki_MD hM.ob rfl rfl rfl (Nat.le_of_ble_eq_true rfl) (Nat.le_of_ble_eq_true rfl) (Nat.le_of_ble_eq_true rfl) (Nat.le_of_ble_eq_true rfl) (Nat.le_of_ble_eq_true rfl) d_MD_universal_34 (fun v h hq => ?_) (fun _ _ z => nomatch z.1)
        obtain ⟨e1, hM⟩ := hq; cases e1
        refine wk_br C d_MD_universal_37 (P := 1 = 0) (tgt := 42) (rest := []) rfl (by decide) (fun c6 => ?_) (fun c6 => ?_)
        ·
          exact absurd c6 (by decide)
        ·
          refine wk_run C k_MD_universal_40 (pc2 := 41) (lv2 := [(0, .ref y), (1, .int p), (2, .int a), (3, .int m)]) (st2 := [.int 0]) rfl ?_
          exact wk_iret C ⟨1, 0, vc (V) 0 1, by clear C hM hnm; grind [sp_universal], rfl, hM⟩ (by decide) (by decide) d_MD_universal_41
      ·
        refine wk_run C k_MD_universal_18 (pc2 := 19) (lv2 := [(0, .ref y), (1, .int p), (2, .int a), (3, .int m)]) (st2 := [.int m, .ref y]) rfl ?_
        refine wk_br C d_MD_universal_19 (P := m < 0) (tgt := 28) (rest := [.ref y]) rfl (by decide) (fun c7 => ?_) (fun c7 => ?_)
        ·
          refine wk_run C k_MD_universal_28 (pc2 := 29) (lv2 := [(0, .ref y), (1, .int p), (2, .int a), (3, .int m)]) (st2 := [.int 1, .ref y]) rfl ?_
          refine wk_goto C d_MD_universal_29 (tgt := 33) (by decide) ?_
          refine wk_run C k_MD_universal_33 (pc2 := 34) (lv2 := [(0, .ref y), (1, .int p), (2, .int a), (3, .int m)]) (st2 := [.int 0, .int 1, .ref y]) rfl ?_
          refine wk_callV (cl := ("ProfileRightsModel", T_MD, 27)) (rest := []) C (c_MD_f1 l D HB h h0 y A (V) hM) cs_MD_88 kc_MD_fails ki_MD hM.ob rfl rfl rfl (Nat.le_of_ble_eq_true rfl) (Nat.le_of_ble_eq_true rfl) (Nat.le_of_ble_eq_true rfl) (Nat.le_of_ble_eq_true rfl) (Nat.le_of_ble_eq_true rfl) d_MD_universal_34 (fun v h hq => ?_) (fun _ _ z => nomatch z.1)
          obtain ⟨e1, hM⟩ := hq; cases e1
          refine wk_br C d_MD_universal_37 (P := 1 = 0) (tgt := 42) (rest := []) rfl (by decide) (fun c8 => ?_) (fun c8 => ?_)
          ·
            exact absurd c8 (by decide)
          ·
            refine wk_run C k_MD_universal_40 (pc2 := 41) (lv2 := [(0, .ref y), (1, .int p), (2, .int a), (3, .int m)]) (st2 := [.int 0]) rfl ?_
            exact wk_iret C ⟨1, 0, vc (V) 0 1, by clear C hM hnm; grind [sp_universal], rfl, hM⟩ (by decide) (by decide) d_MD_universal_41
        ·
          refine wk_run C k_MD_universal_22 (pc2 := 25) (lv2 := [(0, .ref y), (1, .int p), (2, .int a), (3, .int m)]) (st2 := [.int 7, .int m, .ref y]) rfl ?_
          refine wk_br C d_MD_universal_25 (P := m ≤ 7) (tgt := 32) (rest := [.ref y]) rfl (by decide) (fun c9 => ?_) (fun c9 => ?_)
          ·
            refine wk_run C k_MD_universal_32 (pc2 := 34) (lv2 := [(0, .ref y), (1, .int p), (2, .int a), (3, .int m)]) (st2 := [.int 0, .int 0, .ref y]) rfl ?_
            refine wk_callV (cl := ("ProfileRightsModel", T_MD, 27)) (rest := []) C (c_MD_f0 l D HB h h0 y A (V) hM) cs_MD_88 kc_MD_fails ki_MD hM.ob rfl rfl rfl (Nat.le_of_ble_eq_true rfl) (Nat.le_of_ble_eq_true rfl) (Nat.le_of_ble_eq_true rfl) (Nat.le_of_ble_eq_true rfl) (Nat.le_of_ble_eq_true rfl) d_MD_universal_34 (fun v h hq => ?_) (fun _ _ z => nomatch z.1)
            obtain ⟨e1, hM⟩ := hq; cases e1
            refine wk_br C d_MD_universal_37 (P := 0 = 0) (tgt := 42) (rest := []) rfl (by decide) (fun c10 => ?_) (fun c10 => ?_)
            ·
              refine wk_run C k_MD_universal_42 (pc2 := 45) (lv2 := [(0, .ref y), (1, .int p), (2, .int a), (3, .int m)]) (st2 := [.ref y, .int 8]) rfl ?_
              refine wk_get (v := .ref (A 14)) C fd_MD_41 hM.ob rfl d_MD_universal_45 ?_
              refine wk_run C k_MD_universal_48 (pc2 := 49) (lv2 := [(0, .ref y), (1, .int p), (2, .int a), (3, .int m)]) (st2 := [.int p, .ref (A 14), .int 8]) rfl ?_
              refine wm_ld C hM 14 (j := nu p) rfl (vi_ c1.1 c1.2 hP (by decide) (by decide)) rfl d_MD_universal_49 ?_
              show Wk _ _ _ _ _ _ _ _ _ _ _ _ _ _ _ _ _ _ _ (.int (V 14 (nu p)) :: _)
              refine wk_run C k_MD_universal_50 (pc2 := 52) (lv2 := [(0, .ref y), (1, .int p), (2, .int a), (3, .int m)]) (st2 := [.ref y, .int (8 * (V 14 (nu p)))]) rfl ?_
              refine wk_get (v := .ref (A 15)) C fd_MD_44 hM.ob rfl d_MD_universal_52 ?_
              refine wk_run C k_MD_universal_55 (pc2 := 56) (lv2 := [(0, .ref y), (1, .int p), (2, .int a), (3, .int m)]) (st2 := [.int p, .ref (A 15), .int (8 * (V 14 (nu p)))]) rfl ?_
              refine wm_ld C hM 15 (j := nu p) rfl (vi_ c1.1 c1.2 hP (by decide) (by decide)) rfl d_MD_universal_56 ?_
              show Wk _ _ _ _ _ _ _ _ _ _ _ _ _ _ _ _ _ _ _ (.int (V 15 (nu p)) :: _)
              refine wk_run C k_MD_universal_57 (pc2 := 61) (lv2 := [(4, .int ((8 * (V 14 (nu p))) + (V 15 (nu p)))), (0, .ref y), (1, .int p), (2, .int a), (3, .int m)]) (st2 := [.ref y]) rfl ?_
              refine wk_get (v := .ref (A 14)) C fd_MD_41 hM.ob rfl d_MD_universal_61 ?_
              refine wk_run C k_MD_universal_64 (pc2 := 66) (lv2 := [(4, .int ((8 * (V 14 (nu p))) + (V 15 (nu p)))), (0, .ref y), (1, .int p), (2, .int a), (3, .int m)]) (st2 := [.int a, .int p, .ref (A 14)]) rfl ?_
              refine wm_st C hM 14 (j := (nu p)) rfl (vi_ c1.1 c1.2 hP (by decide) (by decide)) rfl d_MD_universal_66 (fun h (hM : mq D h0 h y A (vs (vc (V) 0 0) 14 (upd (V 14) (nu p) a))) => ?_)
              refine wk_run C k_MD_universal_67 (pc2 := 68) (lv2 := [(4, .int ((8 * (V 14 (nu p))) + (V 15 (nu p)))), (0, .ref y), (1, .int p), (2, .int a), (3, .int m)]) (st2 := [.ref y]) rfl ?_
              refine wk_get (v := .ref (A 15)) C fd_MD_44 hM.ob rfl d_MD_universal_68 ?_
              refine wk_run C k_MD_universal_71 (pc2 := 73) (lv2 := [(4, .int ((8 * (V 14 (nu p))) + (V 15 (nu p)))), (0, .ref y), (1, .int p), (2, .int a), (3, .int m)]) (st2 := [.int m, .int p, .ref (A 15)]) rfl ?_
              refine wm_st C hM 15 (j := (nu p)) rfl (vi_ c1.1 c1.2 hP (by decide) (by decide)) rfl d_MD_universal_73 (fun h (hM : mq D h0 h y A (vs (vs (vc (V) 0 0) 14 (upd (V 14) (nu p) a)) 15 (upd (V 15) (nu p) m))) => ?_)
              refine wk_run C k_MD_universal_74 (pc2 := 76) (lv2 := [(4, .int ((8 * (V 14 (nu p))) + (V 15 (nu p)))), (0, .ref y), (1, .int p), (2, .int a), (3, .int m)]) (st2 := [.int ((8 * (V 14 (nu p))) + (V 15 (nu p)))]) rfl ?_
              exact wk_iret C ⟨0, ((8 * (V 14 (nu p))) + (V 15 (nu p))), vs (vs (vc (V) 0 0) 14 (upd (V 14) (nu p) a)) 15 (upd (V 15) (nu p) m), by clear C hM hnm; grind [sp_universal], rfl, hM⟩ (by decide) (by decide) d_MD_universal_76
            ·
              exact absurd (by decide) c10
          ·
            refine wk_run C k_MD_universal_28 (pc2 := 29) (lv2 := [(0, .ref y), (1, .int p), (2, .int a), (3, .int m)]) (st2 := [.int 1, .ref y]) rfl ?_
            refine wk_goto C d_MD_universal_29 (tgt := 33) (by decide) ?_
            refine wk_run C k_MD_universal_33 (pc2 := 34) (lv2 := [(0, .ref y), (1, .int p), (2, .int a), (3, .int m)]) (st2 := [.int 0, .int 1, .ref y]) rfl ?_
            refine wk_callV (cl := ("ProfileRightsModel", T_MD, 27)) (rest := []) C (c_MD_f1 l D HB h h0 y A (V) hM) cs_MD_88 kc_MD_fails ki_MD hM.ob rfl rfl rfl (Nat.le_of_ble_eq_true rfl) (Nat.le_of_ble_eq_true rfl) (Nat.le_of_ble_eq_true rfl) (Nat.le_of_ble_eq_true rfl) (Nat.le_of_ble_eq_true rfl) d_MD_universal_34 (fun v h hq => ?_) (fun _ _ z => nomatch z.1)
            obtain ⟨e1, hM⟩ := hq; cases e1
            refine wk_br C d_MD_universal_37 (P := 1 = 0) (tgt := 42) (rest := []) rfl (by decide) (fun c11 => ?_) (fun c11 => ?_)
            ·
              exact absurd c11 (by decide)
            ·
              refine wk_run C k_MD_universal_40 (pc2 := 41) (lv2 := [(0, .ref y), (1, .int p), (2, .int a), (3, .int m)]) (st2 := [.int 0]) rfl ?_
              exact wk_iret C ⟨1, 0, vc (V) 0 1, by clear C hM hnm; grind [sp_universal], rfl, hM⟩ (by decide) (by decide) d_MD_universal_41
theorem k_MD_matched_0 : px_dec prog_9_method_37_code [.aload_n 0, .iconst 0] 0 = true := by decide +kernel
theorem d_MD_matched_2 : decode prog_9_method_37_code 2 = .ok (.putfield 71, 3) := by decide +kernel
theorem k_MD_matched_5 : px_dec prog_9_method_37_code [.aload_n 0] 5 = true := by decide +kernel
theorem d_MD_matched_6 : decode prog_9_method_37_code 6 = .ok (.getfield 140, 3) := by decide +kernel
theorem d_MD_matched_9 : decode prog_9_method_37_code 9 = .ok (.ireturn, 1) := by decide +kernel
set_option maxRecDepth 100000 in
set_option maxHeartbeats 4000000 in
theorem c_MD_matched (l : Launch) (D : va_G) (HB : Heap) (h : hp_T) (h0 : hp_T) (y : Nat) (A : Nat → Nat) (V : vT)  (hM : mq D h0 h y A V) : ct_M l y_MD_matched (.code y_MD_matched prog_9_method_37_code 1 (Option.some Jvm.ClassFile.FieldType.int)) ({ frames := 0, cells := 0, slots := 0, locals := 0 }) D HB [.ref y] h (fun o h2 => ∃ (cd r : Int32) (V2 : vT), sp_matched V  = (cd, r, V2) ∧ o = .inl (some (.int r)) ∧ mq D h0 h2 y A V2) := by
  refine ct_of (by decide) (Nat.le_of_ble_eq_true rfl) rfl ?_
  intro p_ e_ s_ m_ r_ b_ t_ c_ C hnm
  refine wk_run C k_MD_matched_0 (pc2 := 2) (lv2 := [(0, .ref y)]) (st2 := [.int 0, .ref y]) rfl ?_
  refine wm_put C hM 0 (by simp [sc_]) fd_MD_71 rfl d_MD_matched_2 (fun h (hM : mq D h0 h y A (vc (V) 0 0)) => ?_)
  refine wk_run C k_MD_matched_5 (pc2 := 6) (lv2 := [(0, .ref y)]) (st2 := [.ref y]) rfl ?_
  refine wk_get (v := .int (V 23 0)) C fd_MD_140 hM.ob rfl d_MD_matched_6 ?_
  exact wk_iret C ⟨0, (V 23 0), vc (V) 0 0, rfl, rfl, hM⟩ (by decide) (by decide) d_MD_matched_9
theorem k_MD_ask_0 : px_dec prog_9_method_27_code [.aload_n 0, .iconst 0] 0 = true := by decide +kernel
theorem d_MD_ask_2 : decode prog_9_method_27_code 2 = .ok (.putfield 71, 3) := by decide +kernel
theorem k_MD_ask_5 : px_dec prog_9_method_27_code [.iload_n 1] 5 = true := by decide +kernel
theorem d_MD_ask_6 : decode prog_9_method_27_code 6 = .ok (.invokestatic 104, 3) := by decide +kernel
theorem d_MD_ask_9 : decode prog_9_method_27_code 9 = .ok (.ifCond .ne 11, 3) := by decide +kernel
theorem k_MD_ask_20 : px_dec prog_9_method_27_code [.aload_n 0] 20 = true := by decide +kernel
theorem d_MD_ask_21 : decode prog_9_method_27_code 21 = .ok (.getfield 115, 3) := by decide +kernel
theorem k_MD_ask_24 : px_dec prog_9_method_27_code [.bipush 20] 24 = true := by decide +kernel
theorem d_MD_ask_26 : decode prog_9_method_27_code 26 = .ok (.if_icmp .ge 23, 3) := by decide +kernel
theorem k_MD_ask_49 : px_dec prog_9_method_27_code [.aload_n 0] 49 = true := by decide +kernel
theorem d_MD_ask_50 : decode prog_9_method_27_code 50 = .ok (.getfield 115, 3) := by decide +kernel
theorem d_MD_ask_53 : decode prog_9_method_27_code 53 = .ok (.ireturn, 1) := by decide +kernel
theorem k_MD_ask_29 : px_dec prog_9_method_27_code [.aload_n 0] 29 = true := by decide +kernel
theorem d_MD_ask_30 : decode prog_9_method_27_code 30 = .ok (.getfield 62, 3) := by decide +kernel
theorem k_MD_ask_33 : px_dec prog_9_method_27_code [.aload_n 0] 33 = true := by decide +kernel
theorem d_MD_ask_34 : decode prog_9_method_27_code 34 = .ok (.getfield 115, 3) := by decide +kernel
theorem k_MD_ask_37 : px_dec prog_9_method_27_code [.iload_n 1] 37 = true := by decide +kernel
theorem d_MD_ask_38 : decode prog_9_method_27_code 38 = .ok (.iastore, 1) := by decide +kernel
theorem k_MD_ask_39 : px_dec prog_9_method_27_code [.aload_n 0, .dup] 39 = true := by decide +kernel
theorem d_MD_ask_41 : decode prog_9_method_27_code 41 = .ok (.getfield 115, 3) := by decide +kernel
theorem k_MD_ask_44 : px_dec prog_9_method_27_code [.iconst 1, .iadd] 44 = true := by decide +kernel
theorem d_MD_ask_46 : decode prog_9_method_27_code 46 = .ok (.putfield 115, 3) := by decide +kernel
theorem k_MD_ask_12 : px_dec prog_9_method_27_code [.aload_n 0, .iconst 0] 12 = true := by decide +kernel
theorem d_MD_ask_14 : decode prog_9_method_27_code 14 = .ok (.putfield 115, 3) := by decide +kernel
theorem d_MD_ask_17 : decode prog_9_method_27_code 17 = .ok (.goto 32, 3) := by decide +kernel
set_option maxRecDepth 100000 in
set_option maxHeartbeats 4000000 in
theorem c_MD_ask (l : Launch) (D : va_G) (HB : Heap) (h : hp_T) (h0 : hp_T) (y : Nat) (A : Nat → Nat) (V : vT) (c : Int32) (hA : ok_ (V 22 0) 20) (hM : mq D h0 h y A V) : ct_M l y_MD_ask (.code y_MD_ask prog_9_method_27_code 2 (Option.some Jvm.ClassFile.FieldType.int)) ({ frames := 1, cells := 0, slots := 0, locals := 30 }) D HB [.ref y, .int c] h (fun o h2 => ∃ (cd r : Int32) (V2 : vT), sp_ask V c = (cd, r, V2) ∧ o = .inl (some (.int r)) ∧ mq D h0 h2 y A V2) := by
  refine ct_of (by decide) (Nat.le_of_ble_eq_true rfl) rfl ?_
  intro p_ e_ s_ m_ r_ b_ t_ c_ C hnm
  refine wk_run C k_MD_ask_0 (pc2 := 2) (lv2 := [(0, .ref y), (1, .int c)]) (st2 := [.int 0, .ref y]) rfl ?_
  refine wm_put C hM 0 (by simp [sc_]) fd_MD_71 rfl d_MD_ask_2 (fun h (hM : mq D h0 h y A (vc (V) 0 0)) => ?_)
  refine wk_run C k_MD_ask_5 (pc2 := 6) (lv2 := [(0, .ref y), (1, .int c)]) (st2 := [.int c]) rfl ?_
  refine wk_callS (rest := []) C (c_MD_isSign l D HB h c) cs_MD_104 kc_MD_isSign ki_MD rfl rfl (Nat.le_of_ble_eq_true rfl) (Nat.le_of_ble_eq_true rfl) (Nat.le_of_ble_eq_true rfl) (Nat.le_of_ble_eq_true rfl) (Nat.le_of_ble_eq_true rfl) d_MD_ask_6 (fun v h2 hq => ?_) (fun _ _ z => nomatch z.1)
  obtain ⟨e1, e2⟩ := hq; cases e1; replace e2 := e2.symm; subst e2
  refine wk_br C d_MD_ask_9 (P := ¬ (if ¬ c < 33 ∧ ¬ 126 < c then (1 : Int32) else 0) = 0) (tgt := 20) (rest := []) rfl (by decide) (fun c1 => ?_) (fun c1 => ?_)
  ·
    replace c1 := bn_ c1
    refine wk_run C k_MD_ask_20 (pc2 := 21) (lv2 := [(0, .ref y), (1, .int c)]) (st2 := [.ref y]) rfl ?_
    refine wk_get (v := .int (V 22 0)) C fd_MD_115 hM.ob rfl d_MD_ask_21 ?_
    refine wk_run C k_MD_ask_24 (pc2 := 26) (lv2 := [(0, .ref y), (1, .int c)]) (st2 := [.int 20, .int (V 22 0)]) rfl ?_
    refine wk_br C d_MD_ask_26 (P := 20 ≤ (V 22 0)) (tgt := 49) (rest := []) rfl (by decide) (fun c2 => ?_) (fun c2 => ?_)
    ·
      refine wk_run C k_MD_ask_49 (pc2 := 50) (lv2 := [(0, .ref y), (1, .int c)]) (st2 := [.ref y]) rfl ?_
      refine wk_get (v := .int (V 22 0)) C fd_MD_115 hM.ob rfl d_MD_ask_50 ?_
      exact wk_iret C ⟨0, (V 22 0), vc (V) 0 0, by clear C hM hnm; grind [sp_ask], rfl, hM⟩ (by decide) (by decide) d_MD_ask_53
    ·
      refine wk_run C k_MD_ask_29 (pc2 := 30) (lv2 := [(0, .ref y), (1, .int c)]) (st2 := [.ref y]) rfl ?_
      refine wk_get (v := .ref (A 21)) C fd_MD_62 hM.ob rfl d_MD_ask_30 ?_
      refine wk_run C k_MD_ask_33 (pc2 := 34) (lv2 := [(0, .ref y), (1, .int c)]) (st2 := [.ref y, .ref (A 21)]) rfl ?_
      refine wk_get (v := .int (V 22 0)) C fd_MD_115 hM.ob rfl d_MD_ask_34 ?_
      refine wk_run C k_MD_ask_37 (pc2 := 38) (lv2 := [(0, .ref y), (1, .int c)]) (st2 := [.int c, .int (V 22 0), .ref (A 21)]) rfl ?_
      refine wm_st C hM 21 (j := (nu (V 22 0))) rfl (vi_k (ok_lt hA (Classical.byContradiction (fun z => c2 (by grind)))) (by decide) (by decide)) rfl d_MD_ask_38 (fun h (hM : mq D h0 h y A (vs (vc (V) 0 0) 21 (upd (V 21) (nu (V 22 0)) c))) => ?_)
      refine wk_run C k_MD_ask_39 (pc2 := 41) (lv2 := [(0, .ref y), (1, .int c)]) (st2 := [.ref y, .ref y]) rfl ?_
      refine wk_get (v := .int (V 22 0)) C fd_MD_115 hM.ob rfl d_MD_ask_41 ?_
      refine wk_run C k_MD_ask_44 (pc2 := 46) (lv2 := [(0, .ref y), (1, .int c)]) (st2 := [.int ((V 22 0) + 1), .ref y]) rfl ?_
      refine wm_put C hM 22 (by simp [sc_]) fd_MD_115 rfl d_MD_ask_46 (fun h (hM : mq D h0 h y A (vc (vs (vc (V) 0 0) 21 (upd (V 21) (nu (V 22 0)) c)) 22 ((V 22 0) + 1))) => ?_)
      refine wk_run C k_MD_ask_49 (pc2 := 50) (lv2 := [(0, .ref y), (1, .int c)]) (st2 := [.ref y]) rfl ?_
      refine wk_get (v := .int (((V 22 0) + 1))) C fd_MD_115 hM.ob rfl d_MD_ask_50 ?_
      exact wk_iret C ⟨0, (((V 22 0) + 1)), vc (vs (vc (V) 0 0) 21 (upd (V 21) (nu (V 22 0)) c)) 22 ((V 22 0) + 1), by clear C hM hnm; grind [sp_ask], rfl, hM⟩ (by decide) (by decide) d_MD_ask_53
  ·
    replace c1 := bz_ (Classical.not_not.mp c1)
    refine wk_run C k_MD_ask_12 (pc2 := 14) (lv2 := [(0, .ref y), (1, .int c)]) (st2 := [.int 0, .ref y]) rfl ?_
    refine wm_put C hM 22 (by simp [sc_]) fd_MD_115 rfl d_MD_ask_14 (fun h (hM : mq D h0 h y A (vc (vc (V) 0 0) 22 0)) => ?_)
    refine wk_goto C d_MD_ask_17 (tgt := 49) (by decide) ?_
    refine wk_run C k_MD_ask_49 (pc2 := 50) (lv2 := [(0, .ref y), (1, .int c)]) (st2 := [.ref y]) rfl ?_
    refine wk_get (v := .int (0)) C fd_MD_115 hM.ob rfl d_MD_ask_50 ?_
    exact wk_iret C ⟨0, (0), vc (vc (V) 0 0) 22 0, by clear C hM hnm; grind [sp_ask], rfl, hM⟩ (by decide) (by decide) d_MD_ask_53
end
section
theorem ok_ne {x : Int32} (h : ok_ x 20) (h2 : ¬ x = 20) : ok_ x 19 := by
  refine ⟨h.1, ?_⟩
  have : ¬ nu x = 20 := fun z => h2 (by rw [h.1, z]; rfl)
  have := h.2
  omega
theorem ok_lo {x y : Int32} {n : Nat} (h1 : ¬ x < 0) (h2 : x < y) (hy : ok_ y (n + 1)) (hn : n + 1 < 2 ^ 31) : ok_ x n := by
  obtain ⟨k, hk, rfl⟩ := nI_of h1
  rw [hy.1, nI_ltI hk (by have := hy.2; omega)] at h2
  have := hy.2
  exact ok_nI (by omega) (by omega)
theorem ok_le {x : Int32} {n : Nat} {y : Int32} (h1 : ¬ x < 0) (h2 : x ≤ y) (hy : y = nI n) (hn : n < 2 ^ 31) : ok_ x n := by
  obtain ⟨k, hk, rfl⟩ := nI_of h1
  subst hy
  rw [nI_leI hk (by omega)] at h2
  exact ok_nI (by omega) (by omega)
theorem nx0_ {a : Int32} {k m N : Nat} (ha : ok_ a m) (hN : k * m < N) (hN2 : N < 2 ^ 31) : vp_in (nI k * a) N ∧ nu (nI k * a) = k * nu a := by
  have := nx_ (k := k) (b := nI 0) (n := 0) ha (ok_nI (Nat.le_refl 0) (by decide)) (by omega : k * m + 0 < N) hN2
  rw [show nI k * a + nI 0 = nI k * a by rw [show (nI 0) = (0 : Int32) from rfl]; exact Int32.add_zero _, nu_nI (by decide : 0 < 2 ^ 31), Nat.add_zero] at this
  exact this

theorem k_MD_revoke_0 : px_dec prog_9_method_14_code [.aload_n 0, .aload_n 0, .iload_n 1] 0 = true := by decide +kernel
theorem d_MD_revoke_3 : decode prog_9_method_14_code 3 = .ok (.invokevirtual 92, 3) := by decide +kernel
theorem d_MD_revoke_6 : decode prog_9_method_14_code 6 = .ok (.ifCond .ne 7, 3) := by decide +kernel
theorem k_MD_revoke_13 : px_dec prog_9_method_14_code [.iconst 0, .iconst 0] 13 = true := by decide +kernel
theorem d_MD_revoke_15 : decode prog_9_method_14_code 15 = .ok (.invokevirtual 88, 3) := by decide +kernel
theorem d_MD_revoke_18 : decode prog_9_method_14_code 18 = .ok (.ifCond .eq 5, 3) := by decide +kernel
theorem k_MD_revoke_23 : px_dec prog_9_method_14_code [.aload_n 0] 23 = true := by decide +kernel
theorem d_MD_revoke_24 : decode prog_9_method_14_code 24 = .ok (.getfield 22, 3) := by decide +kernel
theorem k_MD_revoke_27 : px_dec prog_9_method_14_code [.iload_n 1] 27 = true := by decide +kernel
theorem d_MD_revoke_28 : decode prog_9_method_14_code 28 = .ok (.baload, 1) := by decide +kernel
theorem k_MD_revoke_29 : px_dec prog_9_method_14_code [.iload_n 2] 29 = true := by decide +kernel
theorem d_MD_revoke_30 : decode prog_9_method_14_code 30 = .ok (.if_icmp .ne 5, 3) := by decide +kernel
theorem k_MD_revoke_35 : px_dec prog_9_method_14_code [.aload_n 0] 35 = true := by decide +kernel
theorem d_MD_revoke_36 : decode prog_9_method_14_code 36 = .ok (.getfield 22, 3) := by decide +kernel
theorem k_MD_revoke_39 : px_dec prog_9_method_14_code [.iload_n 1, .iload_n 2] 39 = true := by decide +kernel
theorem d_MD_revoke_41 : decode prog_9_method_14_code 41 = .ok (.bastore, 1) := by decide +kernel
theorem k_MD_revoke_42 : px_dec prog_9_method_14_code [.aload_n 0] 42 = true := by decide +kernel
theorem d_MD_revoke_43 : decode prog_9_method_14_code 43 = .ok (.getfield 19, 3) := by decide +kernel
theorem k_MD_revoke_46 : px_dec prog_9_method_14_code [.iload_n 1, .iload_n 2] 46 = true := by decide +kernel
theorem d_MD_revoke_48 : decode prog_9_method_14_code 48 = .ok (.ifCond .eq 12, 3) := by decide +kernel
theorem k_MD_revoke_60 : px_dec prog_9_method_14_code [.iconst 3] 60 = true := by decide +kernel
theorem d_MD_revoke_61 : decode prog_9_method_14_code 61 = .ok (.iastore, 1) := by decide +kernel
theorem k_MD_revoke_62 : px_dec prog_9_method_14_code [.iconst 1] 62 = true := by decide +kernel
theorem d_MD_revoke_63 : decode prog_9_method_14_code 63 = .ok (.ireturn, 1) := by decide +kernel
theorem k_MD_revoke_51 : px_dec prog_9_method_14_code [.aload_n 0] 51 = true := by decide +kernel
theorem d_MD_revoke_52 : decode prog_9_method_14_code 52 = .ok (.getfield 19, 3) := by decide +kernel
theorem k_MD_revoke_55 : px_dec prog_9_method_14_code [.iload_n 1] 55 = true := by decide +kernel
theorem d_MD_revoke_56 : decode prog_9_method_14_code 56 = .ok (.iaload, 1) := by decide +kernel
theorem d_MD_revoke_57 : decode prog_9_method_14_code 57 = .ok (.goto 4, 3) := by decide +kernel
theorem k_MD_revoke_33 : px_dec prog_9_method_14_code [.iconst 0] 33 = true := by decide +kernel
theorem d_MD_revoke_34 : decode prog_9_method_14_code 34 = .ok (.ireturn, 1) := by decide +kernel
theorem k_MD_revoke_9 : px_dec prog_9_method_14_code [.iconst 1] 9 = true := by decide +kernel
theorem d_MD_revoke_10 : decode prog_9_method_14_code 10 = .ok (.goto 4, 3) := by decide +kernel
theorem k_MD_revoke_14 : px_dec prog_9_method_14_code [.iconst 0] 14 = true := by decide +kernel
theorem k_MD_revoke_21 : px_dec prog_9_method_14_code [.iconst 0] 21 = true := by decide +kernel
theorem d_MD_revoke_22 : decode prog_9_method_14_code 22 = .ok (.ireturn, 1) := by decide +kernel
set_option maxRecDepth 100000 in
set_option maxHeartbeats 4000000 in
theorem c_MD_revoke (l : Launch) (D : va_G) (HB : Heap) (h : hp_T) (h0 : hp_T) (y : Nat) (A : Nat → Nat) (V : vT) (u : Int32) (b : Int32) (hU : ok_ (V 8 0) 40) (hb : b = 0 ∨ b = 1) (hM : mq D h0 h y A V) : ct_M l y_MD_revoke (.code y_MD_revoke prog_9_method_14_code 3 (Option.some Jvm.ClassFile.FieldType.int)) ({ frames := 1, cells := 0, slots := 0, locals := 30 }) D HB [.ref y, .int u, .int b] h (fun o h2 => ∃ (cd r : Int32) (V2 : vT), sp_revoke V u b = (cd, r, V2) ∧ o = .inl (some (.int r)) ∧ mq D h0 h2 y A V2) := by
  refine ct_of (by decide) (Nat.le_of_ble_eq_true rfl) rfl ?_
  intro p_ e_ s_ m_ r_ b_ t_ c_ C hnm
  refine wk_run C k_MD_revoke_0 (pc2 := 3) (lv2 := [(0, .ref y), (1, .int u), (2, .int b)]) (st2 := [.int u, .ref y, .ref y]) rfl ?_
  refine wk_callV (cl := ("ProfileRightsModel", T_MD, 27)) (rest := [.ref y]) C (c_MD_isUser l D HB h h0 y A (V) u hM) cs_MD_92 kc_MD_isUser ki_MD hM.ob rfl rfl rfl (Nat.le_of_ble_eq_true rfl) (Nat.le_of_ble_eq_true rfl) (Nat.le_of_ble_eq_true rfl) (Nat.le_of_ble_eq_true rfl) (Nat.le_of_ble_eq_true rfl) d_MD_revoke_3 (fun v h2 hq => ?_) (fun _ _ z => nomatch z.1)
  obtain ⟨e1, e2⟩ := hq; cases e1; replace e2 := e2.symm; subst e2
  show Wk _ _ _ _ _ _ _ _ _ _ _ _ _ _ _ _ _ _ _ (.int (if ¬ u < 1 ∧ u ≤ V 8 0 then (1 : Int32) else 0) :: _)
  refine wk_br C d_MD_revoke_6 (P := ¬ (if ¬ u < 1 ∧ u ≤ V 8 0 then (1 : Int32) else 0) = 0) (tgt := 13) (rest := [.ref y]) rfl (by decide) (fun c1 => ?_) (fun c1 => ?_)
  ·
    replace c1 := bn_ c1
    refine wk_run C k_MD_revoke_13 (pc2 := 15) (lv2 := [(0, .ref y), (1, .int u), (2, .int b)]) (st2 := [.int 0, .int 0, .ref y]) rfl ?_
    refine wk_callV (cl := ("ProfileRightsModel", T_MD, 27)) (rest := []) C (c_MD_f0 l D HB h h0 y A (V) hM) cs_MD_88 kc_MD_fails ki_MD hM.ob rfl rfl rfl (Nat.le_of_ble_eq_true rfl) (Nat.le_of_ble_eq_true rfl) (Nat.le_of_ble_eq_true rfl) (Nat.le_of_ble_eq_true rfl) (Nat.le_of_ble_eq_true rfl) d_MD_revoke_15 (fun v h hq => ?_) (fun _ _ z => nomatch z.1)
    obtain ⟨e1, hM⟩ := hq; cases e1
    refine wk_br C d_MD_revoke_18 (P := 0 = 0) (tgt := 23) (rest := []) rfl (by decide) (fun c2 => ?_) (fun c2 => ?_)
    ·
      refine wk_run C k_MD_revoke_23 (pc2 := 24) (lv2 := [(0, .ref y), (1, .int u), (2, .int b)]) (st2 := [.ref y]) rfl ?_
      refine wk_get (v := .ref (A 5)) C fd_MD_22 hM.ob rfl d_MD_revoke_24 ?_
      refine wk_run C k_MD_revoke_27 (pc2 := 28) (lv2 := [(0, .ref y), (1, .int u), (2, .int b)]) (st2 := [.int u, .ref (A 5)]) rfl ?_
      refine wm_ldz C hM 5 (j := nu u) rfl (vi_ c1.1 c1.2 hU (by decide) (by decide)) rfl d_MD_revoke_28 ?_
      show Wk _ _ _ _ _ _ _ _ _ _ _ _ _ _ _ _ _ _ _ (.int (V 5 (nu u)) :: _)
      refine wk_run C k_MD_revoke_29 (pc2 := 30) (lv2 := [(0, .ref y), (1, .int u), (2, .int b)]) (st2 := [.int b, .int (V 5 (nu u))]) rfl ?_
      refine wk_br C d_MD_revoke_30 (P := ¬ (V 5 (nu u)) = b) (tgt := 35) (rest := []) rfl (by decide) (fun c3 => ?_) (fun c3 => ?_)
      ·
        refine wk_run C k_MD_revoke_35 (pc2 := 36) (lv2 := [(0, .ref y), (1, .int u), (2, .int b)]) (st2 := [.ref y]) rfl ?_
        refine wk_get (v := .ref (A 5)) C fd_MD_22 hM.ob rfl d_MD_revoke_36 ?_
        refine wk_run C k_MD_revoke_39 (pc2 := 41) (lv2 := [(0, .ref y), (1, .int u), (2, .int b)]) (st2 := [.int b, .int u, .ref (A 5)]) rfl ?_
        refine wm_stz C hM 5 (j := (nu u)) rfl (vi_ c1.1 c1.2 hU (by decide) (by decide)) rfl (vn_z hb) d_MD_revoke_41 (fun h (hM : mq D h0 h y A (vs (vc (V) 0 0) 5 (upd (V 5) (nu u) b))) => ?_)
        refine wk_run C k_MD_revoke_42 (pc2 := 43) (lv2 := [(0, .ref y), (1, .int u), (2, .int b)]) (st2 := [.ref y]) rfl ?_
        refine wk_get (v := .ref (A 4)) C fd_MD_19 hM.ob rfl d_MD_revoke_43 ?_
        refine wk_run C k_MD_revoke_46 (pc2 := 48) (lv2 := [(0, .ref y), (1, .int u), (2, .int b)]) (st2 := [.int b, .int u, .ref (A 4)]) rfl ?_
        refine wk_br C d_MD_revoke_48 (P := b = 0) (tgt := 60) (rest := [.int u, .ref (A 4)]) rfl (by decide) (fun c4 => ?_) (fun c4 => ?_)
        ·
          refine wk_run C k_MD_revoke_60 (pc2 := 61) (lv2 := [(0, .ref y), (1, .int u), (2, .int b)]) (st2 := [.int 3, .int u, .ref (A 4)]) rfl ?_
          refine wm_st C hM 4 (j := (nu u)) rfl (vi_ c1.1 c1.2 hU (by decide) (by decide)) rfl d_MD_revoke_61 (fun h (hM : mq D h0 h y A (vs (vs (vc (V) 0 0) 5 (upd (V 5) (nu u) b)) 4 (upd (V 4) (nu u) 3))) => ?_)
          refine wk_run C k_MD_revoke_62 (pc2 := 63) (lv2 := [(0, .ref y), (1, .int u), (2, .int b)]) (st2 := [.int 1]) rfl ?_
          exact wk_iret C ⟨0, 1, vs (vs (vc (V) 0 0) 5 (upd (V 5) (nu u) b)) 4 (upd (V 4) (nu u) 3), by clear C hM hnm; grind [sp_revoke], rfl, hM⟩ (by decide) (by decide) d_MD_revoke_63
        ·
          refine wk_run C k_MD_revoke_51 (pc2 := 52) (lv2 := [(0, .ref y), (1, .int u), (2, .int b)]) (st2 := [.ref y, .int u, .ref (A 4)]) rfl ?_
          refine wk_get (v := .ref (A 4)) C fd_MD_19 hM.ob rfl d_MD_revoke_52 ?_
          refine wk_run C k_MD_revoke_55 (pc2 := 56) (lv2 := [(0, .ref y), (1, .int u), (2, .int b)]) (st2 := [.int u, .ref (A 4), .int u, .ref (A 4)]) rfl ?_
          refine wm_ld C hM 4 (j := nu u) rfl (vi_ c1.1 c1.2 hU (by decide) (by decide)) rfl d_MD_revoke_56 ?_
          show Wk _ _ _ _ _ _ _ _ _ _ _ _ _ _ _ _ _ _ _ (.int (V 4 (nu u)) :: _)
          refine wk_goto C d_MD_revoke_57 (tgt := 61) (by decide) ?_
          refine wm_st C hM 4 (j := (nu u)) rfl (vi_ c1.1 c1.2 hU (by decide) (by decide)) rfl d_MD_revoke_61 (fun h (hM : mq D h0 h y A (vs (vs (vc (V) 0 0) 5 (upd (V 5) (nu u) b)) 4 (upd (V 4) (nu u) (V 4 (nu u))))) => ?_)
          refine wk_run C k_MD_revoke_62 (pc2 := 63) (lv2 := [(0, .ref y), (1, .int u), (2, .int b)]) (st2 := [.int 1]) rfl ?_
          exact wk_iret C ⟨0, 1, vs (vs (vc (V) 0 0) 5 (upd (V 5) (nu u) b)) 4 (upd (V 4) (nu u) (V 4 (nu u))), by clear C hM hnm; grind [sp_revoke], rfl, hM⟩ (by decide) (by decide) d_MD_revoke_63
      ·
        refine wk_run C k_MD_revoke_33 (pc2 := 34) (lv2 := [(0, .ref y), (1, .int u), (2, .int b)]) (st2 := [.int 0]) rfl ?_
        exact wk_iret C ⟨0, 0, vc (V) 0 0, by clear C hM hnm; grind [sp_revoke], rfl, hM⟩ (by decide) (by decide) d_MD_revoke_34
    ·
      exact absurd (by decide) c2
  ·
    replace c1 := bz_ (Classical.not_not.mp c1)
    refine wk_run C k_MD_revoke_9 (pc2 := 10) (lv2 := [(0, .ref y), (1, .int u), (2, .int b)]) (st2 := [.int 1, .ref y]) rfl ?_
    refine wk_goto C d_MD_revoke_10 (tgt := 14) (by decide) ?_
    refine wk_run C k_MD_revoke_14 (pc2 := 15) (lv2 := [(0, .ref y), (1, .int u), (2, .int b)]) (st2 := [.int 0, .int 1, .ref y]) rfl ?_
    refine wk_callV (cl := ("ProfileRightsModel", T_MD, 27)) (rest := []) C (c_MD_f1 l D HB h h0 y A (V) hM) cs_MD_88 kc_MD_fails ki_MD hM.ob rfl rfl rfl (Nat.le_of_ble_eq_true rfl) (Nat.le_of_ble_eq_true rfl) (Nat.le_of_ble_eq_true rfl) (Nat.le_of_ble_eq_true rfl) (Nat.le_of_ble_eq_true rfl) d_MD_revoke_15 (fun v h hq => ?_) (fun _ _ z => nomatch z.1)
    obtain ⟨e1, hM⟩ := hq; cases e1
    refine wk_br C d_MD_revoke_18 (P := 1 = 0) (tgt := 23) (rest := []) rfl (by decide) (fun c5 => ?_) (fun c5 => ?_)
    ·
      exact absurd c5 (by decide)
    ·
      refine wk_run C k_MD_revoke_21 (pc2 := 22) (lv2 := [(0, .ref y), (1, .int u), (2, .int b)]) (st2 := [.int 0]) rfl ?_
      exact wk_iret C ⟨1, 0, vc (V) 0 1, by clear C hM hnm; grind [sp_revoke], rfl, hM⟩ (by decide) (by decide) d_MD_revoke_22
theorem k_MD_pass_0 : px_dec prog_9_method_15_code [.aload_n 0, .aload_n 0, .iload_n 1] 0 = true := by decide +kernel
theorem d_MD_pass_3 : decode prog_9_method_15_code 3 = .ok (.invokevirtual 92, 3) := by decide +kernel
theorem d_MD_pass_6 : decode prog_9_method_15_code 6 = .ok (.ifCond .ne 7, 3) := by decide +kernel
theorem k_MD_pass_13 : px_dec prog_9_method_15_code [.iconst 0, .iconst 0] 13 = true := by decide +kernel
theorem d_MD_pass_15 : decode prog_9_method_15_code 15 = .ok (.invokevirtual 88, 3) := by decide +kernel
theorem d_MD_pass_18 : decode prog_9_method_15_code 18 = .ok (.ifCond .eq 5, 3) := by decide +kernel
theorem k_MD_pass_23 : px_dec prog_9_method_15_code [.aload_n 0] 23 = true := by decide +kernel
theorem d_MD_pass_24 : decode prog_9_method_15_code 24 = .ok (.getfield 22, 3) := by decide +kernel
theorem k_MD_pass_27 : px_dec prog_9_method_15_code [.iload_n 1] 27 = true := by decide +kernel
theorem d_MD_pass_28 : decode prog_9_method_15_code 28 = .ok (.baload, 1) := by decide +kernel
theorem d_MD_pass_29 : decode prog_9_method_15_code 29 = .ok (.ifCond .eq 5, 3) := by decide +kernel
theorem k_MD_pass_34 : px_dec prog_9_method_15_code [.aload_n 0] 34 = true := by decide +kernel
theorem d_MD_pass_35 : decode prog_9_method_15_code 35 = .ok (.getfield 19, 3) := by decide +kernel
theorem k_MD_pass_38 : px_dec prog_9_method_15_code [.iload_n 1, .iload_n 2] 38 = true := by decide +kernel
theorem d_MD_pass_40 : decode prog_9_method_15_code 40 = .ok (.ifCond .eq 7, 3) := by decide +kernel
theorem k_MD_pass_47 : px_dec prog_9_method_15_code [.aload_n 0] 47 = true := by decide +kernel
theorem d_MD_pass_48 : decode prog_9_method_15_code 48 = .ok (.getfield 19, 3) := by decide +kernel
theorem k_MD_pass_51 : px_dec prog_9_method_15_code [.iload_n 1] 51 = true := by decide +kernel
theorem d_MD_pass_52 : decode prog_9_method_15_code 52 = .ok (.iaload, 1) := by decide +kernel
theorem k_MD_pass_53 : px_dec prog_9_method_15_code [.iconst 1, .isub] 53 = true := by decide +kernel
theorem d_MD_pass_55 : decode prog_9_method_15_code 55 = .ok (.iastore, 1) := by decide +kernel
theorem k_MD_pass_56 : px_dec prog_9_method_15_code [.aload_n 0] 56 = true := by decide +kernel
theorem d_MD_pass_57 : decode prog_9_method_15_code 57 = .ok (.getfield 22, 3) := by decide +kernel
theorem k_MD_pass_60 : px_dec prog_9_method_15_code [.iload_n 1, .aload_n 0] 60 = true := by decide +kernel
theorem d_MD_pass_62 : decode prog_9_method_15_code 62 = .ok (.getfield 19, 3) := by decide +kernel
theorem k_MD_pass_65 : px_dec prog_9_method_15_code [.iload_n 1] 65 = true := by decide +kernel
theorem d_MD_pass_66 : decode prog_9_method_15_code 66 = .ok (.iaload, 1) := by decide +kernel
theorem d_MD_pass_67 : decode prog_9_method_15_code 67 = .ok (.ifCond .ne 7, 3) := by decide +kernel
theorem k_MD_pass_74 : px_dec prog_9_method_15_code [.iconst 0] 74 = true := by decide +kernel
theorem d_MD_pass_75 : decode prog_9_method_15_code 75 = .ok (.bastore, 1) := by decide +kernel
theorem k_MD_pass_76 : px_dec prog_9_method_15_code [.aload_n 0] 76 = true := by decide +kernel
theorem d_MD_pass_77 : decode prog_9_method_15_code 77 = .ok (.getfield 19, 3) := by decide +kernel
theorem k_MD_pass_80 : px_dec prog_9_method_15_code [.iload_n 1] 80 = true := by decide +kernel
theorem d_MD_pass_81 : decode prog_9_method_15_code 81 = .ok (.iaload, 1) := by decide +kernel
theorem d_MD_pass_82 : decode prog_9_method_15_code 82 = .ok (.ireturn, 1) := by decide +kernel
theorem k_MD_pass_70 : px_dec prog_9_method_15_code [.iconst 1] 70 = true := by decide +kernel
theorem d_MD_pass_71 : decode prog_9_method_15_code 71 = .ok (.goto 4, 3) := by decide +kernel
theorem k_MD_pass_43 : px_dec prog_9_method_15_code [.iconst 3] 43 = true := by decide +kernel
theorem d_MD_pass_44 : decode prog_9_method_15_code 44 = .ok (.goto 11, 3) := by decide +kernel
theorem k_MD_pass_32 : px_dec prog_9_method_15_code [.iconst (-1)] 32 = true := by decide +kernel
theorem d_MD_pass_33 : decode prog_9_method_15_code 33 = .ok (.ireturn, 1) := by decide +kernel
theorem k_MD_pass_9 : px_dec prog_9_method_15_code [.iconst 1] 9 = true := by decide +kernel
theorem d_MD_pass_10 : decode prog_9_method_15_code 10 = .ok (.goto 4, 3) := by decide +kernel
theorem k_MD_pass_14 : px_dec prog_9_method_15_code [.iconst 0] 14 = true := by decide +kernel
theorem k_MD_pass_21 : px_dec prog_9_method_15_code [.iconst 0] 21 = true := by decide +kernel
theorem d_MD_pass_22 : decode prog_9_method_15_code 22 = .ok (.ireturn, 1) := by decide +kernel
set_option maxRecDepth 100000 in
set_option maxHeartbeats 4000000 in
theorem c_MD_pass (l : Launch) (D : va_G) (HB : Heap) (h : hp_T) (h0 : hp_T) (y : Nat) (A : Nat → Nat) (V : vT) (u : Int32) (b : Int32) (hU : ok_ (V 8 0) 40) (hM : mq D h0 h y A V) : ct_M l y_MD_pass (.code y_MD_pass prog_9_method_15_code 3 (Option.some Jvm.ClassFile.FieldType.int)) ({ frames := 1, cells := 0, slots := 0, locals := 30 }) D HB [.ref y, .int u, .int b] h (fun o h2 => ∃ (cd r : Int32) (V2 : vT), sp_pass V u b = (cd, r, V2) ∧ o = .inl (some (.int r)) ∧ mq D h0 h2 y A V2) := by
  refine ct_of (by decide) (Nat.le_of_ble_eq_true rfl) rfl ?_
  intro p_ e_ s_ m_ r_ b_ t_ c_ C hnm
  refine wk_run C k_MD_pass_0 (pc2 := 3) (lv2 := [(0, .ref y), (1, .int u), (2, .int b)]) (st2 := [.int u, .ref y, .ref y]) rfl ?_
  refine wk_callV (cl := ("ProfileRightsModel", T_MD, 27)) (rest := [.ref y]) C (c_MD_isUser l D HB h h0 y A (V) u hM) cs_MD_92 kc_MD_isUser ki_MD hM.ob rfl rfl rfl (Nat.le_of_ble_eq_true rfl) (Nat.le_of_ble_eq_true rfl) (Nat.le_of_ble_eq_true rfl) (Nat.le_of_ble_eq_true rfl) (Nat.le_of_ble_eq_true rfl) d_MD_pass_3 (fun v h2 hq => ?_) (fun _ _ z => nomatch z.1)
  obtain ⟨e1, e2⟩ := hq; cases e1; replace e2 := e2.symm; subst e2
  show Wk _ _ _ _ _ _ _ _ _ _ _ _ _ _ _ _ _ _ _ (.int (if ¬ u < 1 ∧ u ≤ V 8 0 then (1 : Int32) else 0) :: _)
  refine wk_br C d_MD_pass_6 (P := ¬ (if ¬ u < 1 ∧ u ≤ V 8 0 then (1 : Int32) else 0) = 0) (tgt := 13) (rest := [.ref y]) rfl (by decide) (fun c1 => ?_) (fun c1 => ?_)
  ·
    replace c1 := bn_ c1
    refine wk_run C k_MD_pass_13 (pc2 := 15) (lv2 := [(0, .ref y), (1, .int u), (2, .int b)]) (st2 := [.int 0, .int 0, .ref y]) rfl ?_
    refine wk_callV (cl := ("ProfileRightsModel", T_MD, 27)) (rest := []) C (c_MD_f0 l D HB h h0 y A (V) hM) cs_MD_88 kc_MD_fails ki_MD hM.ob rfl rfl rfl (Nat.le_of_ble_eq_true rfl) (Nat.le_of_ble_eq_true rfl) (Nat.le_of_ble_eq_true rfl) (Nat.le_of_ble_eq_true rfl) (Nat.le_of_ble_eq_true rfl) d_MD_pass_15 (fun v h hq => ?_) (fun _ _ z => nomatch z.1)
    obtain ⟨e1, hM⟩ := hq; cases e1
    refine wk_br C d_MD_pass_18 (P := 0 = 0) (tgt := 23) (rest := []) rfl (by decide) (fun c2 => ?_) (fun c2 => ?_)
    ·
      refine wk_run C k_MD_pass_23 (pc2 := 24) (lv2 := [(0, .ref y), (1, .int u), (2, .int b)]) (st2 := [.ref y]) rfl ?_
      refine wk_get (v := .ref (A 5)) C fd_MD_22 hM.ob rfl d_MD_pass_24 ?_
      refine wk_run C k_MD_pass_27 (pc2 := 28) (lv2 := [(0, .ref y), (1, .int u), (2, .int b)]) (st2 := [.int u, .ref (A 5)]) rfl ?_
      refine wm_ldz C hM 5 (j := nu u) rfl (vi_ c1.1 c1.2 hU (by decide) (by decide)) rfl d_MD_pass_28 ?_
      show Wk _ _ _ _ _ _ _ _ _ _ _ _ _ _ _ _ _ _ _ (.int (V 5 (nu u)) :: _)
      refine wk_br C d_MD_pass_29 (P := (V 5 (nu u)) = 0) (tgt := 34) (rest := []) rfl (by decide) (fun c3 => ?_) (fun c3 => ?_)
      ·
        refine wk_run C k_MD_pass_34 (pc2 := 35) (lv2 := [(0, .ref y), (1, .int u), (2, .int b)]) (st2 := [.ref y]) rfl ?_
        refine wk_get (v := .ref (A 4)) C fd_MD_19 hM.ob rfl d_MD_pass_35 ?_
        refine wk_run C k_MD_pass_38 (pc2 := 40) (lv2 := [(0, .ref y), (1, .int u), (2, .int b)]) (st2 := [.int b, .int u, .ref (A 4)]) rfl ?_
        refine wk_br C d_MD_pass_40 (P := b = 0) (tgt := 47) (rest := [.int u, .ref (A 4)]) rfl (by decide) (fun c4 => ?_) (fun c4 => ?_)
        ·
          refine wk_run C k_MD_pass_47 (pc2 := 48) (lv2 := [(0, .ref y), (1, .int u), (2, .int b)]) (st2 := [.ref y, .int u, .ref (A 4)]) rfl ?_
          refine wk_get (v := .ref (A 4)) C fd_MD_19 hM.ob rfl d_MD_pass_48 ?_
          refine wk_run C k_MD_pass_51 (pc2 := 52) (lv2 := [(0, .ref y), (1, .int u), (2, .int b)]) (st2 := [.int u, .ref (A 4), .int u, .ref (A 4)]) rfl ?_
          refine wm_ld C hM 4 (j := nu u) rfl (vi_ c1.1 c1.2 hU (by decide) (by decide)) rfl d_MD_pass_52 ?_
          show Wk _ _ _ _ _ _ _ _ _ _ _ _ _ _ _ _ _ _ _ (.int (V 4 (nu u)) :: _)
          refine wk_run C k_MD_pass_53 (pc2 := 55) (lv2 := [(0, .ref y), (1, .int u), (2, .int b)]) (st2 := [.int ((V 4 (nu u)) - 1), .int u, .ref (A 4)]) rfl ?_
          refine wm_st C hM 4 (j := (nu u)) rfl (vi_ c1.1 c1.2 hU (by decide) (by decide)) rfl d_MD_pass_55 (fun h (hM : mq D h0 h y A (vs (vc (V) 0 0) 4 (upd (V 4) (nu u) ((V 4 (nu u)) - 1)))) => ?_)
          refine wk_run C k_MD_pass_56 (pc2 := 57) (lv2 := [(0, .ref y), (1, .int u), (2, .int b)]) (st2 := [.ref y]) rfl ?_
          refine wk_get (v := .ref (A 5)) C fd_MD_22 hM.ob rfl d_MD_pass_57 ?_
          refine wk_run C k_MD_pass_60 (pc2 := 62) (lv2 := [(0, .ref y), (1, .int u), (2, .int b)]) (st2 := [.ref y, .int u, .ref (A 5)]) rfl ?_
          refine wk_get (v := .ref (A 4)) C fd_MD_19 hM.ob rfl d_MD_pass_62 ?_
          refine wk_run C k_MD_pass_65 (pc2 := 66) (lv2 := [(0, .ref y), (1, .int u), (2, .int b)]) (st2 := [.int u, .ref (A 4), .int u, .ref (A 5)]) rfl ?_
          refine wm_ld C hM 4 (j := nu u) rfl (vi_ c1.1 c1.2 hU (by decide) (by decide)) rfl d_MD_pass_66 ?_
          show Wk _ _ _ _ _ _ _ _ _ _ _ _ _ _ _ _ _ _ _ (.int ((upd (V 4) (nu u) ((V 4 (nu u)) - 1)) (nu u)) :: _)
          refine wk_br C d_MD_pass_67 (P := ¬ ((upd (V 4) (nu u) ((V 4 (nu u)) - 1)) (nu u)) = 0) (tgt := 74) (rest := [.int u, .ref (A 5)]) rfl (by decide) (fun c5 => ?_) (fun c5 => ?_)
          ·
            refine wk_run C k_MD_pass_74 (pc2 := 75) (lv2 := [(0, .ref y), (1, .int u), (2, .int b)]) (st2 := [.int 0, .int u, .ref (A 5)]) rfl ?_
            refine wm_stz C hM 5 (j := (nu u)) rfl (vi_ c1.1 c1.2 hU (by decide) (by decide)) rfl (by rfl) d_MD_pass_75 (fun h (hM : mq D h0 h y A (vs (vs (vc (V) 0 0) 4 (upd (V 4) (nu u) ((V 4 (nu u)) - 1))) 5 (upd (V 5) (nu u) 0))) => ?_)
            refine wk_run C k_MD_pass_76 (pc2 := 77) (lv2 := [(0, .ref y), (1, .int u), (2, .int b)]) (st2 := [.ref y]) rfl ?_
            refine wk_get (v := .ref (A 4)) C fd_MD_19 hM.ob rfl d_MD_pass_77 ?_
            refine wk_run C k_MD_pass_80 (pc2 := 81) (lv2 := [(0, .ref y), (1, .int u), (2, .int b)]) (st2 := [.int u, .ref (A 4)]) rfl ?_
            refine wm_ld C hM 4 (j := nu u) rfl (vi_ c1.1 c1.2 hU (by decide) (by decide)) rfl d_MD_pass_81 ?_
            show Wk _ _ _ _ _ _ _ _ _ _ _ _ _ _ _ _ _ _ _ (.int ((upd (V 4) (nu u) ((V 4 (nu u)) - 1)) (nu u)) :: _)
            exact wk_iret C ⟨0, ((upd (V 4) (nu u) ((V 4 (nu u)) - 1)) (nu u)), vs (vs (vc (V) 0 0) 4 (upd (V 4) (nu u) ((V 4 (nu u)) - 1))) 5 (upd (V 5) (nu u) 0), by clear C hM hnm; grind [sp_pass, upd_s], rfl, hM⟩ (by decide) (by decide) d_MD_pass_82
          ·
            refine wk_run C k_MD_pass_70 (pc2 := 71) (lv2 := [(0, .ref y), (1, .int u), (2, .int b)]) (st2 := [.int 1, .int u, .ref (A 5)]) rfl ?_
            refine wk_goto C d_MD_pass_71 (tgt := 75) (by decide) ?_
            refine wm_stz C hM 5 (j := (nu u)) rfl (vi_ c1.1 c1.2 hU (by decide) (by decide)) rfl (by rfl) d_MD_pass_75 (fun h (hM : mq D h0 h y A (vs (vs (vc (V) 0 0) 4 (upd (V 4) (nu u) ((V 4 (nu u)) - 1))) 5 (upd (V 5) (nu u) 1))) => ?_)
            refine wk_run C k_MD_pass_76 (pc2 := 77) (lv2 := [(0, .ref y), (1, .int u), (2, .int b)]) (st2 := [.ref y]) rfl ?_
            refine wk_get (v := .ref (A 4)) C fd_MD_19 hM.ob rfl d_MD_pass_77 ?_
            refine wk_run C k_MD_pass_80 (pc2 := 81) (lv2 := [(0, .ref y), (1, .int u), (2, .int b)]) (st2 := [.int u, .ref (A 4)]) rfl ?_
            refine wm_ld C hM 4 (j := nu u) rfl (vi_ c1.1 c1.2 hU (by decide) (by decide)) rfl d_MD_pass_81 ?_
            show Wk _ _ _ _ _ _ _ _ _ _ _ _ _ _ _ _ _ _ _ (.int ((upd (V 4) (nu u) ((V 4 (nu u)) - 1)) (nu u)) :: _)
            exact wk_iret C ⟨0, ((upd (V 4) (nu u) ((V 4 (nu u)) - 1)) (nu u)), vs (vs (vc (V) 0 0) 4 (upd (V 4) (nu u) ((V 4 (nu u)) - 1))) 5 (upd (V 5) (nu u) 1), by clear C hM hnm; grind [sp_pass, upd_s], rfl, hM⟩ (by decide) (by decide) d_MD_pass_82
        ·
          refine wk_run C k_MD_pass_43 (pc2 := 44) (lv2 := [(0, .ref y), (1, .int u), (2, .int b)]) (st2 := [.int 3, .int u, .ref (A 4)]) rfl ?_
          refine wk_goto C d_MD_pass_44 (tgt := 55) (by decide) ?_
          refine wm_st C hM 4 (j := (nu u)) rfl (vi_ c1.1 c1.2 hU (by decide) (by decide)) rfl d_MD_pass_55 (fun h (hM : mq D h0 h y A (vs (vc (V) 0 0) 4 (upd (V 4) (nu u) 3))) => ?_)
          refine wk_run C k_MD_pass_56 (pc2 := 57) (lv2 := [(0, .ref y), (1, .int u), (2, .int b)]) (st2 := [.ref y]) rfl ?_
          refine wk_get (v := .ref (A 5)) C fd_MD_22 hM.ob rfl d_MD_pass_57 ?_
          refine wk_run C k_MD_pass_60 (pc2 := 62) (lv2 := [(0, .ref y), (1, .int u), (2, .int b)]) (st2 := [.ref y, .int u, .ref (A 5)]) rfl ?_
          refine wk_get (v := .ref (A 4)) C fd_MD_19 hM.ob rfl d_MD_pass_62 ?_
          refine wk_run C k_MD_pass_65 (pc2 := 66) (lv2 := [(0, .ref y), (1, .int u), (2, .int b)]) (st2 := [.int u, .ref (A 4), .int u, .ref (A 5)]) rfl ?_
          refine wm_ld C hM 4 (j := nu u) rfl (vi_ c1.1 c1.2 hU (by decide) (by decide)) rfl d_MD_pass_66 ?_
          show Wk _ _ _ _ _ _ _ _ _ _ _ _ _ _ _ _ _ _ _ (.int ((upd (V 4) (nu u) 3) (nu u)) :: _)
          refine wk_br C d_MD_pass_67 (P := ¬ ((upd (V 4) (nu u) 3) (nu u)) = 0) (tgt := 74) (rest := [.int u, .ref (A 5)]) rfl (by decide) (fun c6 => ?_) (fun c6 => ?_)
          ·
            refine wk_run C k_MD_pass_74 (pc2 := 75) (lv2 := [(0, .ref y), (1, .int u), (2, .int b)]) (st2 := [.int 0, .int u, .ref (A 5)]) rfl ?_
            refine wm_stz C hM 5 (j := (nu u)) rfl (vi_ c1.1 c1.2 hU (by decide) (by decide)) rfl (by rfl) d_MD_pass_75 (fun h (hM : mq D h0 h y A (vs (vs (vc (V) 0 0) 4 (upd (V 4) (nu u) 3)) 5 (upd (V 5) (nu u) 0))) => ?_)
            refine wk_run C k_MD_pass_76 (pc2 := 77) (lv2 := [(0, .ref y), (1, .int u), (2, .int b)]) (st2 := [.ref y]) rfl ?_
            refine wk_get (v := .ref (A 4)) C fd_MD_19 hM.ob rfl d_MD_pass_77 ?_
            refine wk_run C k_MD_pass_80 (pc2 := 81) (lv2 := [(0, .ref y), (1, .int u), (2, .int b)]) (st2 := [.int u, .ref (A 4)]) rfl ?_
            refine wm_ld C hM 4 (j := nu u) rfl (vi_ c1.1 c1.2 hU (by decide) (by decide)) rfl d_MD_pass_81 ?_
            show Wk _ _ _ _ _ _ _ _ _ _ _ _ _ _ _ _ _ _ _ (.int ((upd (V 4) (nu u) 3) (nu u)) :: _)
            exact wk_iret C ⟨0, ((upd (V 4) (nu u) 3) (nu u)), vs (vs (vc (V) 0 0) 4 (upd (V 4) (nu u) 3)) 5 (upd (V 5) (nu u) 0), by clear C hM hnm; grind [sp_pass, upd_s], rfl, hM⟩ (by decide) (by decide) d_MD_pass_82
          ·
            refine wk_run C k_MD_pass_70 (pc2 := 71) (lv2 := [(0, .ref y), (1, .int u), (2, .int b)]) (st2 := [.int 1, .int u, .ref (A 5)]) rfl ?_
            refine wk_goto C d_MD_pass_71 (tgt := 75) (by decide) ?_
            refine wm_stz C hM 5 (j := (nu u)) rfl (vi_ c1.1 c1.2 hU (by decide) (by decide)) rfl (by rfl) d_MD_pass_75 (fun h (hM : mq D h0 h y A (vs (vs (vc (V) 0 0) 4 (upd (V 4) (nu u) 3)) 5 (upd (V 5) (nu u) 1))) => ?_)
            refine wk_run C k_MD_pass_76 (pc2 := 77) (lv2 := [(0, .ref y), (1, .int u), (2, .int b)]) (st2 := [.ref y]) rfl ?_
            refine wk_get (v := .ref (A 4)) C fd_MD_19 hM.ob rfl d_MD_pass_77 ?_
            refine wk_run C k_MD_pass_80 (pc2 := 81) (lv2 := [(0, .ref y), (1, .int u), (2, .int b)]) (st2 := [.int u, .ref (A 4)]) rfl ?_
            refine wm_ld C hM 4 (j := nu u) rfl (vi_ c1.1 c1.2 hU (by decide) (by decide)) rfl d_MD_pass_81 ?_
            show Wk _ _ _ _ _ _ _ _ _ _ _ _ _ _ _ _ _ _ _ (.int ((upd (V 4) (nu u) 3) (nu u)) :: _)
            exact wk_iret C ⟨0, ((upd (V 4) (nu u) 3) (nu u)), vs (vs (vc (V) 0 0) 4 (upd (V 4) (nu u) 3)) 5 (upd (V 5) (nu u) 1), by clear C hM hnm; grind [sp_pass, upd_s], rfl, hM⟩ (by decide) (by decide) d_MD_pass_82
      ·
        refine wk_run C k_MD_pass_32 (pc2 := 33) (lv2 := [(0, .ref y), (1, .int u), (2, .int b)]) (st2 := [.int (-1)]) rfl ?_
        exact wk_iret C ⟨0, (-1), vc (V) 0 0, by clear C hM hnm; grind [sp_pass, upd_s], rfl, hM⟩ (by decide) (by decide) d_MD_pass_33
    ·
      exact absurd (by decide) c2
  ·
    replace c1 := bz_ (Classical.not_not.mp c1)
    refine wk_run C k_MD_pass_9 (pc2 := 10) (lv2 := [(0, .ref y), (1, .int u), (2, .int b)]) (st2 := [.int 1, .ref y]) rfl ?_
    refine wk_goto C d_MD_pass_10 (tgt := 14) (by decide) ?_
    refine wk_run C k_MD_pass_14 (pc2 := 15) (lv2 := [(0, .ref y), (1, .int u), (2, .int b)]) (st2 := [.int 0, .int 1, .ref y]) rfl ?_
    refine wk_callV (cl := ("ProfileRightsModel", T_MD, 27)) (rest := []) C (c_MD_f1 l D HB h h0 y A (V) hM) cs_MD_88 kc_MD_fails ki_MD hM.ob rfl rfl rfl (Nat.le_of_ble_eq_true rfl) (Nat.le_of_ble_eq_true rfl) (Nat.le_of_ble_eq_true rfl) (Nat.le_of_ble_eq_true rfl) (Nat.le_of_ble_eq_true rfl) d_MD_pass_15 (fun v h hq => ?_) (fun _ _ z => nomatch z.1)
    obtain ⟨e1, hM⟩ := hq; cases e1
    refine wk_br C d_MD_pass_18 (P := 1 = 0) (tgt := 23) (rest := []) rfl (by decide) (fun c7 => ?_) (fun c7 => ?_)
    ·
      exact absurd c7 (by decide)
    ·
      refine wk_run C k_MD_pass_21 (pc2 := 22) (lv2 := [(0, .ref y), (1, .int u), (2, .int b)]) (st2 := [.int 0]) rfl ?_
      exact wk_iret C ⟨1, 0, vc (V) 0 1, by clear C hM hnm; grind [sp_pass, upd_s], rfl, hM⟩ (by decide) (by decide) d_MD_pass_22
theorem k_MD_acts_0 : px_dec prog_9_method_16_code [.aload_n 0, .aload_n 0, .iload_n 1] 0 = true := by decide +kernel
theorem d_MD_acts_3 : decode prog_9_method_16_code 3 = .ok (.invokevirtual 92, 3) := by decide +kernel
theorem d_MD_acts_6 : decode prog_9_method_16_code 6 = .ok (.ifCond .eq 11, 3) := by decide +kernel
theorem k_MD_acts_17 : px_dec prog_9_method_16_code [.iconst 1] 17 = true := by decide +kernel
theorem d_MD_acts_18 : decode prog_9_method_16_code 18 = .ok (.goto 4, 3) := by decide +kernel
theorem k_MD_acts_22 : px_dec prog_9_method_16_code [.iconst 0] 22 = true := by decide +kernel
theorem d_MD_acts_23 : decode prog_9_method_16_code 23 = .ok (.invokevirtual 88, 3) := by decide +kernel
theorem d_MD_acts_26 : decode prog_9_method_16_code 26 = .ok (.ifCond .eq 5, 3) := by decide +kernel
theorem k_MD_acts_29 : px_dec prog_9_method_16_code [.iconst 0] 29 = true := by decide +kernel
theorem d_MD_acts_30 : decode prog_9_method_16_code 30 = .ok (.ireturn, 1) := by decide +kernel
theorem k_MD_acts_9 : px_dec prog_9_method_16_code [.aload_n 0, .iload_n 2] 9 = true := by decide +kernel
theorem d_MD_acts_11 : decode prog_9_method_16_code 11 = .ok (.invokevirtual 92, 3) := by decide +kernel
theorem d_MD_acts_14 : decode prog_9_method_16_code 14 = .ok (.ifCond .ne 7, 3) := by decide +kernel
theorem k_MD_acts_21 : px_dec prog_9_method_16_code [.iconst 0, .iconst 0] 21 = true := by decide +kernel
theorem k_MD_acts_31 : px_dec prog_9_method_16_code [.iload_n 1, .iload_n 2] 31 = true := by decide +kernel
theorem d_MD_acts_33 : decode prog_9_method_16_code 33 = .ok (.if_icmp .eq 17, 3) := by decide +kernel
theorem k_MD_acts_50 : px_dec prog_9_method_16_code [.iconst 1] 50 = true := by decide +kernel
theorem d_MD_acts_51 : decode prog_9_method_16_code 51 = .ok (.goto 4, 3) := by decide +kernel
theorem d_MD_acts_55 : decode prog_9_method_16_code 55 = .ok (.ireturn, 1) := by decide +kernel
theorem k_MD_acts_36 : px_dec prog_9_method_16_code [.aload_n 0] 36 = true := by decide +kernel
theorem d_MD_acts_37 : decode prog_9_method_16_code 37 = .ok (.getfield 26, 3) := by decide +kernel
theorem k_MD_acts_40 : px_dec prog_9_method_16_code [.bipush 41, .iload_n 1, .imul, .iload_n 2, .iadd] 40 = true := by decide +kernel
theorem d_MD_acts_46 : decode prog_9_method_16_code 46 = .ok (.baload, 1) := by decide +kernel
theorem d_MD_acts_47 : decode prog_9_method_16_code 47 = .ok (.ifCond .eq 7, 3) := by decide +kernel
theorem k_MD_acts_54 : px_dec prog_9_method_16_code [.iconst 0] 54 = true := by decide +kernel
set_option maxRecDepth 100000 in
set_option maxHeartbeats 4000000 in
theorem c_MD_acts (l : Launch) (D : va_G) (HB : Heap) (h : hp_T) (h0 : hp_T) (y : Nat) (A : Nat → Nat) (V : vT) (u : Int32) (w : Int32) (hU : ok_ (V 8 0) 40) (hM : mq D h0 h y A V) : ct_M l y_MD_acts (.code y_MD_acts prog_9_method_16_code 3 (Option.some Jvm.ClassFile.FieldType.boolean)) ({ frames := 1, cells := 0, slots := 0, locals := 30 }) D HB [.ref y, .int u, .int w] h (fun o h2 => ∃ (cd r : Int32) (V2 : vT), sp_acts V u w = (cd, r, V2) ∧ o = .inl (some (.int r)) ∧ mq D h0 h2 y A V2) := by
  refine ct_of (by decide) (Nat.le_of_ble_eq_true rfl) rfl ?_
  intro p_ e_ s_ m_ r_ b_ t_ c_ C hnm
  refine wk_run C k_MD_acts_0 (pc2 := 3) (lv2 := [(0, .ref y), (1, .int u), (2, .int w)]) (st2 := [.int u, .ref y, .ref y]) rfl ?_
  refine wk_callV (cl := ("ProfileRightsModel", T_MD, 27)) (rest := [.ref y]) C (c_MD_isUser l D HB h h0 y A (V) u hM) cs_MD_92 kc_MD_isUser ki_MD hM.ob rfl rfl rfl (Nat.le_of_ble_eq_true rfl) (Nat.le_of_ble_eq_true rfl) (Nat.le_of_ble_eq_true rfl) (Nat.le_of_ble_eq_true rfl) (Nat.le_of_ble_eq_true rfl) d_MD_acts_3 (fun v h2 hq => ?_) (fun _ _ z => nomatch z.1)
  obtain ⟨e1, e2⟩ := hq; cases e1; replace e2 := e2.symm; subst e2
  show Wk _ _ _ _ _ _ _ _ _ _ _ _ _ _ _ _ _ _ _ (.int (if ¬ u < 1 ∧ u ≤ V 8 0 then (1 : Int32) else 0) :: _)
  refine wk_br C d_MD_acts_6 (P := (if ¬ u < 1 ∧ u ≤ V 8 0 then (1 : Int32) else 0) = 0) (tgt := 17) (rest := [.ref y]) rfl (by decide) (fun c1 => ?_) (fun c1 => ?_)
  ·
    replace c1 := bz_ c1
    refine wk_run C k_MD_acts_17 (pc2 := 18) (lv2 := [(0, .ref y), (1, .int u), (2, .int w)]) (st2 := [.int 1, .ref y]) rfl ?_
    refine wk_goto C d_MD_acts_18 (tgt := 22) (by decide) ?_
    refine wk_run C k_MD_acts_22 (pc2 := 23) (lv2 := [(0, .ref y), (1, .int u), (2, .int w)]) (st2 := [.int 0, .int 1, .ref y]) rfl ?_
    refine wk_callV (cl := ("ProfileRightsModel", T_MD, 27)) (rest := []) C (c_MD_f1 l D HB h h0 y A (V) hM) cs_MD_88 kc_MD_fails ki_MD hM.ob rfl rfl rfl (Nat.le_of_ble_eq_true rfl) (Nat.le_of_ble_eq_true rfl) (Nat.le_of_ble_eq_true rfl) (Nat.le_of_ble_eq_true rfl) (Nat.le_of_ble_eq_true rfl) d_MD_acts_23 (fun v h hq => ?_) (fun _ _ z => nomatch z.1)
    obtain ⟨e1, hM⟩ := hq; cases e1
    refine wk_br C d_MD_acts_26 (P := 1 = 0) (tgt := 31) (rest := []) rfl (by decide) (fun c2 => ?_) (fun c2 => ?_)
    ·
      exact absurd c2 (by decide)
    ·
      refine wk_run C k_MD_acts_29 (pc2 := 30) (lv2 := [(0, .ref y), (1, .int u), (2, .int w)]) (st2 := [.int 0]) rfl ?_
      exact wk_zret C rfl ⟨1, 0, vc (V) 0 1, by clear C hM hnm; grind [sp_acts], rfl, hM⟩ (by decide) (by decide) d_MD_acts_30
  ·
    replace c1 := bn_ c1
    refine wk_run C k_MD_acts_9 (pc2 := 11) (lv2 := [(0, .ref y), (1, .int u), (2, .int w)]) (st2 := [.int w, .ref y, .ref y]) rfl ?_
    refine wk_callV (cl := ("ProfileRightsModel", T_MD, 27)) (rest := [.ref y]) C (c_MD_isUser l D HB h h0 y A (V) w hM) cs_MD_92 kc_MD_isUser ki_MD hM.ob rfl rfl rfl (Nat.le_of_ble_eq_true rfl) (Nat.le_of_ble_eq_true rfl) (Nat.le_of_ble_eq_true rfl) (Nat.le_of_ble_eq_true rfl) (Nat.le_of_ble_eq_true rfl) d_MD_acts_11 (fun v h2 hq => ?_) (fun _ _ z => nomatch z.1)
    obtain ⟨e1, e2⟩ := hq; cases e1; replace e2 := e2.symm; subst e2
    show Wk _ _ _ _ _ _ _ _ _ _ _ _ _ _ _ _ _ _ _ (.int (if ¬ w < 1 ∧ w ≤ V 8 0 then (1 : Int32) else 0) :: _)
    refine wk_br C d_MD_acts_14 (P := ¬ (if ¬ w < 1 ∧ w ≤ V 8 0 then (1 : Int32) else 0) = 0) (tgt := 21) (rest := [.ref y]) rfl (by decide) (fun c3 => ?_) (fun c3 => ?_)
    ·
      replace c3 := bn_ c3
      refine wk_run C k_MD_acts_21 (pc2 := 23) (lv2 := [(0, .ref y), (1, .int u), (2, .int w)]) (st2 := [.int 0, .int 0, .ref y]) rfl ?_
      refine wk_callV (cl := ("ProfileRightsModel", T_MD, 27)) (rest := []) C (c_MD_f0 l D HB h h0 y A (V) hM) cs_MD_88 kc_MD_fails ki_MD hM.ob rfl rfl rfl (Nat.le_of_ble_eq_true rfl) (Nat.le_of_ble_eq_true rfl) (Nat.le_of_ble_eq_true rfl) (Nat.le_of_ble_eq_true rfl) (Nat.le_of_ble_eq_true rfl) d_MD_acts_23 (fun v h hq => ?_) (fun _ _ z => nomatch z.1)
      obtain ⟨e1, hM⟩ := hq; cases e1
      refine wk_br C d_MD_acts_26 (P := 0 = 0) (tgt := 31) (rest := []) rfl (by decide) (fun c4 => ?_) (fun c4 => ?_)
      ·
        refine wk_run C k_MD_acts_31 (pc2 := 33) (lv2 := [(0, .ref y), (1, .int u), (2, .int w)]) (st2 := [.int w, .int u]) rfl ?_
        refine wk_br C d_MD_acts_33 (P := u = w) (tgt := 50) (rest := []) rfl (by decide) (fun c5 => ?_) (fun c5 => ?_)
        ·
          refine wk_run C k_MD_acts_50 (pc2 := 51) (lv2 := [(0, .ref y), (1, .int u), (2, .int w)]) (st2 := [.int 1]) rfl ?_
          refine wk_goto C d_MD_acts_51 (tgt := 55) (by decide) ?_
          exact wk_zret C rfl ⟨0, 1, vc (V) 0 0, by clear C hM hnm; grind [sp_acts], rfl, hM⟩ (by decide) (by decide) d_MD_acts_55
        ·
          refine wk_run C k_MD_acts_36 (pc2 := 37) (lv2 := [(0, .ref y), (1, .int u), (2, .int w)]) (st2 := [.ref y]) rfl ?_
          refine wk_get (v := .ref (A 6)) C fd_MD_26 hM.ob rfl d_MD_acts_37 ?_
          refine wk_run C k_MD_acts_40 (pc2 := 46) (lv2 := [(0, .ref y), (1, .int u), (2, .int w)]) (st2 := [.int ((41 * u) + w), .ref (A 6)]) rfl ?_
          refine wm_ldz C hM 6 (j := 41 * nu u + nu w) rfl (nx_ (k := 41) (m := 40) (n := 40) (N := 1681) (ok_r c1.1 c1.2 hU (by decide)) (ok_r c3.1 c3.2 hU (by decide)) (by decide) (by decide)).1 (nx_ (k := 41) (m := 40) (n := 40) (N := 1681) (ok_r c1.1 c1.2 hU (by decide)) (ok_r c3.1 c3.2 hU (by decide)) (by decide) (by decide)).2 d_MD_acts_46 ?_
          show Wk _ _ _ _ _ _ _ _ _ _ _ _ _ _ _ _ _ _ _ (.int (V 6 (41 * nu u + nu w)) :: _)
          refine wk_br C d_MD_acts_47 (P := (V 6 (41 * nu u + nu w)) = 0) (tgt := 54) (rest := []) rfl (by decide) (fun c6 => ?_) (fun c6 => ?_)
          ·
            refine wk_run C k_MD_acts_54 (pc2 := 55) (lv2 := [(0, .ref y), (1, .int u), (2, .int w)]) (st2 := [.int 0]) rfl ?_
            exact wk_zret C rfl ⟨0, 0, vc (V) 0 0, by clear C hM hnm; grind [sp_acts], rfl, hM⟩ (by decide) (by decide) d_MD_acts_55
          ·
            refine wk_run C k_MD_acts_50 (pc2 := 51) (lv2 := [(0, .ref y), (1, .int u), (2, .int w)]) (st2 := [.int 1]) rfl ?_
            refine wk_goto C d_MD_acts_51 (tgt := 55) (by decide) ?_
            exact wk_zret C rfl ⟨0, 1, vc (V) 0 0, by clear C hM hnm; grind [sp_acts], rfl, hM⟩ (by decide) (by decide) d_MD_acts_55
      ·
        exact absurd (by decide) c4
    ·
      replace c3 := bz_ (Classical.not_not.mp c3)
      refine wk_run C k_MD_acts_17 (pc2 := 18) (lv2 := [(0, .ref y), (1, .int u), (2, .int w)]) (st2 := [.int 1, .ref y]) rfl ?_
      refine wk_goto C d_MD_acts_18 (tgt := 22) (by decide) ?_
      refine wk_run C k_MD_acts_22 (pc2 := 23) (lv2 := [(0, .ref y), (1, .int u), (2, .int w)]) (st2 := [.int 0, .int 1, .ref y]) rfl ?_
      refine wk_callV (cl := ("ProfileRightsModel", T_MD, 27)) (rest := []) C (c_MD_f1 l D HB h h0 y A (V) hM) cs_MD_88 kc_MD_fails ki_MD hM.ob rfl rfl rfl (Nat.le_of_ble_eq_true rfl) (Nat.le_of_ble_eq_true rfl) (Nat.le_of_ble_eq_true rfl) (Nat.le_of_ble_eq_true rfl) (Nat.le_of_ble_eq_true rfl) d_MD_acts_23 (fun v h hq => ?_) (fun _ _ z => nomatch z.1)
      obtain ⟨e1, hM⟩ := hq; cases e1
      refine wk_br C d_MD_acts_26 (P := 1 = 0) (tgt := 31) (rest := []) rfl (by decide) (fun c7 => ?_) (fun c7 => ?_)
      ·
        exact absurd c7 (by decide)
      ·
        refine wk_run C k_MD_acts_29 (pc2 := 30) (lv2 := [(0, .ref y), (1, .int u), (2, .int w)]) (st2 := [.int 0]) rfl ?_
        exact wk_zret C rfl ⟨1, 0, vc (V) 0 1, by clear C hM hnm; grind [sp_acts], rfl, hM⟩ (by decide) (by decide) d_MD_acts_30
theorem k_MD_surrogate_0 : px_dec prog_9_method_17_code [.aload_n 0, .aload_n 0, .iload_n 1] 0 = true := by decide +kernel
theorem d_MD_surrogate_3 : decode prog_9_method_17_code 3 = .ok (.invokevirtual 92, 3) := by decide +kernel
theorem d_MD_surrogate_6 : decode prog_9_method_17_code 6 = .ok (.ifCond .eq 11, 3) := by decide +kernel
theorem k_MD_surrogate_17 : px_dec prog_9_method_17_code [.iconst 1] 17 = true := by decide +kernel
theorem d_MD_surrogate_18 : decode prog_9_method_17_code 18 = .ok (.goto 4, 3) := by decide +kernel
theorem k_MD_surrogate_22 : px_dec prog_9_method_17_code [.iconst 0] 22 = true := by decide +kernel
theorem d_MD_surrogate_23 : decode prog_9_method_17_code 23 = .ok (.invokevirtual 88, 3) := by decide +kernel
theorem d_MD_surrogate_26 : decode prog_9_method_17_code 26 = .ok (.ifCond .eq 5, 3) := by decide +kernel
theorem k_MD_surrogate_29 : px_dec prog_9_method_17_code [.iconst 0] 29 = true := by decide +kernel
theorem d_MD_surrogate_30 : decode prog_9_method_17_code 30 = .ok (.ireturn, 1) := by decide +kernel
theorem k_MD_surrogate_9 : px_dec prog_9_method_17_code [.aload_n 0, .iload_n 2] 9 = true := by decide +kernel
theorem d_MD_surrogate_11 : decode prog_9_method_17_code 11 = .ok (.invokevirtual 92, 3) := by decide +kernel
theorem d_MD_surrogate_14 : decode prog_9_method_17_code 14 = .ok (.ifCond .ne 7, 3) := by decide +kernel
theorem k_MD_surrogate_21 : px_dec prog_9_method_17_code [.iconst 0, .iconst 0] 21 = true := by decide +kernel
theorem k_MD_surrogate_31 : px_dec prog_9_method_17_code [.iload_n 1, .iload_n 2] 31 = true := by decide +kernel
theorem d_MD_surrogate_33 : decode prog_9_method_17_code 33 = .ok (.if_icmp .eq 18, 3) := by decide +kernel
theorem k_MD_surrogate_51 : px_dec prog_9_method_17_code [.iconst 0] 51 = true := by decide +kernel
theorem d_MD_surrogate_52 : decode prog_9_method_17_code 52 = .ok (.ireturn, 1) := by decide +kernel
theorem k_MD_surrogate_36 : px_dec prog_9_method_17_code [.aload_n 0] 36 = true := by decide +kernel
theorem d_MD_surrogate_37 : decode prog_9_method_17_code 37 = .ok (.getfield 26, 3) := by decide +kernel
theorem k_MD_surrogate_40 : px_dec prog_9_method_17_code [.bipush 41, .iload_n 1, .imul, .iload_n 2, .iadd] 40 = true := by decide +kernel
theorem d_MD_surrogate_46 : decode prog_9_method_17_code 46 = .ok (.baload, 1) := by decide +kernel
theorem k_MD_surrogate_47 : px_dec prog_9_method_17_code [.iload_n 3] 47 = true := by decide +kernel
theorem d_MD_surrogate_48 : decode prog_9_method_17_code 48 = .ok (.if_icmp .ne 5, 3) := by decide +kernel
theorem k_MD_surrogate_53 : px_dec prog_9_method_17_code [.aload_n 0] 53 = true := by decide +kernel
theorem d_MD_surrogate_54 : decode prog_9_method_17_code 54 = .ok (.getfield 26, 3) := by decide +kernel
theorem k_MD_surrogate_57 : px_dec prog_9_method_17_code [.bipush 41, .iload_n 1, .imul, .iload_n 2, .iadd, .iload_n 3] 57 = true := by decide +kernel
theorem d_MD_surrogate_64 : decode prog_9_method_17_code 64 = .ok (.bastore, 1) := by decide +kernel
theorem k_MD_surrogate_65 : px_dec prog_9_method_17_code [.iconst 1] 65 = true := by decide +kernel
theorem d_MD_surrogate_66 : decode prog_9_method_17_code 66 = .ok (.ireturn, 1) := by decide +kernel
set_option maxRecDepth 100000 in
set_option maxHeartbeats 4000000 in
theorem c_MD_surrogate (l : Launch) (D : va_G) (HB : Heap) (h : hp_T) (h0 : hp_T) (y : Nat) (A : Nat → Nat) (V : vT) (u : Int32) (w : Int32) (b : Int32) (hU : ok_ (V 8 0) 40) (hb : b = 0 ∨ b = 1) (hM : mq D h0 h y A V) : ct_M l y_MD_surrogate (.code y_MD_surrogate prog_9_method_17_code 4 (Option.some Jvm.ClassFile.FieldType.int)) ({ frames := 1, cells := 0, slots := 0, locals := 30 }) D HB [.ref y, .int u, .int w, .int b] h (fun o h2 => ∃ (cd r : Int32) (V2 : vT), sp_surrogate V u w b = (cd, r, V2) ∧ o = .inl (some (.int r)) ∧ mq D h0 h2 y A V2) := by
  refine ct_of (by decide) (Nat.le_of_ble_eq_true rfl) rfl ?_
  intro p_ e_ s_ m_ r_ b_ t_ c_ C hnm
  refine wk_run C k_MD_surrogate_0 (pc2 := 3) (lv2 := [(0, .ref y), (1, .int u), (2, .int w), (3, .int b)]) (st2 := [.int u, .ref y, .ref y]) rfl ?_
  refine wk_callV (cl := ("ProfileRightsModel", T_MD, 27)) (rest := [.ref y]) C (c_MD_isUser l D HB h h0 y A (V) u hM) cs_MD_92 kc_MD_isUser ki_MD hM.ob rfl rfl rfl (Nat.le_of_ble_eq_true rfl) (Nat.le_of_ble_eq_true rfl) (Nat.le_of_ble_eq_true rfl) (Nat.le_of_ble_eq_true rfl) (Nat.le_of_ble_eq_true rfl) d_MD_surrogate_3 (fun v h2 hq => ?_) (fun _ _ z => nomatch z.1)
  obtain ⟨e1, e2⟩ := hq; cases e1; replace e2 := e2.symm; subst e2
  show Wk _ _ _ _ _ _ _ _ _ _ _ _ _ _ _ _ _ _ _ (.int (if ¬ u < 1 ∧ u ≤ V 8 0 then (1 : Int32) else 0) :: _)
  refine wk_br C d_MD_surrogate_6 (P := (if ¬ u < 1 ∧ u ≤ V 8 0 then (1 : Int32) else 0) = 0) (tgt := 17) (rest := [.ref y]) rfl (by decide) (fun c1 => ?_) (fun c1 => ?_)
  ·
    replace c1 := bz_ c1
    refine wk_run C k_MD_surrogate_17 (pc2 := 18) (lv2 := [(0, .ref y), (1, .int u), (2, .int w), (3, .int b)]) (st2 := [.int 1, .ref y]) rfl ?_
    refine wk_goto C d_MD_surrogate_18 (tgt := 22) (by decide) ?_
    refine wk_run C k_MD_surrogate_22 (pc2 := 23) (lv2 := [(0, .ref y), (1, .int u), (2, .int w), (3, .int b)]) (st2 := [.int 0, .int 1, .ref y]) rfl ?_
    refine wk_callV (cl := ("ProfileRightsModel", T_MD, 27)) (rest := []) C (c_MD_f1 l D HB h h0 y A (V) hM) cs_MD_88 kc_MD_fails ki_MD hM.ob rfl rfl rfl (Nat.le_of_ble_eq_true rfl) (Nat.le_of_ble_eq_true rfl) (Nat.le_of_ble_eq_true rfl) (Nat.le_of_ble_eq_true rfl) (Nat.le_of_ble_eq_true rfl) d_MD_surrogate_23 (fun v h hq => ?_) (fun _ _ z => nomatch z.1)
    obtain ⟨e1, hM⟩ := hq; cases e1
    refine wk_br C d_MD_surrogate_26 (P := 1 = 0) (tgt := 31) (rest := []) rfl (by decide) (fun c2 => ?_) (fun c2 => ?_)
    ·
      exact absurd c2 (by decide)
    ·
      refine wk_run C k_MD_surrogate_29 (pc2 := 30) (lv2 := [(0, .ref y), (1, .int u), (2, .int w), (3, .int b)]) (st2 := [.int 0]) rfl ?_
      exact wk_iret C ⟨1, 0, vc (V) 0 1, by clear C hM hnm; grind [sp_surrogate], rfl, hM⟩ (by decide) (by decide) d_MD_surrogate_30
  ·
    replace c1 := bn_ c1
    refine wk_run C k_MD_surrogate_9 (pc2 := 11) (lv2 := [(0, .ref y), (1, .int u), (2, .int w), (3, .int b)]) (st2 := [.int w, .ref y, .ref y]) rfl ?_
    refine wk_callV (cl := ("ProfileRightsModel", T_MD, 27)) (rest := [.ref y]) C (c_MD_isUser l D HB h h0 y A (V) w hM) cs_MD_92 kc_MD_isUser ki_MD hM.ob rfl rfl rfl (Nat.le_of_ble_eq_true rfl) (Nat.le_of_ble_eq_true rfl) (Nat.le_of_ble_eq_true rfl) (Nat.le_of_ble_eq_true rfl) (Nat.le_of_ble_eq_true rfl) d_MD_surrogate_11 (fun v h2 hq => ?_) (fun _ _ z => nomatch z.1)
    obtain ⟨e1, e2⟩ := hq; cases e1; replace e2 := e2.symm; subst e2
    show Wk _ _ _ _ _ _ _ _ _ _ _ _ _ _ _ _ _ _ _ (.int (if ¬ w < 1 ∧ w ≤ V 8 0 then (1 : Int32) else 0) :: _)
    refine wk_br C d_MD_surrogate_14 (P := ¬ (if ¬ w < 1 ∧ w ≤ V 8 0 then (1 : Int32) else 0) = 0) (tgt := 21) (rest := [.ref y]) rfl (by decide) (fun c3 => ?_) (fun c3 => ?_)
    ·
      replace c3 := bn_ c3
      refine wk_run C k_MD_surrogate_21 (pc2 := 23) (lv2 := [(0, .ref y), (1, .int u), (2, .int w), (3, .int b)]) (st2 := [.int 0, .int 0, .ref y]) rfl ?_
      refine wk_callV (cl := ("ProfileRightsModel", T_MD, 27)) (rest := []) C (c_MD_f0 l D HB h h0 y A (V) hM) cs_MD_88 kc_MD_fails ki_MD hM.ob rfl rfl rfl (Nat.le_of_ble_eq_true rfl) (Nat.le_of_ble_eq_true rfl) (Nat.le_of_ble_eq_true rfl) (Nat.le_of_ble_eq_true rfl) (Nat.le_of_ble_eq_true rfl) d_MD_surrogate_23 (fun v h hq => ?_) (fun _ _ z => nomatch z.1)
      obtain ⟨e1, hM⟩ := hq; cases e1
      refine wk_br C d_MD_surrogate_26 (P := 0 = 0) (tgt := 31) (rest := []) rfl (by decide) (fun c4 => ?_) (fun c4 => ?_)
      ·
        refine wk_run C k_MD_surrogate_31 (pc2 := 33) (lv2 := [(0, .ref y), (1, .int u), (2, .int w), (3, .int b)]) (st2 := [.int w, .int u]) rfl ?_
        refine wk_br C d_MD_surrogate_33 (P := u = w) (tgt := 51) (rest := []) rfl (by decide) (fun c5 => ?_) (fun c5 => ?_)
        ·
          refine wk_run C k_MD_surrogate_51 (pc2 := 52) (lv2 := [(0, .ref y), (1, .int u), (2, .int w), (3, .int b)]) (st2 := [.int 0]) rfl ?_
          exact wk_iret C ⟨0, 0, vc (V) 0 0, by clear C hM hnm; grind [sp_surrogate], rfl, hM⟩ (by decide) (by decide) d_MD_surrogate_52
        ·
          refine wk_run C k_MD_surrogate_36 (pc2 := 37) (lv2 := [(0, .ref y), (1, .int u), (2, .int w), (3, .int b)]) (st2 := [.ref y]) rfl ?_
          refine wk_get (v := .ref (A 6)) C fd_MD_26 hM.ob rfl d_MD_surrogate_37 ?_
          refine wk_run C k_MD_surrogate_40 (pc2 := 46) (lv2 := [(0, .ref y), (1, .int u), (2, .int w), (3, .int b)]) (st2 := [.int ((41 * u) + w), .ref (A 6)]) rfl ?_
          refine wm_ldz C hM 6 (j := 41 * nu u + nu w) rfl (nx_ (k := 41) (m := 40) (n := 40) (N := 1681) (ok_r c1.1 c1.2 hU (by decide)) (ok_r c3.1 c3.2 hU (by decide)) (by decide) (by decide)).1 (nx_ (k := 41) (m := 40) (n := 40) (N := 1681) (ok_r c1.1 c1.2 hU (by decide)) (ok_r c3.1 c3.2 hU (by decide)) (by decide) (by decide)).2 d_MD_surrogate_46 ?_
          show Wk _ _ _ _ _ _ _ _ _ _ _ _ _ _ _ _ _ _ _ (.int (V 6 (41 * nu u + nu w)) :: _)
          refine wk_run C k_MD_surrogate_47 (pc2 := 48) (lv2 := [(0, .ref y), (1, .int u), (2, .int w), (3, .int b)]) (st2 := [.int b, .int (V 6 (41 * nu u + nu w))]) rfl ?_
          refine wk_br C d_MD_surrogate_48 (P := ¬ (V 6 (41 * nu u + nu w)) = b) (tgt := 53) (rest := []) rfl (by decide) (fun c6 => ?_) (fun c6 => ?_)
          ·
            refine wk_run C k_MD_surrogate_53 (pc2 := 54) (lv2 := [(0, .ref y), (1, .int u), (2, .int w), (3, .int b)]) (st2 := [.ref y]) rfl ?_
            refine wk_get (v := .ref (A 6)) C fd_MD_26 hM.ob rfl d_MD_surrogate_54 ?_
            refine wk_run C k_MD_surrogate_57 (pc2 := 64) (lv2 := [(0, .ref y), (1, .int u), (2, .int w), (3, .int b)]) (st2 := [.int b, .int ((41 * u) + w), .ref (A 6)]) rfl ?_
            refine wm_stz C hM 6 (j := (41 * nu u + nu w)) rfl (nx_ (k := 41) (m := 40) (n := 40) (N := 1681) (ok_r c1.1 c1.2 hU (by decide)) (ok_r c3.1 c3.2 hU (by decide)) (by decide) (by decide)).1 (nx_ (k := 41) (m := 40) (n := 40) (N := 1681) (ok_r c1.1 c1.2 hU (by decide)) (ok_r c3.1 c3.2 hU (by decide)) (by decide) (by decide)).2 (vn_z hb) d_MD_surrogate_64 (fun h (hM : mq D h0 h y A (vs (vc (V) 0 0) 6 (upd (V 6) (41 * nu u + nu w) b))) => ?_)
            refine wk_run C k_MD_surrogate_65 (pc2 := 66) (lv2 := [(0, .ref y), (1, .int u), (2, .int w), (3, .int b)]) (st2 := [.int 1]) rfl ?_
            exact wk_iret C ⟨0, 1, vs (vc (V) 0 0) 6 (upd (V 6) (41 * nu u + nu w) b), by clear C hM hnm; grind [sp_surrogate], rfl, hM⟩ (by decide) (by decide) d_MD_surrogate_66
          ·
            refine wk_run C k_MD_surrogate_51 (pc2 := 52) (lv2 := [(0, .ref y), (1, .int u), (2, .int w), (3, .int b)]) (st2 := [.int 0]) rfl ?_
            exact wk_iret C ⟨0, 0, vc (V) 0 0, by clear C hM hnm; grind [sp_surrogate], rfl, hM⟩ (by decide) (by decide) d_MD_surrogate_52
      ·
        exact absurd (by decide) c4
    ·
      replace c3 := bz_ (Classical.not_not.mp c3)
      refine wk_run C k_MD_surrogate_17 (pc2 := 18) (lv2 := [(0, .ref y), (1, .int u), (2, .int w), (3, .int b)]) (st2 := [.int 1, .ref y]) rfl ?_
      refine wk_goto C d_MD_surrogate_18 (tgt := 22) (by decide) ?_
      refine wk_run C k_MD_surrogate_22 (pc2 := 23) (lv2 := [(0, .ref y), (1, .int u), (2, .int w), (3, .int b)]) (st2 := [.int 0, .int 1, .ref y]) rfl ?_
      refine wk_callV (cl := ("ProfileRightsModel", T_MD, 27)) (rest := []) C (c_MD_f1 l D HB h h0 y A (V) hM) cs_MD_88 kc_MD_fails ki_MD hM.ob rfl rfl rfl (Nat.le_of_ble_eq_true rfl) (Nat.le_of_ble_eq_true rfl) (Nat.le_of_ble_eq_true rfl) (Nat.le_of_ble_eq_true rfl) (Nat.le_of_ble_eq_true rfl) d_MD_surrogate_23 (fun v h hq => ?_) (fun _ _ z => nomatch z.1)
      obtain ⟨e1, hM⟩ := hq; cases e1
      refine wk_br C d_MD_surrogate_26 (P := 1 = 0) (tgt := 31) (rest := []) rfl (by decide) (fun c7 => ?_) (fun c7 => ?_)
      ·
        exact absurd c7 (by decide)
      ·
        refine wk_run C k_MD_surrogate_29 (pc2 := 30) (lv2 := [(0, .ref y), (1, .int u), (2, .int w), (3, .int b)]) (st2 := [.int 0]) rfl ?_
        exact wk_iret C ⟨1, 0, vc (V) 0 1, by clear C hM hnm; grind [sp_surrogate], rfl, hM⟩ (by decide) (by decide) d_MD_surrogate_30
theorem k_MD_name_0 : px_dec prog_9_method_20_code [.aload_n 0, .iload_n 1] 0 = true := by decide +kernel
theorem d_MD_name_2 : decode prog_9_method_20_code 2 = .ok (.invokevirtual 101, 3) := by decide +kernel
theorem d_MD_name_5 : decode prog_9_method_20_code 5 = .ok (.ifCond .eq 10, 3) := by decide +kernel
theorem k_MD_name_15 : px_dec prog_9_method_20_code [.iconst 1] 15 = true := by decide +kernel
theorem d_MD_name_16 : decode prog_9_method_20_code 16 = .ok (.goto 4, 3) := by decide +kernel
theorem k_MD_name_20 : px_dec prog_9_method_20_code [.istore_n 3, .aload_n 0, .iload_n 3, .iload_n 3] 20 = true := by decide +kernel
theorem d_MD_name_24 : decode prog_9_method_20_code 24 = .ok (.ifCond .ne 18, 3) := by decide +kernel
theorem k_MD_name_42 : px_dec prog_9_method_20_code [.iconst 0] 42 = true := by decide +kernel
theorem d_MD_name_43 : decode prog_9_method_20_code 43 = .ok (.invokevirtual 88, 3) := by decide +kernel
theorem d_MD_name_46 : decode prog_9_method_20_code 46 = .ok (.ifCond .eq 5, 3) := by decide +kernel
theorem k_MD_name_49 : px_dec prog_9_method_20_code [.iconst 0] 49 = true := by decide +kernel
theorem d_MD_name_50 : decode prog_9_method_20_code 50 = .ok (.ireturn, 1) := by decide +kernel
theorem k_MD_name_8 : px_dec prog_9_method_20_code [.iload_n 2] 8 = true := by decide +kernel
theorem d_MD_name_9 : decode prog_9_method_20_code 9 = .ok (.invokestatic 104, 3) := by decide +kernel
theorem d_MD_name_12 : decode prog_9_method_20_code 12 = .ok (.ifCond .ne 7, 3) := by decide +kernel
theorem k_MD_name_19 : px_dec prog_9_method_20_code [.iconst 0, .istore_n 3, .aload_n 0, .iload_n 3, .iload_n 3] 19 = true := by decide +kernel
theorem k_MD_name_27 : px_dec prog_9_method_20_code [.aload_n 0] 27 = true := by decide +kernel
theorem d_MD_name_28 : decode prog_9_method_20_code 28 = .ok (.getfield 38, 3) := by decide +kernel
theorem k_MD_name_31 : px_dec prog_9_method_20_code [.iload_n 1] 31 = true := by decide +kernel
theorem d_MD_name_32 : decode prog_9_method_20_code 32 = .ok (.iaload, 1) := by decide +kernel
theorem k_MD_name_33 : px_dec prog_9_method_20_code [.bipush 20] 33 = true := by decide +kernel
theorem d_MD_name_35 : decode prog_9_method_20_code 35 = .ok (.if_icmp .ne 7, 3) := by decide +kernel
theorem k_MD_name_51 : px_dec prog_9_method_20_code [.aload_n 0] 51 = true := by decide +kernel
theorem d_MD_name_52 : decode prog_9_method_20_code 52 = .ok (.getfield 35, 3) := by decide +kernel
theorem k_MD_name_55 : px_dec prog_9_method_20_code [.bipush 20, .iload_n 1, .imul, .aload_n 0] 55 = true := by decide +kernel
theorem d_MD_name_60 : decode prog_9_method_20_code 60 = .ok (.getfield 38, 3) := by decide +kernel
theorem k_MD_name_63 : px_dec prog_9_method_20_code [.iload_n 1] 63 = true := by decide +kernel
theorem d_MD_name_64 : decode prog_9_method_20_code 64 = .ok (.iaload, 1) := by decide +kernel
theorem k_MD_name_65 : px_dec prog_9_method_20_code [.iadd, .iload_n 2] 65 = true := by decide +kernel
theorem d_MD_name_67 : decode prog_9_method_20_code 67 = .ok (.iastore, 1) := by decide +kernel
theorem k_MD_name_68 : px_dec prog_9_method_20_code [.aload_n 0] 68 = true := by decide +kernel
theorem d_MD_name_69 : decode prog_9_method_20_code 69 = .ok (.getfield 38, 3) := by decide +kernel
theorem k_MD_name_72 : px_dec prog_9_method_20_code [.iload_n 1, .dup2] 72 = true := by decide +kernel
theorem d_MD_name_74 : decode prog_9_method_20_code 74 = .ok (.iaload, 1) := by decide +kernel
theorem k_MD_name_75 : px_dec prog_9_method_20_code [.iconst 1, .iadd] 75 = true := by decide +kernel
theorem d_MD_name_77 : decode prog_9_method_20_code 77 = .ok (.iastore, 1) := by decide +kernel
theorem k_MD_name_78 : px_dec prog_9_method_20_code [.aload_n 0] 78 = true := by decide +kernel
theorem d_MD_name_79 : decode prog_9_method_20_code 79 = .ok (.getfield 38, 3) := by decide +kernel
theorem k_MD_name_82 : px_dec prog_9_method_20_code [.iload_n 1] 82 = true := by decide +kernel
theorem d_MD_name_83 : decode prog_9_method_20_code 83 = .ok (.iaload, 1) := by decide +kernel
theorem d_MD_name_84 : decode prog_9_method_20_code 84 = .ok (.ireturn, 1) := by decide +kernel
theorem k_MD_name_38 : px_dec prog_9_method_20_code [.iconst 1] 38 = true := by decide +kernel
theorem d_MD_name_39 : decode prog_9_method_20_code 39 = .ok (.goto 4, 3) := by decide +kernel
set_option maxRecDepth 100000 in
set_option maxHeartbeats 4000000 in
theorem c_MD_name (l : Launch) (D : va_G) (HB : Heap) (h : hp_T) (h0 : hp_T) (y : Nat) (A : Nat → Nat) (V : vT) (p : Int32) (c : Int32) (hP : ok_ (V 9 0) 60) (hL : ok_ (V 13 (nu p)) 20) (hM : mq D h0 h y A V) : ct_M l y_MD_name (.code y_MD_name prog_9_method_20_code 4 (Option.some Jvm.ClassFile.FieldType.int)) ({ frames := 1, cells := 0, slots := 0, locals := 30 }) D HB [.ref y, .int p, .int c] h (fun o h2 => ∃ (cd r : Int32) (V2 : vT), sp_name V p c = (cd, r, V2) ∧ o = .inl (some (.int r)) ∧ mq D h0 h2 y A V2) := by
  refine ct_of (by decide) (Nat.le_of_ble_eq_true rfl) rfl ?_
  intro p_ e_ s_ m_ r_ b_ t_ c_ C hnm
  refine wk_run C k_MD_name_0 (pc2 := 2) (lv2 := [(0, .ref y), (1, .int p), (2, .int c)]) (st2 := [.int p, .ref y]) rfl ?_
  refine wk_callV (cl := ("ProfileRightsModel", T_MD, 27)) (rest := []) C (c_MD_isProfile l D HB h h0 y A (V) p hM) cs_MD_101 kc_MD_isProfile ki_MD hM.ob rfl rfl rfl (Nat.le_of_ble_eq_true rfl) (Nat.le_of_ble_eq_true rfl) (Nat.le_of_ble_eq_true rfl) (Nat.le_of_ble_eq_true rfl) (Nat.le_of_ble_eq_true rfl) d_MD_name_2 (fun v h2 hq => ?_) (fun _ _ z => nomatch z.1)
  obtain ⟨e1, e2⟩ := hq; cases e1; replace e2 := e2.symm; subst e2
  show Wk _ _ _ _ _ _ _ _ _ _ _ _ _ _ _ _ _ _ _ (.int (if ¬ p < 1 ∧ p ≤ V 9 0 then (1 : Int32) else 0) :: _)
  refine wk_br C d_MD_name_5 (P := (if ¬ p < 1 ∧ p ≤ V 9 0 then (1 : Int32) else 0) = 0) (tgt := 15) (rest := []) rfl (by decide) (fun c1 => ?_) (fun c1 => ?_)
  ·
    replace c1 := bz_ c1
    refine wk_run C k_MD_name_15 (pc2 := 16) (lv2 := [(0, .ref y), (1, .int p), (2, .int c)]) (st2 := [.int 1]) rfl ?_
    refine wk_goto C d_MD_name_16 (tgt := 20) (by decide) ?_
    refine wk_run C k_MD_name_20 (pc2 := 24) (lv2 := [(3, .int 1), (0, .ref y), (1, .int p), (2, .int c)]) (st2 := [.int 1, .int 1, .ref y]) rfl ?_
    refine wk_br C d_MD_name_24 (P := ¬ 1 = 0) (tgt := 42) (rest := [.int 1, .ref y]) rfl (by decide) (fun c2 => ?_) (fun c2 => ?_)
    ·
      refine wk_run C k_MD_name_42 (pc2 := 43) (lv2 := [(3, .int 1), (0, .ref y), (1, .int p), (2, .int c)]) (st2 := [.int 0, .int 1, .ref y]) rfl ?_
      refine wk_callV (cl := ("ProfileRightsModel", T_MD, 27)) (rest := []) C (c_MD_f1 l D HB h h0 y A (V) hM) cs_MD_88 kc_MD_fails ki_MD hM.ob rfl rfl rfl (Nat.le_of_ble_eq_true rfl) (Nat.le_of_ble_eq_true rfl) (Nat.le_of_ble_eq_true rfl) (Nat.le_of_ble_eq_true rfl) (Nat.le_of_ble_eq_true rfl) d_MD_name_43 (fun v h hq => ?_) (fun _ _ z => nomatch z.1)
      obtain ⟨e1, hM⟩ := hq; cases e1
      refine wk_br C d_MD_name_46 (P := 1 = 0) (tgt := 51) (rest := []) rfl (by decide) (fun c3 => ?_) (fun c3 => ?_)
      ·
        exact absurd c3 (by decide)
      ·
        refine wk_run C k_MD_name_49 (pc2 := 50) (lv2 := [(3, .int 1), (0, .ref y), (1, .int p), (2, .int c)]) (st2 := [.int 0]) rfl ?_
        exact wk_iret C ⟨1, 0, vc (V) 0 1, by clear C hM hnm; grind [sp_name, upd_s], rfl, hM⟩ (by decide) (by decide) d_MD_name_50
    ·
      exact absurd (by decide) c2
  ·
    replace c1 := bn_ c1
    refine wk_run C k_MD_name_8 (pc2 := 9) (lv2 := [(0, .ref y), (1, .int p), (2, .int c)]) (st2 := [.int c]) rfl ?_
    refine wk_callS (rest := []) C (c_MD_isSign l D HB h c) cs_MD_104 kc_MD_isSign ki_MD rfl rfl (Nat.le_of_ble_eq_true rfl) (Nat.le_of_ble_eq_true rfl) (Nat.le_of_ble_eq_true rfl) (Nat.le_of_ble_eq_true rfl) (Nat.le_of_ble_eq_true rfl) d_MD_name_9 (fun v h2 hq => ?_) (fun _ _ z => nomatch z.1)
    obtain ⟨e1, e2⟩ := hq; cases e1; replace e2 := e2.symm; subst e2
    refine wk_br C d_MD_name_12 (P := ¬ (if ¬ c < 33 ∧ ¬ 126 < c then (1 : Int32) else 0) = 0) (tgt := 19) (rest := []) rfl (by decide) (fun c4 => ?_) (fun c4 => ?_)
    ·
      replace c4 := bn_ c4
      refine wk_run C k_MD_name_19 (pc2 := 24) (lv2 := [(3, .int 0), (0, .ref y), (1, .int p), (2, .int c)]) (st2 := [.int 0, .int 0, .ref y]) rfl ?_
      refine wk_br C d_MD_name_24 (P := ¬ 0 = 0) (tgt := 42) (rest := [.int 0, .ref y]) rfl (by decide) (fun c5 => ?_) (fun c5 => ?_)
      ·
        exact absurd c5 (by decide)
      ·
        refine wk_run C k_MD_name_27 (pc2 := 28) (lv2 := [(3, .int 0), (0, .ref y), (1, .int p), (2, .int c)]) (st2 := [.ref y, .int 0, .ref y]) rfl ?_
        refine wk_get (v := .ref (A 13)) C fd_MD_38 hM.ob rfl d_MD_name_28 ?_
        refine wk_run C k_MD_name_31 (pc2 := 32) (lv2 := [(3, .int 0), (0, .ref y), (1, .int p), (2, .int c)]) (st2 := [.int p, .ref (A 13), .int 0, .ref y]) rfl ?_
        refine wm_ld C hM 13 (j := nu p) rfl (vi_ c1.1 c1.2 hP (by decide) (by decide)) rfl d_MD_name_32 ?_
        show Wk _ _ _ _ _ _ _ _ _ _ _ _ _ _ _ _ _ _ _ (.int (V 13 (nu p)) :: _)
        refine wk_run C k_MD_name_33 (pc2 := 35) (lv2 := [(3, .int 0), (0, .ref y), (1, .int p), (2, .int c)]) (st2 := [.int 20, .int (V 13 (nu p)), .int 0, .ref y]) rfl ?_
        refine wk_br C d_MD_name_35 (P := ¬ (V 13 (nu p)) = 20) (tgt := 42) (rest := [.int 0, .ref y]) rfl (by decide) (fun c6 => ?_) (fun c6 => ?_)
        ·
          refine wk_run C k_MD_name_42 (pc2 := 43) (lv2 := [(3, .int 0), (0, .ref y), (1, .int p), (2, .int c)]) (st2 := [.int 0, .int 0, .ref y]) rfl ?_
          refine wk_callV (cl := ("ProfileRightsModel", T_MD, 27)) (rest := []) C (c_MD_f0 l D HB h h0 y A (V) hM) cs_MD_88 kc_MD_fails ki_MD hM.ob rfl rfl rfl (Nat.le_of_ble_eq_true rfl) (Nat.le_of_ble_eq_true rfl) (Nat.le_of_ble_eq_true rfl) (Nat.le_of_ble_eq_true rfl) (Nat.le_of_ble_eq_true rfl) d_MD_name_43 (fun v h hq => ?_) (fun _ _ z => nomatch z.1)
          obtain ⟨e1, hM⟩ := hq; cases e1
          refine wk_br C d_MD_name_46 (P := 0 = 0) (tgt := 51) (rest := []) rfl (by decide) (fun c7 => ?_) (fun c7 => ?_)
          ·
            refine wk_run C k_MD_name_51 (pc2 := 52) (lv2 := [(3, .int 0), (0, .ref y), (1, .int p), (2, .int c)]) (st2 := [.ref y]) rfl ?_
            refine wk_get (v := .ref (A 12)) C fd_MD_35 hM.ob rfl d_MD_name_52 ?_
            refine wk_run C k_MD_name_55 (pc2 := 60) (lv2 := [(3, .int 0), (0, .ref y), (1, .int p), (2, .int c)]) (st2 := [.ref y, .int (20 * p), .ref (A 12)]) rfl ?_
            refine wk_get (v := .ref (A 13)) C fd_MD_38 hM.ob rfl d_MD_name_60 ?_
            refine wk_run C k_MD_name_63 (pc2 := 64) (lv2 := [(3, .int 0), (0, .ref y), (1, .int p), (2, .int c)]) (st2 := [.int p, .ref (A 13), .int (20 * p), .ref (A 12)]) rfl ?_
            refine wm_ld C hM 13 (j := nu p) rfl (vi_ c1.1 c1.2 hP (by decide) (by decide)) rfl d_MD_name_64 ?_
            show Wk _ _ _ _ _ _ _ _ _ _ _ _ _ _ _ _ _ _ _ (.int (V 13 (nu p)) :: _)
            refine wk_run C k_MD_name_65 (pc2 := 67) (lv2 := [(3, .int 0), (0, .ref y), (1, .int p), (2, .int c)]) (st2 := [.int c, .int ((20 * p) + (V 13 (nu p))), .ref (A 12)]) rfl ?_
            refine wm_st C hM 12 (j := (20 * nu p + nu (V 13 (nu p)))) rfl (nx_ (k := 20) (m := 60) (n := 19) (N := 1220) (ok_r c1.1 c1.2 hP (by decide)) (ok_ne hL c6) (by decide) (by decide)).1 (nx_ (k := 20) (m := 60) (n := 19) (N := 1220) (ok_r c1.1 c1.2 hP (by decide)) (ok_ne hL c6) (by decide) (by decide)).2 d_MD_name_67 (fun h (hM : mq D h0 h y A (vs (vc (V) 0 0) 12 (upd (V 12) (20 * nu p + nu (V 13 (nu p))) c))) => ?_)
            refine wk_run C k_MD_name_68 (pc2 := 69) (lv2 := [(3, .int 0), (0, .ref y), (1, .int p), (2, .int c)]) (st2 := [.ref y]) rfl ?_
            refine wk_get (v := .ref (A 13)) C fd_MD_38 hM.ob rfl d_MD_name_69 ?_
            refine wk_run C k_MD_name_72 (pc2 := 74) (lv2 := [(3, .int 0), (0, .ref y), (1, .int p), (2, .int c)]) (st2 := [.int p, .ref (A 13), .int p, .ref (A 13)]) rfl ?_
            refine wm_ld C hM 13 (j := nu p) rfl (vi_ c1.1 c1.2 hP (by decide) (by decide)) rfl d_MD_name_74 ?_
            show Wk _ _ _ _ _ _ _ _ _ _ _ _ _ _ _ _ _ _ _ (.int (V 13 (nu p)) :: _)
            refine wk_run C k_MD_name_75 (pc2 := 77) (lv2 := [(3, .int 0), (0, .ref y), (1, .int p), (2, .int c)]) (st2 := [.int ((V 13 (nu p)) + 1), .int p, .ref (A 13)]) rfl ?_
            refine wm_st C hM 13 (j := (nu p)) rfl (vi_ c1.1 c1.2 hP (by decide) (by decide)) rfl d_MD_name_77 (fun h (hM : mq D h0 h y A (vs (vs (vc (V) 0 0) 12 (upd (V 12) (20 * nu p + nu (V 13 (nu p))) c)) 13 (upd (V 13) (nu p) ((V 13 (nu p)) + 1)))) => ?_)
            refine wk_run C k_MD_name_78 (pc2 := 79) (lv2 := [(3, .int 0), (0, .ref y), (1, .int p), (2, .int c)]) (st2 := [.ref y]) rfl ?_
            refine wk_get (v := .ref (A 13)) C fd_MD_38 hM.ob rfl d_MD_name_79 ?_
            refine wk_run C k_MD_name_82 (pc2 := 83) (lv2 := [(3, .int 0), (0, .ref y), (1, .int p), (2, .int c)]) (st2 := [.int p, .ref (A 13)]) rfl ?_
            refine wm_ld C hM 13 (j := nu p) rfl (vi_ c1.1 c1.2 hP (by decide) (by decide)) rfl d_MD_name_83 ?_
            show Wk _ _ _ _ _ _ _ _ _ _ _ _ _ _ _ _ _ _ _ (.int ((upd (V 13) (nu p) ((V 13 (nu p)) + 1)) (nu p)) :: _)
            exact wk_iret C ⟨0, ((upd (V 13) (nu p) ((V 13 (nu p)) + 1)) (nu p)), vs (vs (vc (V) 0 0) 12 (upd (V 12) (20 * nu p + nu (V 13 (nu p))) c)) 13 (upd (V 13) (nu p) ((V 13 (nu p)) + 1)), by clear C hM hnm; grind [sp_name, upd_s], rfl, hM⟩ (by decide) (by decide) d_MD_name_84
          ·
            exact absurd (by decide) c7
        ·
          refine wk_run C k_MD_name_38 (pc2 := 39) (lv2 := [(3, .int 0), (0, .ref y), (1, .int p), (2, .int c)]) (st2 := [.int 1, .int 0, .ref y]) rfl ?_
          refine wk_goto C d_MD_name_39 (tgt := 43) (by decide) ?_
          refine wk_callV (cl := ("ProfileRightsModel", T_MD, 27)) (rest := []) C (c_MD_f2 l D HB h h0 y A (V) hM) cs_MD_88 kc_MD_fails ki_MD hM.ob rfl rfl rfl (Nat.le_of_ble_eq_true rfl) (Nat.le_of_ble_eq_true rfl) (Nat.le_of_ble_eq_true rfl) (Nat.le_of_ble_eq_true rfl) (Nat.le_of_ble_eq_true rfl) d_MD_name_43 (fun v h hq => ?_) (fun _ _ z => nomatch z.1)
          obtain ⟨e1, hM⟩ := hq; cases e1
          refine wk_br C d_MD_name_46 (P := 1 = 0) (tgt := 51) (rest := []) rfl (by decide) (fun c8 => ?_) (fun c8 => ?_)
          ·
            exact absurd c8 (by decide)
          ·
            refine wk_run C k_MD_name_49 (pc2 := 50) (lv2 := [(3, .int 0), (0, .ref y), (1, .int p), (2, .int c)]) (st2 := [.int 0]) rfl ?_
            exact wk_iret C ⟨2, 0, vc (V) 0 2, by clear C hM hnm; grind [sp_name, upd_s], rfl, hM⟩ (by decide) (by decide) d_MD_name_50
    ·
      replace c4 := bz_ (Classical.not_not.mp c4)
      refine wk_run C k_MD_name_15 (pc2 := 16) (lv2 := [(0, .ref y), (1, .int p), (2, .int c)]) (st2 := [.int 1]) rfl ?_
      refine wk_goto C d_MD_name_16 (tgt := 20) (by decide) ?_
      refine wk_run C k_MD_name_20 (pc2 := 24) (lv2 := [(3, .int 1), (0, .ref y), (1, .int p), (2, .int c)]) (st2 := [.int 1, .int 1, .ref y]) rfl ?_
      refine wk_br C d_MD_name_24 (P := ¬ 1 = 0) (tgt := 42) (rest := [.int 1, .ref y]) rfl (by decide) (fun c9 => ?_) (fun c9 => ?_)
      ·
        refine wk_run C k_MD_name_42 (pc2 := 43) (lv2 := [(3, .int 1), (0, .ref y), (1, .int p), (2, .int c)]) (st2 := [.int 0, .int 1, .ref y]) rfl ?_
        refine wk_callV (cl := ("ProfileRightsModel", T_MD, 27)) (rest := []) C (c_MD_f1 l D HB h h0 y A (V) hM) cs_MD_88 kc_MD_fails ki_MD hM.ob rfl rfl rfl (Nat.le_of_ble_eq_true rfl) (Nat.le_of_ble_eq_true rfl) (Nat.le_of_ble_eq_true rfl) (Nat.le_of_ble_eq_true rfl) (Nat.le_of_ble_eq_true rfl) d_MD_name_43 (fun v h hq => ?_) (fun _ _ z => nomatch z.1)
        obtain ⟨e1, hM⟩ := hq; cases e1
        refine wk_br C d_MD_name_46 (P := 1 = 0) (tgt := 51) (rest := []) rfl (by decide) (fun c10 => ?_) (fun c10 => ?_)
        ·
          exact absurd c10 (by decide)
        ·
          refine wk_run C k_MD_name_49 (pc2 := 50) (lv2 := [(3, .int 1), (0, .ref y), (1, .int p), (2, .int c)]) (st2 := [.int 0]) rfl ?_
          exact wk_iret C ⟨1, 0, vc (V) 0 1, by clear C hM hnm; grind [sp_name, upd_s], rfl, hM⟩ (by decide) (by decide) d_MD_name_50
      ·
        exact absurd (by decide) c9
theorem k_MD_who_0 : px_dec prog_9_method_26_code [.aload_n 0, .aload_n 0, .iload_n 1] 0 = true := by decide +kernel
theorem d_MD_who_3 : decode prog_9_method_26_code 3 = .ok (.invokevirtual 101, 3) := by decide +kernel
theorem d_MD_who_6 : decode prog_9_method_26_code 6 = .ok (.ifCond .ne 7, 3) := by decide +kernel
theorem k_MD_who_13 : px_dec prog_9_method_26_code [.iconst 0, .iconst 0] 13 = true := by decide +kernel
theorem d_MD_who_15 : decode prog_9_method_26_code 15 = .ok (.invokevirtual 88, 3) := by decide +kernel
theorem d_MD_who_18 : decode prog_9_method_26_code 18 = .ok (.ifCond .eq 5, 3) := by decide +kernel
theorem k_MD_who_23 : px_dec prog_9_method_26_code [.iload_n 2] 23 = true := by decide +kernel
theorem d_MD_who_24 : decode prog_9_method_26_code 24 = .ok (.ifCond .lt 13, 3) := by decide +kernel
theorem k_MD_who_37 : px_dec prog_9_method_26_code [.iconst 0] 37 = true := by decide +kernel
theorem d_MD_who_38 : decode prog_9_method_26_code 38 = .ok (.goto 14, 3) := by decide +kernel
theorem d_MD_who_52 : decode prog_9_method_26_code 52 = .ok (.ireturn, 1) := by decide +kernel
theorem k_MD_who_27 : px_dec prog_9_method_26_code [.iload_n 2, .aload_n 0] 27 = true := by decide +kernel
theorem d_MD_who_29 : decode prog_9_method_26_code 29 = .ok (.getfield 47, 3) := by decide +kernel
theorem k_MD_who_32 : px_dec prog_9_method_26_code [.iload_n 1] 32 = true := by decide +kernel
theorem d_MD_who_33 : decode prog_9_method_26_code 33 = .ok (.iaload, 1) := by decide +kernel
theorem d_MD_who_34 : decode prog_9_method_26_code 34 = .ok (.if_icmp .lt 7, 3) := by decide +kernel
theorem k_MD_who_41 : px_dec prog_9_method_26_code [.aload_n 0] 41 = true := by decide +kernel
theorem d_MD_who_42 : decode prog_9_method_26_code 42 = .ok (.getfield 50, 3) := by decide +kernel
theorem k_MD_who_45 : px_dec prog_9_method_26_code [.bipush 10, .iload_n 1, .imul, .iload_n 2, .iadd] 45 = true := by decide +kernel
theorem d_MD_who_51 : decode prog_9_method_26_code 51 = .ok (.iaload, 1) := by decide +kernel
theorem k_MD_who_9 : px_dec prog_9_method_26_code [.iconst 1] 9 = true := by decide +kernel
theorem d_MD_who_10 : decode prog_9_method_26_code 10 = .ok (.goto 4, 3) := by decide +kernel
theorem k_MD_who_14 : px_dec prog_9_method_26_code [.iconst 0] 14 = true := by decide +kernel
theorem k_MD_who_21 : px_dec prog_9_method_26_code [.iconst 0] 21 = true := by decide +kernel
theorem d_MD_who_22 : decode prog_9_method_26_code 22 = .ok (.ireturn, 1) := by decide +kernel
set_option maxRecDepth 100000 in
set_option maxHeartbeats 4000000 in
theorem c_MD_who (l : Launch) (D : va_G) (HB : Heap) (h : hp_T) (h0 : hp_T) (y : Nat) (A : Nat → Nat) (V : vT) (p : Int32) (i : Int32) (hP : ok_ (V 9 0) 60) (hE : ok_ (V 16 (nu p)) (9 + 1)) (hM : mq D h0 h y A V) : ct_M l y_MD_who (.code y_MD_who prog_9_method_26_code 3 (Option.some Jvm.ClassFile.FieldType.int)) ({ frames := 1, cells := 0, slots := 0, locals := 30 }) D HB [.ref y, .int p, .int i] h (fun o h2 => ∃ (cd r : Int32) (V2 : vT), sp_who V p i = (cd, r, V2) ∧ o = .inl (some (.int r)) ∧ mq D h0 h2 y A V2) := by
  refine ct_of (by decide) (Nat.le_of_ble_eq_true rfl) rfl ?_
  intro p_ e_ s_ m_ r_ b_ t_ c_ C hnm
  refine wk_run C k_MD_who_0 (pc2 := 3) (lv2 := [(0, .ref y), (1, .int p), (2, .int i)]) (st2 := [.int p, .ref y, .ref y]) rfl ?_
  refine wk_callV (cl := ("ProfileRightsModel", T_MD, 27)) (rest := [.ref y]) C (c_MD_isProfile l D HB h h0 y A (V) p hM) cs_MD_101 kc_MD_isProfile ki_MD hM.ob rfl rfl rfl (Nat.le_of_ble_eq_true rfl) (Nat.le_of_ble_eq_true rfl) (Nat.le_of_ble_eq_true rfl) (Nat.le_of_ble_eq_true rfl) (Nat.le_of_ble_eq_true rfl) d_MD_who_3 (fun v h2 hq => ?_) (fun _ _ z => nomatch z.1)
  obtain ⟨e1, e2⟩ := hq; cases e1; replace e2 := e2.symm; subst e2
  show Wk _ _ _ _ _ _ _ _ _ _ _ _ _ _ _ _ _ _ _ (.int (if ¬ p < 1 ∧ p ≤ V 9 0 then (1 : Int32) else 0) :: _)
  refine wk_br C d_MD_who_6 (P := ¬ (if ¬ p < 1 ∧ p ≤ V 9 0 then (1 : Int32) else 0) = 0) (tgt := 13) (rest := [.ref y]) rfl (by decide) (fun c1 => ?_) (fun c1 => ?_)
  ·
    replace c1 := bn_ c1
    refine wk_run C k_MD_who_13 (pc2 := 15) (lv2 := [(0, .ref y), (1, .int p), (2, .int i)]) (st2 := [.int 0, .int 0, .ref y]) rfl ?_
    refine wk_callV (cl := ("ProfileRightsModel", T_MD, 27)) (rest := []) C (c_MD_f0 l D HB h h0 y A (V) hM) cs_MD_88 kc_MD_fails ki_MD hM.ob rfl rfl rfl (Nat.le_of_ble_eq_true rfl) (Nat.le_of_ble_eq_true rfl) (Nat.le_of_ble_eq_true rfl) (Nat.le_of_ble_eq_true rfl) (Nat.le_of_ble_eq_true rfl) d_MD_who_15 (fun v h hq => ?_) (fun _ _ z => nomatch z.1)
    obtain ⟨e1, hM⟩ := hq; cases e1
    refine wk_br C d_MD_who_18 (P := 0 = 0) (tgt := 23) (rest := []) rfl (by decide) (fun c2 => ?_) (fun c2 => ?_)
    ·
      refine wk_run C k_MD_who_23 (pc2 := 24) (lv2 := [(0, .ref y), (1, .int p), (2, .int i)]) (st2 := [.int i]) rfl ?_
      refine wk_br C d_MD_who_24 (P := i < 0) (tgt := 37) (rest := []) rfl (by decide) (fun c3 => ?_) (fun c3 => ?_)
      ·
        refine wk_run C k_MD_who_37 (pc2 := 38) (lv2 := [(0, .ref y), (1, .int p), (2, .int i)]) (st2 := [.int 0]) rfl ?_
        refine wk_goto C d_MD_who_38 (tgt := 52) (by decide) ?_
        exact wk_iret C ⟨0, 0, vc (V) 0 0, by clear C hM hnm; grind [sp_who], rfl, hM⟩ (by decide) (by decide) d_MD_who_52
      ·
        refine wk_run C k_MD_who_27 (pc2 := 29) (lv2 := [(0, .ref y), (1, .int p), (2, .int i)]) (st2 := [.ref y, .int i]) rfl ?_
        refine wk_get (v := .ref (A 16)) C fd_MD_47 hM.ob rfl d_MD_who_29 ?_
        refine wk_run C k_MD_who_32 (pc2 := 33) (lv2 := [(0, .ref y), (1, .int p), (2, .int i)]) (st2 := [.int p, .ref (A 16), .int i]) rfl ?_
        refine wm_ld C hM 16 (j := nu p) rfl (vi_ c1.1 c1.2 hP (by decide) (by decide)) rfl d_MD_who_33 ?_
        show Wk _ _ _ _ _ _ _ _ _ _ _ _ _ _ _ _ _ _ _ (.int (V 16 (nu p)) :: _)
        refine wk_br C d_MD_who_34 (P := i < (V 16 (nu p))) (tgt := 41) (rest := []) rfl (by decide) (fun c4 => ?_) (fun c4 => ?_)
        ·
          refine wk_run C k_MD_who_41 (pc2 := 42) (lv2 := [(0, .ref y), (1, .int p), (2, .int i)]) (st2 := [.ref y]) rfl ?_
          refine wk_get (v := .ref (A 17)) C fd_MD_50 hM.ob rfl d_MD_who_42 ?_
          refine wk_run C k_MD_who_45 (pc2 := 51) (lv2 := [(0, .ref y), (1, .int p), (2, .int i)]) (st2 := [.int ((10 * p) + i), .ref (A 17)]) rfl ?_
          refine wm_ld C hM 17 (j := 10 * nu p + nu i) rfl (nx_ (k := 10) (m := 60) (n := 9) (N := 610) (ok_r c1.1 c1.2 hP (by decide)) (ok_lo c3 c4 hE (by decide)) (by decide) (by decide)).1 (nx_ (k := 10) (m := 60) (n := 9) (N := 610) (ok_r c1.1 c1.2 hP (by decide)) (ok_lo c3 c4 hE (by decide)) (by decide) (by decide)).2 d_MD_who_51 ?_
          show Wk _ _ _ _ _ _ _ _ _ _ _ _ _ _ _ _ _ _ _ (.int (V 17 (10 * nu p + nu i)) :: _)
          exact wk_iret C ⟨0, (V 17 (10 * nu p + nu i)), vc (V) 0 0, by clear C hM hnm; grind [sp_who], rfl, hM⟩ (by decide) (by decide) d_MD_who_52
        ·
          refine wk_run C k_MD_who_37 (pc2 := 38) (lv2 := [(0, .ref y), (1, .int p), (2, .int i)]) (st2 := [.int 0]) rfl ?_
          refine wk_goto C d_MD_who_38 (tgt := 52) (by decide) ?_
          exact wk_iret C ⟨0, 0, vc (V) 0 0, by clear C hM hnm; grind [sp_who], rfl, hM⟩ (by decide) (by decide) d_MD_who_52
    ·
      exact absurd (by decide) c2
  ·
    replace c1 := bz_ (Classical.not_not.mp c1)
    refine wk_run C k_MD_who_9 (pc2 := 10) (lv2 := [(0, .ref y), (1, .int p), (2, .int i)]) (st2 := [.int 1, .ref y]) rfl ?_
    refine wk_goto C d_MD_who_10 (tgt := 14) (by decide) ?_
    refine wk_run C k_MD_who_14 (pc2 := 15) (lv2 := [(0, .ref y), (1, .int p), (2, .int i)]) (st2 := [.int 0, .int 1, .ref y]) rfl ?_
    refine wk_callV (cl := ("ProfileRightsModel", T_MD, 27)) (rest := []) C (c_MD_f1 l D HB h h0 y A (V) hM) cs_MD_88 kc_MD_fails ki_MD hM.ob rfl rfl rfl (Nat.le_of_ble_eq_true rfl) (Nat.le_of_ble_eq_true rfl) (Nat.le_of_ble_eq_true rfl) (Nat.le_of_ble_eq_true rfl) (Nat.le_of_ble_eq_true rfl) d_MD_who_15 (fun v h hq => ?_) (fun _ _ z => nomatch z.1)
    obtain ⟨e1, hM⟩ := hq; cases e1
    refine wk_br C d_MD_who_18 (P := 1 = 0) (tgt := 23) (rest := []) rfl (by decide) (fun c5 => ?_) (fun c5 => ?_)
    ·
      exact absurd c5 (by decide)
    ·
      refine wk_run C k_MD_who_21 (pc2 := 22) (lv2 := [(0, .ref y), (1, .int p), (2, .int i)]) (st2 := [.int 0]) rfl ?_
      exact wk_iret C ⟨1, 0, vc (V) 0 1, by clear C hM hnm; grind [sp_who], rfl, hM⟩ (by decide) (by decide) d_MD_who_22
theorem k_MD_audit_0 : px_dec prog_9_method_38_code [.aload_n 0, .iconst 0] 0 = true := by decide +kernel
theorem d_MD_audit_2 : decode prog_9_method_38_code 2 = .ok (.putfield 71, 3) := by decide +kernel
theorem k_MD_audit_5 : px_dec prog_9_method_38_code [.iload_n 1] 5 = true := by decide +kernel
theorem d_MD_audit_6 : decode prog_9_method_38_code 6 = .ok (.ifCond .lt 27, 3) := by decide +kernel
theorem k_MD_audit_33 : px_dec prog_9_method_38_code [.iconst (-1)] 33 = true := by decide +kernel
theorem d_MD_audit_34 : decode prog_9_method_38_code 34 = .ok (.goto 13, 3) := by decide +kernel
theorem d_MD_audit_47 : decode prog_9_method_38_code 47 = .ok (.ireturn, 1) := by decide +kernel
theorem k_MD_audit_9 : px_dec prog_9_method_38_code [.iload_n 1, .aload_n 0] 9 = true := by decide +kernel
theorem d_MD_audit_11 : decode prog_9_method_38_code 11 = .ok (.getfield 143, 3) := by decide +kernel
theorem d_MD_audit_14 : decode prog_9_method_38_code 14 = .ok (.if_icmp .ge 19, 3) := by decide +kernel
theorem k_MD_audit_17 : px_dec prog_9_method_38_code [.iload_n 1, .sipush 200] 17 = true := by decide +kernel
theorem d_MD_audit_21 : decode prog_9_method_38_code 21 = .ok (.if_icmp .ge 12, 3) := by decide +kernel
theorem k_MD_audit_24 : px_dec prog_9_method_38_code [.iload_n 2] 24 = true := by decide +kernel
theorem d_MD_audit_25 : decode prog_9_method_38_code 25 = .ok (.ifCond .lt 8, 3) := by decide +kernel
theorem k_MD_audit_28 : px_dec prog_9_method_38_code [.iload_n 2, .iconst 4] 28 = true := by decide +kernel
theorem d_MD_audit_30 : decode prog_9_method_38_code 30 = .ok (.if_icmp .le 7, 3) := by decide +kernel
theorem k_MD_audit_37 : px_dec prog_9_method_38_code [.aload_n 0] 37 = true := by decide +kernel
theorem d_MD_audit_38 : decode prog_9_method_38_code 38 = .ok (.getfield 65, 3) := by decide +kernel
theorem k_MD_audit_41 : px_dec prog_9_method_38_code [.iconst 5, .iload_n 1, .imul, .iload_n 2, .iadd] 41 = true := by decide +kernel
theorem d_MD_audit_46 : decode prog_9_method_38_code 46 = .ok (.iaload, 1) := by decide +kernel
set_option maxRecDepth 100000 in
set_option maxHeartbeats 4000000 in
theorem c_MD_audit (l : Launch) (D : va_G) (HB : Heap) (h : hp_T) (h0 : hp_T) (y : Nat) (A : Nat → Nat) (V : vT) (i : Int32) (w : Int32)  (hM : mq D h0 h y A V) : ct_M l y_MD_audit (.code y_MD_audit prog_9_method_38_code 3 (Option.some Jvm.ClassFile.FieldType.int)) ({ frames := 1, cells := 0, slots := 0, locals := 30 }) D HB [.ref y, .int i, .int w] h (fun o h2 => ∃ (cd r : Int32) (V2 : vT), sp_audit V i w = (cd, r, V2) ∧ o = .inl (some (.int r)) ∧ mq D h0 h2 y A V2) := by
  refine ct_of (by decide) (Nat.le_of_ble_eq_true rfl) rfl ?_
  intro p_ e_ s_ m_ r_ b_ t_ c_ C hnm
  refine wk_run C k_MD_audit_0 (pc2 := 2) (lv2 := [(0, .ref y), (1, .int i), (2, .int w)]) (st2 := [.int 0, .ref y]) rfl ?_
  refine wm_put C hM 0 (by simp [sc_]) fd_MD_71 rfl d_MD_audit_2 (fun h (hM : mq D h0 h y A (vc (V) 0 0)) => ?_)
  refine wk_run C k_MD_audit_5 (pc2 := 6) (lv2 := [(0, .ref y), (1, .int i), (2, .int w)]) (st2 := [.int i]) rfl ?_
  refine wk_br C d_MD_audit_6 (P := i < 0) (tgt := 33) (rest := []) rfl (by decide) (fun c1 => ?_) (fun c1 => ?_)
  ·
    refine wk_run C k_MD_audit_33 (pc2 := 34) (lv2 := [(0, .ref y), (1, .int i), (2, .int w)]) (st2 := [.int (-1)]) rfl ?_
    refine wk_goto C d_MD_audit_34 (tgt := 47) (by decide) ?_
    exact wk_iret C ⟨0, (-1), vc (V) 0 0, by clear C hM hnm; grind [sp_audit], rfl, hM⟩ (by decide) (by decide) d_MD_audit_47
  ·
    refine wk_run C k_MD_audit_9 (pc2 := 11) (lv2 := [(0, .ref y), (1, .int i), (2, .int w)]) (st2 := [.ref y, .int i]) rfl ?_
    refine wk_get (v := .int (V 25 0)) C fd_MD_143 hM.ob rfl d_MD_audit_11 ?_
    refine wk_br C d_MD_audit_14 (P := (V 25 0) ≤ i) (tgt := 33) (rest := []) rfl (by decide) (fun c2 => ?_) (fun c2 => ?_)
    ·
      refine wk_run C k_MD_audit_33 (pc2 := 34) (lv2 := [(0, .ref y), (1, .int i), (2, .int w)]) (st2 := [.int (-1)]) rfl ?_
      refine wk_goto C d_MD_audit_34 (tgt := 47) (by decide) ?_
      exact wk_iret C ⟨0, (-1), vc (V) 0 0, by clear C hM hnm; grind [sp_audit], rfl, hM⟩ (by decide) (by decide) d_MD_audit_47
    ·
      refine wk_run C k_MD_audit_17 (pc2 := 21) (lv2 := [(0, .ref y), (1, .int i), (2, .int w)]) (st2 := [.int 200, .int i]) rfl ?_
      refine wk_br C d_MD_audit_21 (P := 200 ≤ i) (tgt := 33) (rest := []) rfl (by decide) (fun c3 => ?_) (fun c3 => ?_)
      ·
        refine wk_run C k_MD_audit_33 (pc2 := 34) (lv2 := [(0, .ref y), (1, .int i), (2, .int w)]) (st2 := [.int (-1)]) rfl ?_
        refine wk_goto C d_MD_audit_34 (tgt := 47) (by decide) ?_
        exact wk_iret C ⟨0, (-1), vc (V) 0 0, by clear C hM hnm; grind [sp_audit], rfl, hM⟩ (by decide) (by decide) d_MD_audit_47
      ·
        refine wk_run C k_MD_audit_24 (pc2 := 25) (lv2 := [(0, .ref y), (1, .int i), (2, .int w)]) (st2 := [.int w]) rfl ?_
        refine wk_br C d_MD_audit_25 (P := w < 0) (tgt := 33) (rest := []) rfl (by decide) (fun c4 => ?_) (fun c4 => ?_)
        ·
          refine wk_run C k_MD_audit_33 (pc2 := 34) (lv2 := [(0, .ref y), (1, .int i), (2, .int w)]) (st2 := [.int (-1)]) rfl ?_
          refine wk_goto C d_MD_audit_34 (tgt := 47) (by decide) ?_
          exact wk_iret C ⟨0, (-1), vc (V) 0 0, by clear C hM hnm; grind [sp_audit], rfl, hM⟩ (by decide) (by decide) d_MD_audit_47
        ·
          refine wk_run C k_MD_audit_28 (pc2 := 30) (lv2 := [(0, .ref y), (1, .int i), (2, .int w)]) (st2 := [.int 4, .int w]) rfl ?_
          refine wk_br C d_MD_audit_30 (P := w ≤ 4) (tgt := 37) (rest := []) rfl (by decide) (fun c5 => ?_) (fun c5 => ?_)
          ·
            refine wk_run C k_MD_audit_37 (pc2 := 38) (lv2 := [(0, .ref y), (1, .int i), (2, .int w)]) (st2 := [.ref y]) rfl ?_
            refine wk_get (v := .ref (A 24)) C fd_MD_65 hM.ob rfl d_MD_audit_38 ?_
            refine wk_run C k_MD_audit_41 (pc2 := 46) (lv2 := [(0, .ref y), (1, .int i), (2, .int w)]) (st2 := [.int ((5 * i) + w), .ref (A 24)]) rfl ?_
            refine wm_ld C hM 24 (j := 5 * nu i + nu w) rfl (nx_ (k := 5) (m := 199) (n := 4) (N := 1000) (ok_c c1 (by grind) (show (200 : Int32) = nI (199 + 1) from rfl) (by decide)) (ok_le c4 c5 (show (4 : Int32) = nI 4 from rfl) (by decide)) (by decide) (by decide)).1 (nx_ (k := 5) (m := 199) (n := 4) (N := 1000) (ok_c c1 (by grind) (show (200 : Int32) = nI (199 + 1) from rfl) (by decide)) (ok_le c4 c5 (show (4 : Int32) = nI 4 from rfl) (by decide)) (by decide) (by decide)).2 d_MD_audit_46 ?_
            show Wk _ _ _ _ _ _ _ _ _ _ _ _ _ _ _ _ _ _ _ (.int (V 24 (5 * nu i + nu w)) :: _)
            exact wk_iret C ⟨0, (V 24 (5 * nu i + nu w)), vc (V) 0 0, by clear C hM hnm; grind [sp_audit], rfl, hM⟩ (by decide) (by decide) d_MD_audit_47
          ·
            refine wk_run C k_MD_audit_33 (pc2 := 34) (lv2 := [(0, .ref y), (1, .int i), (2, .int w)]) (st2 := [.int (-1)]) rfl ?_
            refine wk_goto C d_MD_audit_34 (tgt := 47) (by decide) ?_
            exact wk_iret C ⟨0, (-1), vc (V) 0 0, by clear C hM hnm; grind [sp_audit], rfl, hM⟩ (by decide) (by decide) d_MD_audit_47
def an_ (V : vT) (u c a r p w : Int32) : vT := if w = 0 then vc (vc V 23 p) 22 0 else if 200 ≤ V 25 0 then vc (vc (vc V 23 p) 22 0) 25 (V 25 0 + 1) else
  vc (vs (vs (vs (vs (vs (vc (vc V 23 p) 22 0) 24 (upd (V 24) (5 * nu (V 25 0)) u)) 24 (upd (upd (V 24) (5 * nu (V 25 0)) u) (5 * nu (V 25 0) + 1) c)) 24 (upd (upd (upd (V 24) (5 * nu (V 25 0)) u) (5 * nu (V 25 0) + 1) c) (5 * nu (V 25 0) + 2) a)) 24 (upd (upd (upd (upd (V 24) (5 * nu (V 25 0)) u) (5 * nu (V 25 0) + 1) c) (5 * nu (V 25 0) + 2) a) (5 * nu (V 25 0) + 3) r)) 24 (upd (upd (upd (upd (upd (V 24) (5 * nu (V 25 0)) u) (5 * nu (V 25 0) + 1) c) (5 * nu (V 25 0) + 2) a) (5 * nu (V 25 0) + 3) r) (5 * nu (V 25 0) + 4) p)) 25 (V 25 0 + 1)
theorem ok_2h {x : Int32} (h : ok_ x 1000000) (h2 : ¬ 200 ≤ x) : ok_ x 199 := by
  refine ⟨h.1, ?_⟩
  rw [h.1, show (200 : Int32) = nI 200 from rfl, nI_leI (by decide) (by have := h.2; omega)] at h2
  omega

theorem an_e {D : va_G} {h0 h : hp_T} {y : Nat} {A : Nat → Nat} {V W : vT} (e : V = W) (hM : mq D h0 h y A W) : mq D h0 h y A V := e ▸ hM
theorem k_MD_answered_0 : px_dec prog_9_method_35_code [.aload_n 0, .iload 5] 0 = true := by decide +kernel
theorem d_MD_answered_3 : decode prog_9_method_35_code 3 = .ok (.putfield 140, 3) := by decide +kernel
theorem k_MD_answered_6 : px_dec prog_9_method_35_code [.aload_n 0, .iconst 0] 6 = true := by decide +kernel
theorem d_MD_answered_8 : decode prog_9_method_35_code 8 = .ok (.putfield 115, 3) := by decide +kernel
theorem k_MD_answered_11 : px_dec prog_9_method_35_code [.iload 6] 11 = true := by decide +kernel
theorem d_MD_answered_13 : decode prog_9_method_35_code 13 = .ok (.ifCond .ne 6, 3) := by decide +kernel
theorem k_MD_answered_19 : px_dec prog_9_method_35_code [.aload_n 0] 19 = true := by decide +kernel
theorem d_MD_answered_20 : decode prog_9_method_35_code 20 = .ok (.getfield 143, 3) := by decide +kernel
theorem k_MD_answered_23 : px_dec prog_9_method_35_code [.sipush 200] 23 = true := by decide +kernel
theorem d_MD_answered_26 : decode prog_9_method_35_code 26 = .ok (.if_icmp .ge 73, 3) := by decide +kernel
theorem k_MD_answered_99 : px_dec prog_9_method_35_code [.aload_n 0, .dup] 99 = true := by decide +kernel
theorem d_MD_answered_101 : decode prog_9_method_35_code 101 = .ok (.getfield 143, 3) := by decide +kernel
theorem k_MD_answered_104 : px_dec prog_9_method_35_code [.iconst 1, .iadd] 104 = true := by decide +kernel
theorem d_MD_answered_106 : decode prog_9_method_35_code 106 = .ok (.putfield 143, 3) := by decide +kernel
theorem k_MD_answered_109 : px_dec prog_9_method_35_code [.iload 4] 109 = true := by decide +kernel
theorem d_MD_answered_111 : decode prog_9_method_35_code 111 = .ok (.ireturn, 1) := by decide +kernel
theorem k_MD_answered_29 : px_dec prog_9_method_35_code [.aload_n 0] 29 = true := by decide +kernel
theorem d_MD_answered_30 : decode prog_9_method_35_code 30 = .ok (.getfield 65, 3) := by decide +kernel
theorem k_MD_answered_33 : px_dec prog_9_method_35_code [.iconst 5, .aload_n 0] 33 = true := by decide +kernel
theorem d_MD_answered_35 : decode prog_9_method_35_code 35 = .ok (.getfield 143, 3) := by decide +kernel
theorem k_MD_answered_38 : px_dec prog_9_method_35_code [.imul, .iload_n 1] 38 = true := by decide +kernel
theorem d_MD_answered_40 : decode prog_9_method_35_code 40 = .ok (.iastore, 1) := by decide +kernel
theorem k_MD_answered_41 : px_dec prog_9_method_35_code [.aload_n 0] 41 = true := by decide +kernel
theorem d_MD_answered_42 : decode prog_9_method_35_code 42 = .ok (.getfield 65, 3) := by decide +kernel
theorem k_MD_answered_45 : px_dec prog_9_method_35_code [.iconst 5, .aload_n 0] 45 = true := by decide +kernel
theorem d_MD_answered_47 : decode prog_9_method_35_code 47 = .ok (.getfield 143, 3) := by decide +kernel
theorem k_MD_answered_50 : px_dec prog_9_method_35_code [.imul, .iconst 1, .iadd, .iload_n 2] 50 = true := by decide +kernel
theorem d_MD_answered_54 : decode prog_9_method_35_code 54 = .ok (.iastore, 1) := by decide +kernel
theorem k_MD_answered_55 : px_dec prog_9_method_35_code [.aload_n 0] 55 = true := by decide +kernel
theorem d_MD_answered_56 : decode prog_9_method_35_code 56 = .ok (.getfield 65, 3) := by decide +kernel
theorem k_MD_answered_59 : px_dec prog_9_method_35_code [.iconst 5, .aload_n 0] 59 = true := by decide +kernel
theorem d_MD_answered_61 : decode prog_9_method_35_code 61 = .ok (.getfield 143, 3) := by decide +kernel
theorem k_MD_answered_64 : px_dec prog_9_method_35_code [.imul, .iconst 2, .iadd, .iload_n 3] 64 = true := by decide +kernel
theorem d_MD_answered_68 : decode prog_9_method_35_code 68 = .ok (.iastore, 1) := by decide +kernel
theorem k_MD_answered_69 : px_dec prog_9_method_35_code [.aload_n 0] 69 = true := by decide +kernel
theorem d_MD_answered_70 : decode prog_9_method_35_code 70 = .ok (.getfield 65, 3) := by decide +kernel
theorem k_MD_answered_73 : px_dec prog_9_method_35_code [.iconst 5, .aload_n 0] 73 = true := by decide +kernel
theorem d_MD_answered_75 : decode prog_9_method_35_code 75 = .ok (.getfield 143, 3) := by decide +kernel
theorem k_MD_answered_78 : px_dec prog_9_method_35_code [.imul, .iconst 3, .iadd, .iload 4] 78 = true := by decide +kernel
theorem d_MD_answered_83 : decode prog_9_method_35_code 83 = .ok (.iastore, 1) := by decide +kernel
theorem k_MD_answered_84 : px_dec prog_9_method_35_code [.aload_n 0] 84 = true := by decide +kernel
theorem d_MD_answered_85 : decode prog_9_method_35_code 85 = .ok (.getfield 65, 3) := by decide +kernel
theorem k_MD_answered_88 : px_dec prog_9_method_35_code [.iconst 5, .aload_n 0] 88 = true := by decide +kernel
theorem d_MD_answered_90 : decode prog_9_method_35_code 90 = .ok (.getfield 143, 3) := by decide +kernel
theorem k_MD_answered_93 : px_dec prog_9_method_35_code [.imul, .iconst 4, .iadd, .iload 5] 93 = true := by decide +kernel
theorem d_MD_answered_98 : decode prog_9_method_35_code 98 = .ok (.iastore, 1) := by decide +kernel
theorem k_MD_answered_16 : px_dec prog_9_method_35_code [.iload 4] 16 = true := by decide +kernel
theorem d_MD_answered_18 : decode prog_9_method_35_code 18 = .ok (.ireturn, 1) := by decide +kernel
set_option maxRecDepth 100000 in
set_option maxHeartbeats 4000000 in
theorem c_MD_answered (l : Launch) (D : va_G) (HB : Heap) (h : hp_T) (h0 : hp_T) (y : Nat) (A : Nat → Nat) (V : vT) (u c a r p w : Int32) (hR : ok_ (V 25 0) 1000000) (hM : mq D h0 h y A V) : ct_M l y_MD_answered (.code y_MD_answered prog_9_method_35_code 7 (Option.some Jvm.ClassFile.FieldType.int)) ({ frames := 0, cells := 0, slots := 0, locals := 0 }) D HB [.ref y, .int u, .int c, .int a, .int r, .int p, .int w] h (fun o h2 => o = .inl (some (.int r)) ∧ mq D h0 h2 y A (an_ V u c a r p w)) := by
  refine ct_of (by decide) (Nat.le_of_ble_eq_true rfl) rfl ?_
  intro p_ e_ s_ m_ r_ b_ t_ c_ C hnm
  refine wk_run C k_MD_answered_0 (pc2 := 3) (lv2 := [(0, .ref y), (1, .int u), (2, .int c), (3, .int a), (4, .int r), (5, .int p), (6, .int w)]) (st2 := [.int p, .ref y]) rfl ?_
  refine wm_put C hM 23 (by simp [sc_]) fd_MD_140 rfl d_MD_answered_3 (fun h (hM : mq D h0 h y A (vc (V) 23 p)) => ?_)
  refine wk_run C k_MD_answered_6 (pc2 := 8) (lv2 := [(0, .ref y), (1, .int u), (2, .int c), (3, .int a), (4, .int r), (5, .int p), (6, .int w)]) (st2 := [.int 0, .ref y]) rfl ?_
  refine wm_put C hM 22 (by simp [sc_]) fd_MD_115 rfl d_MD_answered_8 (fun h (hM : mq D h0 h y A (vc (vc (V) 23 p) 22 0)) => ?_)
  refine wk_run C k_MD_answered_11 (pc2 := 13) (lv2 := [(0, .ref y), (1, .int u), (2, .int c), (3, .int a), (4, .int r), (5, .int p), (6, .int w)]) (st2 := [.int w]) rfl ?_
  refine wk_br C d_MD_answered_13 (P := ¬ w = 0) (tgt := 19) (rest := []) rfl (by decide) (fun c1 => ?_) (fun c1 => ?_)
  ·
    refine wk_run C k_MD_answered_19 (pc2 := 20) (lv2 := [(0, .ref y), (1, .int u), (2, .int c), (3, .int a), (4, .int r), (5, .int p), (6, .int w)]) (st2 := [.ref y]) rfl ?_
    refine wk_get (v := .int (V 25 0)) C fd_MD_143 hM.ob rfl d_MD_answered_20 ?_
    refine wk_run C k_MD_answered_23 (pc2 := 26) (lv2 := [(0, .ref y), (1, .int u), (2, .int c), (3, .int a), (4, .int r), (5, .int p), (6, .int w)]) (st2 := [.int 200, .int (V 25 0)]) rfl ?_
    refine wk_br C d_MD_answered_26 (P := 200 ≤ (V 25 0)) (tgt := 99) (rest := []) rfl (by decide) (fun c2 => ?_) (fun c2 => ?_)
    ·
      refine wk_run C k_MD_answered_99 (pc2 := 101) (lv2 := [(0, .ref y), (1, .int u), (2, .int c), (3, .int a), (4, .int r), (5, .int p), (6, .int w)]) (st2 := [.ref y, .ref y]) rfl ?_
      refine wk_get (v := .int (V 25 0)) C fd_MD_143 hM.ob rfl d_MD_answered_101 ?_
      refine wk_run C k_MD_answered_104 (pc2 := 106) (lv2 := [(0, .ref y), (1, .int u), (2, .int c), (3, .int a), (4, .int r), (5, .int p), (6, .int w)]) (st2 := [.int ((V 25 0) + 1), .ref y]) rfl ?_
      refine wm_put C hM 25 (by simp [sc_]) fd_MD_143 rfl d_MD_answered_106 (fun h (hM : mq D h0 h y A (vc (vc (vc (V) 23 p) 22 0) 25 ((V 25 0) + 1))) => ?_)
      refine wk_run C k_MD_answered_109 (pc2 := 111) (lv2 := [(0, .ref y), (1, .int u), (2, .int c), (3, .int a), (4, .int r), (5, .int p), (6, .int w)]) (st2 := [.int r]) rfl ?_
      exact wk_iret C ⟨rfl, an_e (by clear C hnm hM; grind [an_]) hM⟩ (by decide) (by decide) d_MD_answered_111
    ·
      refine wk_run C k_MD_answered_29 (pc2 := 30) (lv2 := [(0, .ref y), (1, .int u), (2, .int c), (3, .int a), (4, .int r), (5, .int p), (6, .int w)]) (st2 := [.ref y]) rfl ?_
      refine wk_get (v := .ref (A 24)) C fd_MD_65 hM.ob rfl d_MD_answered_30 ?_
      refine wk_run C k_MD_answered_33 (pc2 := 35) (lv2 := [(0, .ref y), (1, .int u), (2, .int c), (3, .int a), (4, .int r), (5, .int p), (6, .int w)]) (st2 := [.ref y, .int 5, .ref (A 24)]) rfl ?_
      refine wk_get (v := .int (V 25 0)) C fd_MD_143 hM.ob rfl d_MD_answered_35 ?_
      refine wk_run C k_MD_answered_38 (pc2 := 40) (lv2 := [(0, .ref y), (1, .int u), (2, .int c), (3, .int a), (4, .int r), (5, .int p), (6, .int w)]) (st2 := [.int u, .int (5 * (V 25 0)), .ref (A 24)]) rfl ?_
      refine wm_st C hM 24 (j := (5 * nu (V 25 0))) rfl (nx0_ (k := 5) (m := 199) (ok_2h hR c2) (by decide) (by decide)).1 (nx0_ (k := 5) (m := 199) (N := 1000) (ok_2h hR c2) (by decide) (by decide)).2 d_MD_answered_40 (fun h (hM : mq D h0 h y A (vs (vc (vc (V) 23 p) 22 0) 24 (upd (V 24) (5 * nu (V 25 0)) u))) => ?_)
      refine wk_run C k_MD_answered_41 (pc2 := 42) (lv2 := [(0, .ref y), (1, .int u), (2, .int c), (3, .int a), (4, .int r), (5, .int p), (6, .int w)]) (st2 := [.ref y]) rfl ?_
      refine wk_get (v := .ref (A 24)) C fd_MD_65 hM.ob rfl d_MD_answered_42 ?_
      refine wk_run C k_MD_answered_45 (pc2 := 47) (lv2 := [(0, .ref y), (1, .int u), (2, .int c), (3, .int a), (4, .int r), (5, .int p), (6, .int w)]) (st2 := [.ref y, .int 5, .ref (A 24)]) rfl ?_
      refine wk_get (v := .int (V 25 0)) C fd_MD_143 hM.ob rfl d_MD_answered_47 ?_
      refine wk_run C k_MD_answered_50 (pc2 := 54) (lv2 := [(0, .ref y), (1, .int u), (2, .int c), (3, .int a), (4, .int r), (5, .int p), (6, .int w)]) (st2 := [.int c, .int ((5 * (V 25 0)) + 1), .ref (A 24)]) rfl ?_
      refine wm_st C hM 24 (j := (5 * nu (V 25 0) + 1)) rfl (nx_ (k := 5) (m := 199) (n := 4) (N := 1000) (b := 1) (ok_2h hR c2) (ok_nI (m := 1) (by decide) (by decide)) (by decide) (by decide)).1 (nx_ (k := 5) (m := 199) (n := 4) (N := 1000) (b := 1) (ok_2h hR c2) (ok_nI (m := 1) (by decide) (by decide)) (by decide) (by decide)).2 d_MD_answered_54 (fun h (hM : mq D h0 h y A (vs (vs (vc (vc (V) 23 p) 22 0) 24 (upd (V 24) (5 * nu (V 25 0)) u)) 24 (upd (upd (V 24) (5 * nu (V 25 0)) u) (5 * nu (V 25 0) + 1) c))) => ?_)
      refine wk_run C k_MD_answered_55 (pc2 := 56) (lv2 := [(0, .ref y), (1, .int u), (2, .int c), (3, .int a), (4, .int r), (5, .int p), (6, .int w)]) (st2 := [.ref y]) rfl ?_
      refine wk_get (v := .ref (A 24)) C fd_MD_65 hM.ob rfl d_MD_answered_56 ?_
      refine wk_run C k_MD_answered_59 (pc2 := 61) (lv2 := [(0, .ref y), (1, .int u), (2, .int c), (3, .int a), (4, .int r), (5, .int p), (6, .int w)]) (st2 := [.ref y, .int 5, .ref (A 24)]) rfl ?_
      refine wk_get (v := .int (V 25 0)) C fd_MD_143 hM.ob rfl d_MD_answered_61 ?_
      refine wk_run C k_MD_answered_64 (pc2 := 68) (lv2 := [(0, .ref y), (1, .int u), (2, .int c), (3, .int a), (4, .int r), (5, .int p), (6, .int w)]) (st2 := [.int a, .int ((5 * (V 25 0)) + 2), .ref (A 24)]) rfl ?_
      refine wm_st C hM 24 (j := (5 * nu (V 25 0) + 2)) rfl (nx_ (k := 5) (m := 199) (n := 4) (N := 1000) (b := 2) (ok_2h hR c2) (ok_nI (m := 2) (by decide) (by decide)) (by decide) (by decide)).1 (nx_ (k := 5) (m := 199) (n := 4) (N := 1000) (b := 2) (ok_2h hR c2) (ok_nI (m := 2) (by decide) (by decide)) (by decide) (by decide)).2 d_MD_answered_68 (fun h (hM : mq D h0 h y A (vs (vs (vs (vc (vc (V) 23 p) 22 0) 24 (upd (V 24) (5 * nu (V 25 0)) u)) 24 (upd (upd (V 24) (5 * nu (V 25 0)) u) (5 * nu (V 25 0) + 1) c)) 24 (upd (upd (upd (V 24) (5 * nu (V 25 0)) u) (5 * nu (V 25 0) + 1) c) (5 * nu (V 25 0) + 2) a))) => ?_)
      refine wk_run C k_MD_answered_69 (pc2 := 70) (lv2 := [(0, .ref y), (1, .int u), (2, .int c), (3, .int a), (4, .int r), (5, .int p), (6, .int w)]) (st2 := [.ref y]) rfl ?_
      refine wk_get (v := .ref (A 24)) C fd_MD_65 hM.ob rfl d_MD_answered_70 ?_
      refine wk_run C k_MD_answered_73 (pc2 := 75) (lv2 := [(0, .ref y), (1, .int u), (2, .int c), (3, .int a), (4, .int r), (5, .int p), (6, .int w)]) (st2 := [.ref y, .int 5, .ref (A 24)]) rfl ?_
      refine wk_get (v := .int (V 25 0)) C fd_MD_143 hM.ob rfl d_MD_answered_75 ?_
      refine wk_run C k_MD_answered_78 (pc2 := 83) (lv2 := [(0, .ref y), (1, .int u), (2, .int c), (3, .int a), (4, .int r), (5, .int p), (6, .int w)]) (st2 := [.int r, .int ((5 * (V 25 0)) + 3), .ref (A 24)]) rfl ?_
      refine wm_st C hM 24 (j := (5 * nu (V 25 0) + 3)) rfl (nx_ (k := 5) (m := 199) (n := 4) (N := 1000) (b := 3) (ok_2h hR c2) (ok_nI (m := 3) (by decide) (by decide)) (by decide) (by decide)).1 (nx_ (k := 5) (m := 199) (n := 4) (N := 1000) (b := 3) (ok_2h hR c2) (ok_nI (m := 3) (by decide) (by decide)) (by decide) (by decide)).2 d_MD_answered_83 (fun h (hM : mq D h0 h y A (vs (vs (vs (vs (vc (vc (V) 23 p) 22 0) 24 (upd (V 24) (5 * nu (V 25 0)) u)) 24 (upd (upd (V 24) (5 * nu (V 25 0)) u) (5 * nu (V 25 0) + 1) c)) 24 (upd (upd (upd (V 24) (5 * nu (V 25 0)) u) (5 * nu (V 25 0) + 1) c) (5 * nu (V 25 0) + 2) a)) 24 (upd (upd (upd (upd (V 24) (5 * nu (V 25 0)) u) (5 * nu (V 25 0) + 1) c) (5 * nu (V 25 0) + 2) a) (5 * nu (V 25 0) + 3) r))) => ?_)
      refine wk_run C k_MD_answered_84 (pc2 := 85) (lv2 := [(0, .ref y), (1, .int u), (2, .int c), (3, .int a), (4, .int r), (5, .int p), (6, .int w)]) (st2 := [.ref y]) rfl ?_
      refine wk_get (v := .ref (A 24)) C fd_MD_65 hM.ob rfl d_MD_answered_85 ?_
      refine wk_run C k_MD_answered_88 (pc2 := 90) (lv2 := [(0, .ref y), (1, .int u), (2, .int c), (3, .int a), (4, .int r), (5, .int p), (6, .int w)]) (st2 := [.ref y, .int 5, .ref (A 24)]) rfl ?_
      refine wk_get (v := .int (V 25 0)) C fd_MD_143 hM.ob rfl d_MD_answered_90 ?_
      refine wk_run C k_MD_answered_93 (pc2 := 98) (lv2 := [(0, .ref y), (1, .int u), (2, .int c), (3, .int a), (4, .int r), (5, .int p), (6, .int w)]) (st2 := [.int p, .int ((5 * (V 25 0)) + 4), .ref (A 24)]) rfl ?_
      refine wm_st C hM 24 (j := (5 * nu (V 25 0) + 4)) rfl (nx_ (k := 5) (m := 199) (n := 4) (N := 1000) (b := 4) (ok_2h hR c2) (ok_nI (m := 4) (by decide) (by decide)) (by decide) (by decide)).1 (nx_ (k := 5) (m := 199) (n := 4) (N := 1000) (b := 4) (ok_2h hR c2) (ok_nI (m := 4) (by decide) (by decide)) (by decide) (by decide)).2 d_MD_answered_98 (fun h (hM : mq D h0 h y A (vs (vs (vs (vs (vs (vc (vc (V) 23 p) 22 0) 24 (upd (V 24) (5 * nu (V 25 0)) u)) 24 (upd (upd (V 24) (5 * nu (V 25 0)) u) (5 * nu (V 25 0) + 1) c)) 24 (upd (upd (upd (V 24) (5 * nu (V 25 0)) u) (5 * nu (V 25 0) + 1) c) (5 * nu (V 25 0) + 2) a)) 24 (upd (upd (upd (upd (V 24) (5 * nu (V 25 0)) u) (5 * nu (V 25 0) + 1) c) (5 * nu (V 25 0) + 2) a) (5 * nu (V 25 0) + 3) r)) 24 (upd (upd (upd (upd (upd (V 24) (5 * nu (V 25 0)) u) (5 * nu (V 25 0) + 1) c) (5 * nu (V 25 0) + 2) a) (5 * nu (V 25 0) + 3) r) (5 * nu (V 25 0) + 4) p))) => ?_)
      refine wk_run C k_MD_answered_99 (pc2 := 101) (lv2 := [(0, .ref y), (1, .int u), (2, .int c), (3, .int a), (4, .int r), (5, .int p), (6, .int w)]) (st2 := [.ref y, .ref y]) rfl ?_
      refine wk_get (v := .int (V 25 0)) C fd_MD_143 hM.ob rfl d_MD_answered_101 ?_
      refine wk_run C k_MD_answered_104 (pc2 := 106) (lv2 := [(0, .ref y), (1, .int u), (2, .int c), (3, .int a), (4, .int r), (5, .int p), (6, .int w)]) (st2 := [.int ((V 25 0) + 1), .ref y]) rfl ?_
      refine wm_put C hM 25 (by simp [sc_]) fd_MD_143 rfl d_MD_answered_106 (fun h (hM : mq D h0 h y A (vc (vs (vs (vs (vs (vs (vc (vc (V) 23 p) 22 0) 24 (upd (V 24) (5 * nu (V 25 0)) u)) 24 (upd (upd (V 24) (5 * nu (V 25 0)) u) (5 * nu (V 25 0) + 1) c)) 24 (upd (upd (upd (V 24) (5 * nu (V 25 0)) u) (5 * nu (V 25 0) + 1) c) (5 * nu (V 25 0) + 2) a)) 24 (upd (upd (upd (upd (V 24) (5 * nu (V 25 0)) u) (5 * nu (V 25 0) + 1) c) (5 * nu (V 25 0) + 2) a) (5 * nu (V 25 0) + 3) r)) 24 (upd (upd (upd (upd (upd (V 24) (5 * nu (V 25 0)) u) (5 * nu (V 25 0) + 1) c) (5 * nu (V 25 0) + 2) a) (5 * nu (V 25 0) + 3) r) (5 * nu (V 25 0) + 4) p)) 25 ((V 25 0) + 1))) => ?_)
      refine wk_run C k_MD_answered_109 (pc2 := 111) (lv2 := [(0, .ref y), (1, .int u), (2, .int c), (3, .int a), (4, .int r), (5, .int p), (6, .int w)]) (st2 := [.int r]) rfl ?_
      exact wk_iret C ⟨rfl, an_e (by clear C hnm hM; grind [an_]) hM⟩ (by decide) (by decide) d_MD_answered_111
  ·
    refine wk_run C k_MD_answered_16 (pc2 := 18) (lv2 := [(0, .ref y), (1, .int u), (2, .int c), (3, .int a), (4, .int r), (5, .int p), (6, .int w)]) (st2 := [.int r]) rfl ?_
    exact wk_iret C ⟨rfl, an_e (by clear C hnm hM; grind [an_]) hM⟩ (by decide) (by decide) d_MD_answered_18
/-- the hour of a time -/
abbrev hr_ (t : Int64) : Int32 := ((t / 60) - (t / 60) / 24 * 24).toInt32
abbrev io_ (V : vT) (a u : Nat) (t : Int64) : Prop := (V 19 a = 0 ∨ V 19 a = V 3 u) ∧ ((V 20 a) >>> ((hr_ t) &&& 31)) &&& 1 = 1
theorem k_MD_isOpen_0 : px_dec prog_9_method_33_code [.iload_n 1, .iconst (-1)] 0 = true := by decide +kernel
theorem d_MD_isOpen_2 : decode prog_9_method_33_code 2 = .ok (.if_icmp .ne 5, 3) := by decide +kernel
theorem k_MD_isOpen_5 : px_dec prog_9_method_33_code [.iconst 0] 5 = true := by decide +kernel
theorem d_MD_isOpen_6 : decode prog_9_method_33_code 6 = .ok (.ireturn, 1) := by decide +kernel
set_option maxRecDepth 100000 in
set_option maxHeartbeats 4000000 in
theorem c_MD_isOpenN (l : Launch) (D : va_G) (HB : Heap) (h : hp_T) (h0 : hp_T) (y : Nat) (A : Nat → Nat) (V : vT) (u : Int32) (t : Int64) (hM : mq D h0 h y A V) : ct_M l y_MD_isOpen (.code y_MD_isOpen prog_9_method_33_code 6 (Option.some Jvm.ClassFile.FieldType.boolean)) ({ frames := 0, cells := 0, slots := 0, locals := 0 }) D HB [.ref y, .int (-1), .int u, .long t] h (fun o h2 => o = .inl (some (.int 0)) ∧ h2 = h) := by
  refine ct_of (by decide) (Nat.le_of_ble_eq_true rfl) rfl ?_
  intro p_ e_ s_ m_ r_ b_ t_ c_ C hnm
  refine wk_run C k_MD_isOpen_0 (pc2 := 2) (lv2 := [(0, .ref y), (1, .int (-1)), (2, .int u), (3, .long t)]) (st2 := [.int (-1), .int (-1)]) rfl ?_
  refine wk_br C d_MD_isOpen_2 (P := ¬ (-1) = (-1)) (tgt := 7) (rest := []) rfl (by decide) (fun c1 => ?_) (fun c1 => ?_)
  ·
    exact absurd c1 (by decide)
  ·
    refine wk_run C k_MD_isOpen_5 (pc2 := 6) (lv2 := [(0, .ref y), (1, .int (-1)), (2, .int u), (3, .long t)]) (st2 := [.int 0]) rfl ?_
    exact wk_zret C rfl ⟨rfl, rfl⟩ (by decide) (by decide) d_MD_isOpen_6
theorem nI_nm {a : Nat} (h : a < 2 ^ 31) : ¬ nI a = -1 := by
  intro z
  have := congrArg Int32.toInt z
  rw [nI_toInt h, show (-1 : Int32).toInt = -1 by decide] at this
  omega
theorem k_MD_isOpen_7 : px_dec prog_9_method_33_code [.aload_n 0] 7 = true := by decide +kernel
theorem d_MD_isOpen_8 : decode prog_9_method_33_code 8 = .ok (.getfield 56, 3) := by decide +kernel
theorem k_MD_isOpen_11 : px_dec prog_9_method_33_code [.iload_n 1] 11 = true := by decide +kernel
theorem d_MD_isOpen_12 : decode prog_9_method_33_code 12 = .ok (.iaload, 1) := by decide +kernel
theorem d_MD_isOpen_13 : decode prog_9_method_33_code 13 = .ok (.ifCond .eq 18, 3) := by decide +kernel
theorem k_MD_isOpen_31 : px_dec prog_9_method_33_code [.iconst 1] 31 = true := by decide +kernel
theorem d_MD_isOpen_32 : decode prog_9_method_33_code 32 = .ok (.goto 4, 3) := by decide +kernel
theorem k_MD_isOpen_36 : px_dec prog_9_method_33_code [.istore 5, .iload 5] 36 = true := by decide +kernel
theorem d_MD_isOpen_40 : decode prog_9_method_33_code 40 = .ok (.ifCond .eq 30, 3) := by decide +kernel
theorem k_MD_isOpen_43 : px_dec prog_9_method_33_code [.aload_n 0] 43 = true := by decide +kernel
theorem d_MD_isOpen_44 : decode prog_9_method_33_code 44 = .ok (.getfield 59, 3) := by decide +kernel
theorem k_MD_isOpen_47 : px_dec prog_9_method_33_code [.iload_n 1] 47 = true := by decide +kernel
theorem d_MD_isOpen_48 : decode prog_9_method_33_code 48 = .ok (.iaload, 1) := by decide +kernel
theorem k_MD_isOpen_49 : px_dec prog_9_method_33_code [.lload_n 3] 49 = true := by decide +kernel
theorem d_MD_isOpen_50 : decode prog_9_method_33_code 50 = .ok (.ldc2_w 132, 3) := by decide +kernel
theorem d_MD_isOpen_53 : decode prog_9_method_33_code 53 = .ok (.ldiv, 1) := by decide +kernel
theorem d_MD_isOpen_54 : decode prog_9_method_33_code 54 = .ok (.ldc2_w 134, 3) := by decide +kernel
theorem d_MD_isOpen_57 : decode prog_9_method_33_code 57 = .ok (.lrem, 1) := by decide +kernel
theorem k_MD_isOpen_58 : px_dec prog_9_method_33_code [.l2i, .ishr, .iconst 1, .iand, .iconst 1] 58 = true := by decide +kernel
theorem d_MD_isOpen_63 : decode prog_9_method_33_code 63 = .ok (.if_icmp .ne 7, 3) := by decide +kernel
theorem k_MD_isOpen_70 : px_dec prog_9_method_33_code [.iconst 0] 70 = true := by decide +kernel
theorem d_MD_isOpen_71 : decode prog_9_method_33_code 71 = .ok (.ireturn, 1) := by decide +kernel
theorem k_MD_isOpen_66 : px_dec prog_9_method_33_code [.iconst 1] 66 = true := by decide +kernel
theorem d_MD_isOpen_67 : decode prog_9_method_33_code 67 = .ok (.goto 4, 3) := by decide +kernel
theorem k_MD_isOpen_16 : px_dec prog_9_method_33_code [.aload_n 0] 16 = true := by decide +kernel
theorem d_MD_isOpen_17 : decode prog_9_method_33_code 17 = .ok (.getfield 56, 3) := by decide +kernel
theorem k_MD_isOpen_20 : px_dec prog_9_method_33_code [.iload_n 1] 20 = true := by decide +kernel
theorem d_MD_isOpen_21 : decode prog_9_method_33_code 21 = .ok (.iaload, 1) := by decide +kernel
theorem k_MD_isOpen_22 : px_dec prog_9_method_33_code [.aload_n 0] 22 = true := by decide +kernel
theorem d_MD_isOpen_23 : decode prog_9_method_33_code 23 = .ok (.getfield 16, 3) := by decide +kernel
theorem k_MD_isOpen_26 : px_dec prog_9_method_33_code [.iload_n 2] 26 = true := by decide +kernel
theorem d_MD_isOpen_27 : decode prog_9_method_33_code 27 = .ok (.iaload, 1) := by decide +kernel
theorem d_MD_isOpen_28 : decode prog_9_method_33_code 28 = .ok (.if_icmp .ne 7, 3) := by decide +kernel
theorem k_MD_isOpen_35 : px_dec prog_9_method_33_code [.iconst 0, .istore 5, .iload 5] 35 = true := by decide +kernel
set_option maxRecDepth 100000 in
set_option maxHeartbeats 4000000 in
theorem c_MD_isOpen (l : Launch) (D : va_G) (HB : Heap) (h : hp_T) (h0 : hp_T) (y : Nat) (A : Nat → Nat) (V : vT) (a : Nat) (u : Int32) (t : Int64) (ha : a < 610) (hu : ok_ u 40) (hM : mq D h0 h y A V) : ct_M l y_MD_isOpen (.code y_MD_isOpen prog_9_method_33_code 6 (Option.some Jvm.ClassFile.FieldType.boolean)) ({ frames := 0, cells := 0, slots := 0, locals := 0 }) D HB [.ref y, .int (nI a), .int u, .long t] h (fun o h2 => o = .inl (some (.int (if io_ V a (nu u) t then (1 : Int32) else 0))) ∧ h2 = h) := by
  refine ct_of (by decide) (Nat.le_of_ble_eq_true rfl) rfl ?_
  intro p_ e_ s_ m_ r_ b_ t_ c_ C hnm
  refine wk_run C k_MD_isOpen_0 (pc2 := 2) (lv2 := [(0, .ref y), (1, .int (nI a)), (2, .int u), (3, .long t)]) (st2 := [.int (-1), .int (nI a)]) rfl ?_
  refine wk_br C d_MD_isOpen_2 (P := ¬ (nI a) = (-1)) (tgt := 7) (rest := []) rfl (by decide) (fun c1 => ?_) (fun c1 => ?_)
  ·
    refine wk_run C k_MD_isOpen_7 (pc2 := 8) (lv2 := [(0, .ref y), (1, .int (nI a)), (2, .int u), (3, .long t)]) (st2 := [.ref y]) rfl ?_
    refine wk_get (v := .ref (A 19)) C fd_MD_56 hM.ob rfl d_MD_isOpen_8 ?_
    refine wk_run C k_MD_isOpen_11 (pc2 := 12) (lv2 := [(0, .ref y), (1, .int (nI a)), (2, .int u), (3, .long t)]) (st2 := [.int (nI a), .ref (A 19)]) rfl ?_
    refine wm_ld C hM 19 (j := a) rfl (vi_k (ok_nI (Nat.le_of_lt_succ ha) (by decide)) (by decide) (by decide)) (nu_nI (by omega)) d_MD_isOpen_12 ?_
    show Wk _ _ _ _ _ _ _ _ _ _ _ _ _ _ _ _ _ _ _ (.int (V 19 a) :: _)
    refine wk_br C d_MD_isOpen_13 (P := (V 19 a) = 0) (tgt := 31) (rest := []) rfl (by decide) (fun c2 => ?_) (fun c2 => ?_)
    ·
      refine wk_run C k_MD_isOpen_31 (pc2 := 32) (lv2 := [(0, .ref y), (1, .int (nI a)), (2, .int u), (3, .long t)]) (st2 := [.int 1]) rfl ?_
      refine wk_goto C d_MD_isOpen_32 (tgt := 36) (by decide) ?_
      refine wk_run C k_MD_isOpen_36 (pc2 := 40) (lv2 := [(5, .int 1), (0, .ref y), (1, .int (nI a)), (2, .int u), (3, .long t)]) (st2 := [.int 1]) rfl ?_
      refine wk_br C d_MD_isOpen_40 (P := 1 = 0) (tgt := 70) (rest := []) rfl (by decide) (fun c3 => ?_) (fun c3 => ?_)
      ·
        exact absurd c3 (by decide)
      ·
        refine wk_run C k_MD_isOpen_43 (pc2 := 44) (lv2 := [(5, .int 1), (0, .ref y), (1, .int (nI a)), (2, .int u), (3, .long t)]) (st2 := [.ref y]) rfl ?_
        refine wk_get (v := .ref (A 20)) C fd_MD_59 hM.ob rfl d_MD_isOpen_44 ?_
        refine wk_run C k_MD_isOpen_47 (pc2 := 48) (lv2 := [(5, .int 1), (0, .ref y), (1, .int (nI a)), (2, .int u), (3, .long t)]) (st2 := [.int (nI a), .ref (A 20)]) rfl ?_
        refine wm_ld C hM 20 (j := a) rfl (vi_k (ok_nI (Nat.le_of_lt_succ ha) (by decide)) (by decide) (by decide)) (nu_nI (by omega)) d_MD_isOpen_48 ?_
        show Wk _ _ _ _ _ _ _ _ _ _ _ _ _ _ _ _ _ _ _ (.int (V 20 a) :: _)
        refine wk_run C k_MD_isOpen_49 (pc2 := 50) (lv2 := [(5, .int 1), (0, .ref y), (1, .int (nI a)), (2, .int u), (3, .long t)]) (st2 := [.long t, .int (V 20 a)]) rfl ?_
        refine wk_ldc2 C kl_MD_132 d_MD_isOpen_50 ?_
        refine wk_ldiv C d_MD_isOpen_53 (by decide) ?_
        refine wk_ldc2 C kl_MD_134 d_MD_isOpen_54 ?_
        refine wk_lrem C d_MD_isOpen_57 (by decide) ?_
        refine wk_run C k_MD_isOpen_58 (pc2 := 63) (lv2 := [(5, .int 1), (0, .ref y), (1, .int (nI a)), (2, .int u), (3, .long t)]) (st2 := [.int 1, .int (((V 20 a) >>> ((((t / 60) - (t / 60) / 24 * 24).toInt32) &&& 31)) &&& 1)]) rfl ?_
        refine wk_br C d_MD_isOpen_63 (P := ¬ (((V 20 a) >>> ((((t / 60) - (t / 60) / 24 * 24).toInt32) &&& 31)) &&& 1) = 1) (tgt := 70) (rest := []) rfl (by decide) (fun c4 => ?_) (fun c4 => ?_)
        ·
          refine wk_run C k_MD_isOpen_70 (pc2 := 71) (lv2 := [(5, .int 1), (0, .ref y), (1, .int (nI a)), (2, .int u), (3, .long t)]) (st2 := [.int 0]) rfl ?_
          exact wk_zret C rfl ⟨by rw [if_neg (by clear C hM hnm; grind)], rfl⟩ (by decide) (by decide) d_MD_isOpen_71
        ·
          refine wk_run C k_MD_isOpen_66 (pc2 := 67) (lv2 := [(5, .int 1), (0, .ref y), (1, .int (nI a)), (2, .int u), (3, .long t)]) (st2 := [.int 1]) rfl ?_
          refine wk_goto C d_MD_isOpen_67 (tgt := 71) (by decide) ?_
          exact wk_zret C rfl ⟨by rw [if_pos (by clear C hM hnm; grind)], rfl⟩ (by decide) (by decide) d_MD_isOpen_71
    ·
      refine wk_run C k_MD_isOpen_16 (pc2 := 17) (lv2 := [(0, .ref y), (1, .int (nI a)), (2, .int u), (3, .long t)]) (st2 := [.ref y]) rfl ?_
      refine wk_get (v := .ref (A 19)) C fd_MD_56 hM.ob rfl d_MD_isOpen_17 ?_
      refine wk_run C k_MD_isOpen_20 (pc2 := 21) (lv2 := [(0, .ref y), (1, .int (nI a)), (2, .int u), (3, .long t)]) (st2 := [.int (nI a), .ref (A 19)]) rfl ?_
      refine wm_ld C hM 19 (j := a) rfl (vi_k (ok_nI (Nat.le_of_lt_succ ha) (by decide)) (by decide) (by decide)) (nu_nI (by omega)) d_MD_isOpen_21 ?_
      show Wk _ _ _ _ _ _ _ _ _ _ _ _ _ _ _ _ _ _ _ (.int (V 19 a) :: _)
      refine wk_run C k_MD_isOpen_22 (pc2 := 23) (lv2 := [(0, .ref y), (1, .int (nI a)), (2, .int u), (3, .long t)]) (st2 := [.ref y, .int (V 19 a)]) rfl ?_
      refine wk_get (v := .ref (A 3)) C fd_MD_16 hM.ob rfl d_MD_isOpen_23 ?_
      refine wk_run C k_MD_isOpen_26 (pc2 := 27) (lv2 := [(0, .ref y), (1, .int (nI a)), (2, .int u), (3, .long t)]) (st2 := [.int u, .ref (A 3), .int (V 19 a)]) rfl ?_
      refine wm_ld C hM 3 (j := nu u) rfl (vi_k hu (by decide) (by decide)) rfl d_MD_isOpen_27 ?_
      show Wk _ _ _ _ _ _ _ _ _ _ _ _ _ _ _ _ _ _ _ (.int (V 3 (nu u)) :: _)
      refine wk_br C d_MD_isOpen_28 (P := ¬ (V 19 a) = (V 3 (nu u))) (tgt := 35) (rest := []) rfl (by decide) (fun c5 => ?_) (fun c5 => ?_)
      ·
        refine wk_run C k_MD_isOpen_35 (pc2 := 40) (lv2 := [(5, .int 0), (0, .ref y), (1, .int (nI a)), (2, .int u), (3, .long t)]) (st2 := [.int 0]) rfl ?_
        refine wk_br C d_MD_isOpen_40 (P := 0 = 0) (tgt := 70) (rest := []) rfl (by decide) (fun c6 => ?_) (fun c6 => ?_)
        ·
          refine wk_run C k_MD_isOpen_70 (pc2 := 71) (lv2 := [(5, .int 0), (0, .ref y), (1, .int (nI a)), (2, .int u), (3, .long t)]) (st2 := [.int 0]) rfl ?_
          exact wk_zret C rfl ⟨by rw [if_neg (by clear C hM hnm; grind)], rfl⟩ (by decide) (by decide) d_MD_isOpen_71
        ·
          exact absurd (by decide) c6
      ·
        refine wk_run C k_MD_isOpen_31 (pc2 := 32) (lv2 := [(0, .ref y), (1, .int (nI a)), (2, .int u), (3, .long t)]) (st2 := [.int 1]) rfl ?_
        refine wk_goto C d_MD_isOpen_32 (tgt := 36) (by decide) ?_
        refine wk_run C k_MD_isOpen_36 (pc2 := 40) (lv2 := [(5, .int 1), (0, .ref y), (1, .int (nI a)), (2, .int u), (3, .long t)]) (st2 := [.int 1]) rfl ?_
        refine wk_br C d_MD_isOpen_40 (P := 1 = 0) (tgt := 70) (rest := []) rfl (by decide) (fun c7 => ?_) (fun c7 => ?_)
        ·
          exact absurd c7 (by decide)
        ·
          refine wk_run C k_MD_isOpen_43 (pc2 := 44) (lv2 := [(5, .int 1), (0, .ref y), (1, .int (nI a)), (2, .int u), (3, .long t)]) (st2 := [.ref y]) rfl ?_
          refine wk_get (v := .ref (A 20)) C fd_MD_59 hM.ob rfl d_MD_isOpen_44 ?_
          refine wk_run C k_MD_isOpen_47 (pc2 := 48) (lv2 := [(5, .int 1), (0, .ref y), (1, .int (nI a)), (2, .int u), (3, .long t)]) (st2 := [.int (nI a), .ref (A 20)]) rfl ?_
          refine wm_ld C hM 20 (j := a) rfl (vi_k (ok_nI (Nat.le_of_lt_succ ha) (by decide)) (by decide) (by decide)) (nu_nI (by omega)) d_MD_isOpen_48 ?_
          show Wk _ _ _ _ _ _ _ _ _ _ _ _ _ _ _ _ _ _ _ (.int (V 20 a) :: _)
          refine wk_run C k_MD_isOpen_49 (pc2 := 50) (lv2 := [(5, .int 1), (0, .ref y), (1, .int (nI a)), (2, .int u), (3, .long t)]) (st2 := [.long t, .int (V 20 a)]) rfl ?_
          refine wk_ldc2 C kl_MD_132 d_MD_isOpen_50 ?_
          refine wk_ldiv C d_MD_isOpen_53 (by decide) ?_
          refine wk_ldc2 C kl_MD_134 d_MD_isOpen_54 ?_
          refine wk_lrem C d_MD_isOpen_57 (by decide) ?_
          refine wk_run C k_MD_isOpen_58 (pc2 := 63) (lv2 := [(5, .int 1), (0, .ref y), (1, .int (nI a)), (2, .int u), (3, .long t)]) (st2 := [.int 1, .int (((V 20 a) >>> ((((t / 60) - (t / 60) / 24 * 24).toInt32) &&& 31)) &&& 1)]) rfl ?_
          refine wk_br C d_MD_isOpen_63 (P := ¬ (((V 20 a) >>> ((((t / 60) - (t / 60) / 24 * 24).toInt32) &&& 31)) &&& 1) = 1) (tgt := 70) (rest := []) rfl (by decide) (fun c8 => ?_) (fun c8 => ?_)
          ·
            refine wk_run C k_MD_isOpen_70 (pc2 := 71) (lv2 := [(5, .int 1), (0, .ref y), (1, .int (nI a)), (2, .int u), (3, .long t)]) (st2 := [.int 0]) rfl ?_
            exact wk_zret C rfl ⟨by rw [if_neg (by clear C hM hnm; grind)], rfl⟩ (by decide) (by decide) d_MD_isOpen_71
          ·
            refine wk_run C k_MD_isOpen_66 (pc2 := 67) (lv2 := [(5, .int 1), (0, .ref y), (1, .int (nI a)), (2, .int u), (3, .long t)]) (st2 := [.int 1]) rfl ?_
            refine wk_goto C d_MD_isOpen_67 (tgt := 71) (by decide) ?_
            exact wk_zret C rfl ⟨by rw [if_pos (by clear C hM hnm; grind)], rfl⟩ (by decide) (by decide) d_MD_isOpen_71
  ·
    refine wk_run C k_MD_isOpen_5 (pc2 := 6) (lv2 := [(0, .ref y), (1, .int (nI a)), (2, .int u), (3, .long t)]) (st2 := [.int 0]) rfl ?_
    exact wk_zret C rfl ⟨absurd (Classical.not_not.mp c1) (nI_nm (by omega)), rfl⟩ (by decide) (by decide) d_MD_isOpen_6
end
section
theorem nxe_ {a b : Int32} {k m n : Nat} (ha : ok_ a m) (hb : ok_ b n) : nI k * a + b = nI (k * nu a + nu b) := by
  rw [ha.1, hb.1]; unfold nI nu
  rw [← Int32.ofNat_mul, ← Int32.ofNat_add]
  rw [show (Int32.ofNat (Int32.toNatClampNeg a)) = a from ha.1.symm, show (Int32.ofNat (Int32.toNatClampNeg b)) = b from hb.1.symm]
/-- the place of an entry in a list -/
def er_ (p : Nat) (r : Option Nat) : Int32 := match r with
  | some k => nI (10 * p + k)
  | none => -1
noncomputable def fe_ (V : vT) (p : Nat) (x : Int32) : Option Nat := Classical.choose (fs_ex (fun k => V 17 (10 * p + k)) x (nu (V 16 p)))
theorem fe_s (V : vT) (p : Nat) (x : Int32) : fs_ (fun k => V 17 (10 * p + k)) x (nu (V 16 p)) (fe_ V p x) := Classical.choose_spec (fs_ex (fun k => V 17 (10 * p + k)) x (nu (V 16 p)))

theorem k_MD_entry_0 : px_dec prog_9_method_23_code [.iconst 0, .istore_n 3] 0 = true := by decide +kernel
theorem k_MD_entry_2 : px_dec prog_9_method_23_code [.iload_n 3, .aload_n 0] 2 = true := by decide +kernel
theorem d_MD_entry_4 : decode prog_9_method_23_code 4 = .ok (.getfield 47, 3) := by decide +kernel
theorem k_MD_entry_7 : px_dec prog_9_method_23_code [.iload_n 1] 7 = true := by decide +kernel
theorem d_MD_entry_8 : decode prog_9_method_23_code 8 = .ok (.iaload, 1) := by decide +kernel
theorem d_MD_entry_9 : decode prog_9_method_23_code 9 = .ok (.if_icmp .ge 31, 3) := by decide +kernel
theorem k_MD_entry_40 : px_dec prog_9_method_23_code [.iconst (-1)] 40 = true := by decide +kernel
theorem d_MD_entry_41 : decode prog_9_method_23_code 41 = .ok (.ireturn, 1) := by decide +kernel
theorem k_MD_entry_12 : px_dec prog_9_method_23_code [.aload_n 0] 12 = true := by decide +kernel
theorem d_MD_entry_13 : decode prog_9_method_23_code 13 = .ok (.getfield 50, 3) := by decide +kernel
theorem k_MD_entry_16 : px_dec prog_9_method_23_code [.bipush 10, .iload_n 1, .imul, .iload_n 3, .iadd] 16 = true := by decide +kernel
theorem d_MD_entry_22 : decode prog_9_method_23_code 22 = .ok (.iaload, 1) := by decide +kernel
theorem k_MD_entry_23 : px_dec prog_9_method_23_code [.iload_n 2] 23 = true := by decide +kernel
theorem d_MD_entry_24 : decode prog_9_method_23_code 24 = .ok (.if_icmp .ne 10, 3) := by decide +kernel
theorem k_MD_entry_34 : px_dec prog_9_method_23_code [.iinc 3 1] 34 = true := by decide +kernel
theorem d_MD_entry_37 : decode prog_9_method_23_code 37 = .ok (.goto (-35), 3) := by decide +kernel
theorem k_MD_entry_27 : px_dec prog_9_method_23_code [.bipush 10, .iload_n 1, .imul, .iload_n 3, .iadd] 27 = true := by decide +kernel
theorem d_MD_entry_33 : decode prog_9_method_23_code 33 = .ok (.ireturn, 1) := by decide +kernel
set_option maxRecDepth 100000 in
set_option maxHeartbeats 4000000 in
theorem c_MD_entry (l : Launch) (D : va_G) (HB : Heap) (h : hp_T) (h0 : hp_T) (y : Nat) (A : Nat → Nat) (V : vT) (p x : Int32) (r : Option Nat) (hp : ok_ p 60) (hE : ok_ (V 16 (nu p)) 10) (hr : fs_ (fun k => V 17 (10 * nu p + k)) x (nu (V 16 (nu p))) r) (hM : mq D h0 h y A V) : ct_M l y_MD_entry (.code y_MD_entry prog_9_method_23_code 4 (Option.some Jvm.ClassFile.FieldType.int)) ({ frames := 0, cells := 0, slots := 0, locals := 0 }) D HB [.ref y, .int p, .int x] h (fun o h2 => o = .inl (some (.int (er_ (nu p) r))) ∧ h2 = h) := by
  refine ct_of (by decide) (Nat.le_of_ble_eq_true rfl) rfl ?_
  intro p_ e_ s_ m_ r_ b_ t_ c_ C hnm
  refine wk_run C k_MD_entry_0 (pc2 := 2) (lv2 := [(3, .int 0), (0, .ref y), (1, .int p), (2, .int x)]) (st2 := []) rfl ?_
  refine Wk.sub (lv2 := [(0, .ref y), (1, .int p), (2, .int x), (3, .int 0)]) [1, 2, 3, 0] rfl ?_
  have hE2 := hE.2
  refine wk_ind (σ := Nat) (hF := fun _ => h) (lvF := fun i => [(0, .ref y), (1, .int p), (2, .int x), (3, .int (nI i))]) (fun i => nu (V 16 (nu p)) - i) (fun i => i ≤ nu (V 16 (nu p)) ∧ ∀ j, j < i → V 17 (10 * nu p + j) ≠ x) (fun i hi ih => ?_) 0 ⟨Nat.zero_le _, fun j hj => absurd hj (Nat.not_lt_zero j)⟩
  show Wk _ _ _ _ _ _ _ _ _ _ _ _ _ _ _ _ _ _ [(0, .ref y), (1, .int p), (2, .int x), (3, .int (nI i))] _
  have hi1 := hi.1
  refine wk_run C k_MD_entry_2 (pc2 := 4) (lv2 := [(0, .ref y), (1, .int p), (2, .int x), (3, .int (nI i))]) (st2 := [.ref y, .int (nI i)]) rfl ?_
  refine wk_get (v := .ref (A 16)) C fd_MD_47 hM.ob rfl d_MD_entry_4 ?_
  refine wk_run C k_MD_entry_7 (pc2 := 8) (lv2 := [(0, .ref y), (1, .int p), (2, .int x), (3, .int (nI i))]) (st2 := [.int p, .ref (A 16), .int (nI i)]) rfl ?_
  refine wm_ld C hM 16 (j := nu p) rfl (vi_k hp (by decide) (by decide)) rfl d_MD_entry_8 ?_
  show Wk _ _ _ _ _ _ _ _ _ _ _ _ _ _ _ _ _ _ _ (.int (V 16 (nu p)) :: _)
  refine wk_br C d_MD_entry_9 (P := (V 16 (nu p)) ≤ (nI i)) (tgt := 40) (rest := []) rfl (by decide) (fun c1 => ?_) (fun c1 => ?_)
  ·
    refine wk_run C k_MD_entry_40 (pc2 := 41) (lv2 := [(0, .ref y), (1, .int p), (2, .int x), (3, .int (nI i))]) (st2 := [.int (-1)]) rfl ?_
    have hin : nu (V 16 (nu p)) ≤ i := by have := c1; rw [hE.1, nI_leI (by omega) (by omega)] at this; exact this
    have hr0 : r = none := fs_un hr (fun j hj => hi.2 j (by omega))
    subst hr0
    exact wk_iret C ⟨rfl, rfl⟩ (by decide) (by decide) d_MD_entry_41
  ·
    have hin : i < nu (V 16 (nu p)) := by rcases Nat.lt_or_ge i (nu (V 16 (nu p))) with z | z; exact z; exact absurd (by rw [hE.1]; exact nI_le z (by omega)) c1
    refine wk_run C k_MD_entry_12 (pc2 := 13) (lv2 := [(0, .ref y), (1, .int p), (2, .int x), (3, .int (nI i))]) (st2 := [.ref y]) rfl ?_
    refine wk_get (v := .ref (A 17)) C fd_MD_50 hM.ob rfl d_MD_entry_13 ?_
    refine wk_run C k_MD_entry_16 (pc2 := 22) (lv2 := [(0, .ref y), (1, .int p), (2, .int x), (3, .int (nI i))]) (st2 := [.int ((10 * p) + (nI i)), .ref (A 17)]) rfl ?_
    refine wm_ld C hM 17 (j := 10 * nu p + i) rfl (nx_ (k := 10) (m := 60) (n := 9) (N := 610) hp (ok_nI (m := i) (n := 9) (by omega) (by decide)) (by decide) (by decide)).1 ((nx_ (k := 10) (m := 60) (n := 9) (N := 610) hp (ok_nI (m := i) (n := 9) (by omega) (by decide)) (by decide) (by decide)).2.trans (by rw [nu_nI (by omega)])) d_MD_entry_22 ?_
    show Wk _ _ _ _ _ _ _ _ _ _ _ _ _ _ _ _ _ _ _ (.int (V 17 (10 * nu p + i)) :: _)
    refine wk_run C k_MD_entry_23 (pc2 := 24) (lv2 := [(0, .ref y), (1, .int p), (2, .int x), (3, .int (nI i))]) (st2 := [.int x, .int (V 17 (10 * nu p + i))]) rfl ?_
    refine wk_br C d_MD_entry_24 (P := ¬ (V 17 (10 * nu p + i)) = x) (tgt := 34) (rest := []) rfl (by decide) (fun c2 => ?_) (fun c2 => ?_)
    ·
      refine wk_run C k_MD_entry_34 (pc2 := 37) (lv2 := [(3, .int ((nI i) + 1)), (0, .ref y), (1, .int p), (2, .int x)]) (st2 := []) rfl ?_
      refine wk_goto C d_MD_entry_37 (tgt := 2) (by decide) ?_
      refine Wk.sub (lv2 := [(0, .ref y), (1, .int p), (2, .int x), (3, .int ((nI i) + 1))]) [1, 2, 3, 0] rfl ?_
      rw [nI_1]
      exact ih (i + 1) ⟨by omega, fun j hj => by by_cases z : j = i; (subst z; exact c2); exact hi.2 j (by omega)⟩ (by omega)
    ·
      refine wk_run C k_MD_entry_27 (pc2 := 33) (lv2 := [(0, .ref y), (1, .int p), (2, .int x), (3, .int (nI i))]) (st2 := [.int ((10 * p) + (nI i))]) rfl ?_
      have hr0 : r = some i := fs_un hr ⟨hin, Classical.not_not.mp c2, hi.2⟩
      subst hr0
      exact wk_iret C ⟨by rw [show (10 : Int32) * p + nI i = nI (10 * nu p + nu (nI i)) from nxe_ (k := 10) hp (ok_nI (m := i) (n := 9) (by omega) (by decide)), nu_nI (by omega)]; rfl, rfl⟩ (by decide) (by decide) d_MD_entry_33
noncomputable def sp_condition (V : vT) (p x t b : Int32) : rT := if ¬ ((¬ p < 1 ∧ p ≤ V 9 0) ∧ ho_ V x ∧ ¬ t < 0 ∧ t < 100) then (1, 0, vc V 0 1) else match fe_ V (nu p) x with
  | none => (0, 0, vc V 0 0)
  | some k => (0, 1, vs (vs (vc V 0 0) 19 (upd (V 19) (10 * nu p + k) t)) 20 (upd (V 20) (10 * nu p + k) (b &&& 16777215)))

theorem k_MD_condition_0 : px_dec prog_9_method_25_code [.aload_n 0, .aload_n 0, .iload_n 1] 0 = true := by decide +kernel
theorem d_MD_condition_3 : decode prog_9_method_25_code 3 = .ok (.invokevirtual 101, 3) := by decide +kernel
theorem d_MD_condition_6 : decode prog_9_method_25_code 6 = .ok (.ifCond .eq 18, 3) := by decide +kernel
theorem k_MD_condition_24 : px_dec prog_9_method_25_code [.iconst 1] 24 = true := by decide +kernel
theorem d_MD_condition_25 : decode prog_9_method_25_code 25 = .ok (.goto 4, 3) := by decide +kernel
theorem k_MD_condition_29 : px_dec prog_9_method_25_code [.iconst 0] 29 = true := by decide +kernel
theorem d_MD_condition_30 : decode prog_9_method_25_code 30 = .ok (.invokevirtual 88, 3) := by decide +kernel
theorem d_MD_condition_33 : decode prog_9_method_25_code 33 = .ok (.ifCond .eq 5, 3) := by decide +kernel
theorem k_MD_condition_36 : px_dec prog_9_method_25_code [.iconst 0] 36 = true := by decide +kernel
theorem d_MD_condition_37 : decode prog_9_method_25_code 37 = .ok (.ireturn, 1) := by decide +kernel
theorem k_MD_condition_9 : px_dec prog_9_method_25_code [.aload_n 0, .iload_n 2] 9 = true := by decide +kernel
theorem d_MD_condition_11 : decode prog_9_method_25_code 11 = .ok (.invokevirtual 107, 3) := by decide +kernel
theorem d_MD_condition_14 : decode prog_9_method_25_code 14 = .ok (.ifCond .eq 10, 3) := by decide +kernel
theorem k_MD_condition_17 : px_dec prog_9_method_25_code [.iload_n 3] 17 = true := by decide +kernel
theorem d_MD_condition_18 : decode prog_9_method_25_code 18 = .ok (.invokestatic 95, 3) := by decide +kernel
theorem d_MD_condition_21 : decode prog_9_method_25_code 21 = .ok (.ifCond .ne 7, 3) := by decide +kernel
theorem k_MD_condition_28 : px_dec prog_9_method_25_code [.iconst 0, .iconst 0] 28 = true := by decide +kernel
theorem k_MD_condition_38 : px_dec prog_9_method_25_code [.aload_n 0, .iload_n 1, .iload_n 2] 38 = true := by decide +kernel
theorem d_MD_condition_41 : decode prog_9_method_25_code 41 = .ok (.invokevirtual 110, 3) := by decide +kernel
theorem k_MD_condition_44 : px_dec prog_9_method_25_code [.istore 5, .iload 5, .iconst (-1)] 44 = true := by decide +kernel
theorem d_MD_condition_49 : decode prog_9_method_25_code 49 = .ok (.if_icmp .ne 5, 3) := by decide +kernel
theorem k_MD_condition_52 : px_dec prog_9_method_25_code [.iconst 0] 52 = true := by decide +kernel
theorem d_MD_condition_53 : decode prog_9_method_25_code 53 = .ok (.ireturn, 1) := by decide +kernel
set_option maxRecDepth 100000 in
set_option maxHeartbeats 4000000 in
theorem c_MD_conditionN (l : Launch) (D : va_G) (HB : Heap) (h : hp_T) (h0 : hp_T) (y : Nat) (A : Nat → Nat) (V : vT) (p : Int32) (x : Int32) (t : Int32) (b : Int32) (hP : ok_ (V 9 0) 60) (hE : ok_ (V 16 (nu p)) 10) (hf : fe_ V (nu p) x = none) (hM : mq D h0 h y A V) : ct_M l y_MD_condition (.code y_MD_condition prog_9_method_25_code 6 (Option.some Jvm.ClassFile.FieldType.int)) ({ frames := 2, cells := 0, slots := 0, locals := 60 }) D HB [.ref y, .int p, .int x, .int t, .int b] h (fun o h2 => ∃ (cd r : Int32) (V2 : vT), sp_condition V p x t b = (cd, r, V2) ∧ o = .inl (some (.int r)) ∧ mq D h0 h2 y A V2) := by
  refine ct_of (by decide) (Nat.le_of_ble_eq_true rfl) rfl ?_
  intro p_ e_ s_ m_ r_ b_ t_ c_ C hnm
  refine wk_run C k_MD_condition_0 (pc2 := 3) (lv2 := [(0, .ref y), (1, .int p), (2, .int x), (3, .int t), (4, .int b)]) (st2 := [.int p, .ref y, .ref y]) rfl ?_
  refine wk_callV (cl := ("ProfileRightsModel", T_MD, 27)) (rest := [.ref y]) C (c_MD_isProfile l D HB h h0 y A (V) p hM) cs_MD_101 kc_MD_isProfile ki_MD hM.ob rfl rfl rfl (Nat.le_of_ble_eq_true rfl) (Nat.le_of_ble_eq_true rfl) (Nat.le_of_ble_eq_true rfl) (Nat.le_of_ble_eq_true rfl) (Nat.le_of_ble_eq_true rfl) d_MD_condition_3 (fun v h2 hq => ?_) (fun _ _ z => nomatch z.1)
  obtain ⟨e1, e2⟩ := hq; cases e1; replace e2 := e2.symm; subst e2
  show Wk _ _ _ _ _ _ _ _ _ _ _ _ _ _ _ _ _ _ _ (.int (if ¬ p < 1 ∧ p ≤ V 9 0 then (1 : Int32) else 0) :: _)
  refine wk_br C d_MD_condition_6 (P := (if ¬ p < 1 ∧ p ≤ V 9 0 then (1 : Int32) else 0) = 0) (tgt := 24) (rest := [.ref y]) rfl (by decide) (fun c1 => ?_) (fun c1 => ?_)
  ·
    replace c1 := bz_ c1
    refine wk_run C k_MD_condition_24 (pc2 := 25) (lv2 := [(0, .ref y), (1, .int p), (2, .int x), (3, .int t), (4, .int b)]) (st2 := [.int 1, .ref y]) rfl ?_
    refine wk_goto C d_MD_condition_25 (tgt := 29) (by decide) ?_
    refine wk_run C k_MD_condition_29 (pc2 := 30) (lv2 := [(0, .ref y), (1, .int p), (2, .int x), (3, .int t), (4, .int b)]) (st2 := [.int 0, .int 1, .ref y]) rfl ?_
    refine wk_callV (cl := ("ProfileRightsModel", T_MD, 27)) (rest := []) C (c_MD_f1 l D HB h h0 y A (V) hM) cs_MD_88 kc_MD_fails ki_MD hM.ob rfl rfl rfl (Nat.le_of_ble_eq_true rfl) (Nat.le_of_ble_eq_true rfl) (Nat.le_of_ble_eq_true rfl) (Nat.le_of_ble_eq_true rfl) (Nat.le_of_ble_eq_true rfl) d_MD_condition_30 (fun v h hq => ?_) (fun _ _ z => nomatch z.1)
    obtain ⟨e1, hM⟩ := hq; cases e1
    refine wk_br C d_MD_condition_33 (P := 1 = 0) (tgt := 38) (rest := []) rfl (by decide) (fun c2 => ?_) (fun c2 => ?_)
    ·
      exact absurd c2 (by decide)
    ·
      refine wk_run C k_MD_condition_36 (pc2 := 37) (lv2 := [(0, .ref y), (1, .int p), (2, .int x), (3, .int t), (4, .int b)]) (st2 := [.int 0]) rfl ?_
      exact wk_iret C ⟨1, 0, vc (V) 0 1, by clear C hM hnm; grind [sp_condition], rfl, hM⟩ (by decide) (by decide) d_MD_condition_37
  ·
    replace c1 := bn_ c1
    refine wk_run C k_MD_condition_9 (pc2 := 11) (lv2 := [(0, .ref y), (1, .int p), (2, .int x), (3, .int t), (4, .int b)]) (st2 := [.int x, .ref y, .ref y]) rfl ?_
    refine wk_callV (cl := ("ProfileRightsModel", T_MD, 27)) (rest := [.ref y]) C (c_MD_isWho l D HB h h0 y A (V) x hM) cs_MD_107 kc_MD_isWho ki_MD hM.ob rfl rfl rfl (Nat.le_of_ble_eq_true rfl) (Nat.le_of_ble_eq_true rfl) (Nat.le_of_ble_eq_true rfl) (Nat.le_of_ble_eq_true rfl) (Nat.le_of_ble_eq_true rfl) d_MD_condition_11 (fun v h2 hq => ?_) (fun _ _ z => nomatch z.1)
    obtain ⟨e1, e2⟩ := hq; cases e1; replace e2 := e2.symm; subst e2
    show Wk _ _ _ _ _ _ _ _ _ _ _ _ _ _ _ _ _ _ _ (.int (if ho_ (V) x then (1 : Int32) else 0) :: _)
    refine wk_br C d_MD_condition_14 (P := (if ho_ (V) x then (1 : Int32) else 0) = 0) (tgt := 24) (rest := [.ref y]) rfl (by decide) (fun c3 => ?_) (fun c3 => ?_)
    ·
      replace c3 := bz_ c3
      refine wk_run C k_MD_condition_24 (pc2 := 25) (lv2 := [(0, .ref y), (1, .int p), (2, .int x), (3, .int t), (4, .int b)]) (st2 := [.int 1, .ref y]) rfl ?_
      refine wk_goto C d_MD_condition_25 (tgt := 29) (by decide) ?_
      refine wk_run C k_MD_condition_29 (pc2 := 30) (lv2 := [(0, .ref y), (1, .int p), (2, .int x), (3, .int t), (4, .int b)]) (st2 := [.int 0, .int 1, .ref y]) rfl ?_
      refine wk_callV (cl := ("ProfileRightsModel", T_MD, 27)) (rest := []) C (c_MD_f1 l D HB h h0 y A (V) hM) cs_MD_88 kc_MD_fails ki_MD hM.ob rfl rfl rfl (Nat.le_of_ble_eq_true rfl) (Nat.le_of_ble_eq_true rfl) (Nat.le_of_ble_eq_true rfl) (Nat.le_of_ble_eq_true rfl) (Nat.le_of_ble_eq_true rfl) d_MD_condition_30 (fun v h hq => ?_) (fun _ _ z => nomatch z.1)
      obtain ⟨e1, hM⟩ := hq; cases e1
      refine wk_br C d_MD_condition_33 (P := 1 = 0) (tgt := 38) (rest := []) rfl (by decide) (fun c4 => ?_) (fun c4 => ?_)
      ·
        exact absurd c4 (by decide)
      ·
        refine wk_run C k_MD_condition_36 (pc2 := 37) (lv2 := [(0, .ref y), (1, .int p), (2, .int x), (3, .int t), (4, .int b)]) (st2 := [.int 0]) rfl ?_
        exact wk_iret C ⟨1, 0, vc (V) 0 1, by clear C hM hnm; grind [sp_condition], rfl, hM⟩ (by decide) (by decide) d_MD_condition_37
    ·
      replace c3 := bn_ c3
      refine wk_run C k_MD_condition_17 (pc2 := 18) (lv2 := [(0, .ref y), (1, .int p), (2, .int x), (3, .int t), (4, .int b)]) (st2 := [.int t, .ref y]) rfl ?_
      refine wk_callS (rest := [.ref y]) C (c_MD_isTerminal l D HB h t) cs_MD_95 kc_MD_isTerminal ki_MD rfl rfl (Nat.le_of_ble_eq_true rfl) (Nat.le_of_ble_eq_true rfl) (Nat.le_of_ble_eq_true rfl) (Nat.le_of_ble_eq_true rfl) (Nat.le_of_ble_eq_true rfl) d_MD_condition_18 (fun v h2 hq => ?_) (fun _ _ z => nomatch z.1)
      obtain ⟨e1, e2⟩ := hq; cases e1; replace e2 := e2.symm; subst e2
      refine wk_br C d_MD_condition_21 (P := ¬ (if ¬ t < 0 ∧ t < 100 then (1 : Int32) else 0) = 0) (tgt := 28) (rest := [.ref y]) rfl (by decide) (fun c5 => ?_) (fun c5 => ?_)
      ·
        replace c5 := bn_ c5
        refine wk_run C k_MD_condition_28 (pc2 := 30) (lv2 := [(0, .ref y), (1, .int p), (2, .int x), (3, .int t), (4, .int b)]) (st2 := [.int 0, .int 0, .ref y]) rfl ?_
        refine wk_callV (cl := ("ProfileRightsModel", T_MD, 27)) (rest := []) C (c_MD_f0 l D HB h h0 y A (V) hM) cs_MD_88 kc_MD_fails ki_MD hM.ob rfl rfl rfl (Nat.le_of_ble_eq_true rfl) (Nat.le_of_ble_eq_true rfl) (Nat.le_of_ble_eq_true rfl) (Nat.le_of_ble_eq_true rfl) (Nat.le_of_ble_eq_true rfl) d_MD_condition_30 (fun v h hq => ?_) (fun _ _ z => nomatch z.1)
        obtain ⟨e1, hM⟩ := hq; cases e1
        refine wk_br C d_MD_condition_33 (P := 0 = 0) (tgt := 38) (rest := []) rfl (by decide) (fun c6 => ?_) (fun c6 => ?_)
        ·
          refine wk_run C k_MD_condition_38 (pc2 := 41) (lv2 := [(0, .ref y), (1, .int p), (2, .int x), (3, .int t), (4, .int b)]) (st2 := [.int x, .int p, .ref y]) rfl ?_
          refine wk_callV (cl := ("ProfileRightsModel", T_MD, 27)) (rest := []) C (c_MD_entry l D HB h h0 y A (vc (V) 0 0) p x none (ok_r c1.1 c1.2 hP (by decide)) hE (hf ▸ fe_s V (nu p) x) hM) cs_MD_110 kc_MD_entry ki_MD hM.ob rfl rfl rfl (Nat.le_of_ble_eq_true rfl) (Nat.le_of_ble_eq_true rfl) (Nat.le_of_ble_eq_true rfl) (Nat.le_of_ble_eq_true rfl) (Nat.le_of_ble_eq_true rfl) d_MD_condition_41 (fun v h2 hq => ?_) (fun _ _ z => nomatch z.1)
          obtain ⟨e1, e2⟩ := hq; cases e1; replace e2 := e2.symm; subst e2
          show Wk _ _ _ _ _ _ _ _ _ _ _ _ _ _ _ _ _ _ _ (.int (-1) :: _)
          refine wk_run C k_MD_condition_44 (pc2 := 49) (lv2 := [(5, .int (-1)), (0, .ref y), (1, .int p), (2, .int x), (3, .int t), (4, .int b)]) (st2 := [.int (-1), .int (-1)]) rfl ?_
          refine wk_br C d_MD_condition_49 (P := ¬ (-1) = (-1)) (tgt := 54) (rest := []) rfl (by decide) (fun c7 => ?_) (fun c7 => ?_)
          ·
            exact absurd c7 (by decide)
          ·
            refine wk_run C k_MD_condition_52 (pc2 := 53) (lv2 := [(5, .int (-1)), (0, .ref y), (1, .int p), (2, .int x), (3, .int t), (4, .int b)]) (st2 := [.int 0]) rfl ?_
            exact wk_iret C ⟨0, 0, vc (V) 0 0, by clear C hM hnm; grind [sp_condition], rfl, hM⟩ (by decide) (by decide) d_MD_condition_53
        ·
          exact absurd (by decide) c6
      ·
        replace c5 := bz_ (Classical.not_not.mp c5)
        refine wk_run C k_MD_condition_24 (pc2 := 25) (lv2 := [(0, .ref y), (1, .int p), (2, .int x), (3, .int t), (4, .int b)]) (st2 := [.int 1, .ref y]) rfl ?_
        refine wk_goto C d_MD_condition_25 (tgt := 29) (by decide) ?_
        refine wk_run C k_MD_condition_29 (pc2 := 30) (lv2 := [(0, .ref y), (1, .int p), (2, .int x), (3, .int t), (4, .int b)]) (st2 := [.int 0, .int 1, .ref y]) rfl ?_
        refine wk_callV (cl := ("ProfileRightsModel", T_MD, 27)) (rest := []) C (c_MD_f1 l D HB h h0 y A (V) hM) cs_MD_88 kc_MD_fails ki_MD hM.ob rfl rfl rfl (Nat.le_of_ble_eq_true rfl) (Nat.le_of_ble_eq_true rfl) (Nat.le_of_ble_eq_true rfl) (Nat.le_of_ble_eq_true rfl) (Nat.le_of_ble_eq_true rfl) d_MD_condition_30 (fun v h hq => ?_) (fun _ _ z => nomatch z.1)
        obtain ⟨e1, hM⟩ := hq; cases e1
        refine wk_br C d_MD_condition_33 (P := 1 = 0) (tgt := 38) (rest := []) rfl (by decide) (fun c8 => ?_) (fun c8 => ?_)
        ·
          exact absurd c8 (by decide)
        ·
          refine wk_run C k_MD_condition_36 (pc2 := 37) (lv2 := [(0, .ref y), (1, .int p), (2, .int x), (3, .int t), (4, .int b)]) (st2 := [.int 0]) rfl ?_
          exact wk_iret C ⟨1, 0, vc (V) 0 1, by clear C hM hnm; grind [sp_condition], rfl, hM⟩ (by decide) (by decide) d_MD_condition_37
theorem k_MD_condition_54 : px_dec prog_9_method_25_code [.aload_n 0] 54 = true := by decide +kernel
theorem d_MD_condition_55 : decode prog_9_method_25_code 55 = .ok (.getfield 56, 3) := by decide +kernel
theorem k_MD_condition_58 : px_dec prog_9_method_25_code [.iload 5, .iload_n 3] 58 = true := by decide +kernel
theorem d_MD_condition_61 : decode prog_9_method_25_code 61 = .ok (.iastore, 1) := by decide +kernel
theorem k_MD_condition_62 : px_dec prog_9_method_25_code [.aload_n 0] 62 = true := by decide +kernel
theorem d_MD_condition_63 : decode prog_9_method_25_code 63 = .ok (.getfield 59, 3) := by decide +kernel
theorem k_MD_condition_66 : px_dec prog_9_method_25_code [.iload 5, .iload 4] 66 = true := by decide +kernel
theorem d_MD_condition_70 : decode prog_9_method_25_code 70 = .ok (.ldc 114, 2) := by decide +kernel
theorem k_MD_condition_72 : px_dec prog_9_method_25_code [.iand] 72 = true := by decide +kernel
theorem d_MD_condition_73 : decode prog_9_method_25_code 73 = .ok (.iastore, 1) := by decide +kernel
theorem k_MD_condition_74 : px_dec prog_9_method_25_code [.iconst 1] 74 = true := by decide +kernel
theorem d_MD_condition_75 : decode prog_9_method_25_code 75 = .ok (.ireturn, 1) := by decide +kernel
set_option maxRecDepth 100000 in
set_option maxHeartbeats 4000000 in
theorem c_MD_conditionS (l : Launch) (D : va_G) (HB : Heap) (h : hp_T) (h0 : hp_T) (y : Nat) (A : Nat → Nat) (V : vT) (p : Int32) (x : Int32) (t : Int32) (b : Int32) (hP : ok_ (V 9 0) 60) (hE : ok_ (V 16 (nu p)) 10) (k : Nat) (hf : fe_ V (nu p) x = some k) (hM : mq D h0 h y A V) : ct_M l y_MD_condition (.code y_MD_condition prog_9_method_25_code 6 (Option.some Jvm.ClassFile.FieldType.int)) ({ frames := 2, cells := 0, slots := 0, locals := 60 }) D HB [.ref y, .int p, .int x, .int t, .int b] h (fun o h2 => ∃ (cd r : Int32) (V2 : vT), sp_condition V p x t b = (cd, r, V2) ∧ o = .inl (some (.int r)) ∧ mq D h0 h2 y A V2) := by
  refine ct_of (by decide) (Nat.le_of_ble_eq_true rfl) rfl ?_
  intro p_ e_ s_ m_ r_ b_ t_ c_ C hnm
  refine wk_run C k_MD_condition_0 (pc2 := 3) (lv2 := [(0, .ref y), (1, .int p), (2, .int x), (3, .int t), (4, .int b)]) (st2 := [.int p, .ref y, .ref y]) rfl ?_
  refine wk_callV (cl := ("ProfileRightsModel", T_MD, 27)) (rest := [.ref y]) C (c_MD_isProfile l D HB h h0 y A (V) p hM) cs_MD_101 kc_MD_isProfile ki_MD hM.ob rfl rfl rfl (Nat.le_of_ble_eq_true rfl) (Nat.le_of_ble_eq_true rfl) (Nat.le_of_ble_eq_true rfl) (Nat.le_of_ble_eq_true rfl) (Nat.le_of_ble_eq_true rfl) d_MD_condition_3 (fun v h2 hq => ?_) (fun _ _ z => nomatch z.1)
  obtain ⟨e1, e2⟩ := hq; cases e1; replace e2 := e2.symm; subst e2
  show Wk _ _ _ _ _ _ _ _ _ _ _ _ _ _ _ _ _ _ _ (.int (if ¬ p < 1 ∧ p ≤ V 9 0 then (1 : Int32) else 0) :: _)
  refine wk_br C d_MD_condition_6 (P := (if ¬ p < 1 ∧ p ≤ V 9 0 then (1 : Int32) else 0) = 0) (tgt := 24) (rest := [.ref y]) rfl (by decide) (fun c1 => ?_) (fun c1 => ?_)
  ·
    replace c1 := bz_ c1
    refine wk_run C k_MD_condition_24 (pc2 := 25) (lv2 := [(0, .ref y), (1, .int p), (2, .int x), (3, .int t), (4, .int b)]) (st2 := [.int 1, .ref y]) rfl ?_
    refine wk_goto C d_MD_condition_25 (tgt := 29) (by decide) ?_
    refine wk_run C k_MD_condition_29 (pc2 := 30) (lv2 := [(0, .ref y), (1, .int p), (2, .int x), (3, .int t), (4, .int b)]) (st2 := [.int 0, .int 1, .ref y]) rfl ?_
    refine wk_callV (cl := ("ProfileRightsModel", T_MD, 27)) (rest := []) C (c_MD_f1 l D HB h h0 y A (V) hM) cs_MD_88 kc_MD_fails ki_MD hM.ob rfl rfl rfl (Nat.le_of_ble_eq_true rfl) (Nat.le_of_ble_eq_true rfl) (Nat.le_of_ble_eq_true rfl) (Nat.le_of_ble_eq_true rfl) (Nat.le_of_ble_eq_true rfl) d_MD_condition_30 (fun v h hq => ?_) (fun _ _ z => nomatch z.1)
    obtain ⟨e1, hM⟩ := hq; cases e1
    refine wk_br C d_MD_condition_33 (P := 1 = 0) (tgt := 38) (rest := []) rfl (by decide) (fun c2 => ?_) (fun c2 => ?_)
    ·
      exact absurd c2 (by decide)
    ·
      refine wk_run C k_MD_condition_36 (pc2 := 37) (lv2 := [(0, .ref y), (1, .int p), (2, .int x), (3, .int t), (4, .int b)]) (st2 := [.int 0]) rfl ?_
      exact wk_iret C ⟨1, 0, vc (V) 0 1, by clear C hM hnm; grind [sp_condition], rfl, hM⟩ (by decide) (by decide) d_MD_condition_37
  ·
    replace c1 := bn_ c1
    refine wk_run C k_MD_condition_9 (pc2 := 11) (lv2 := [(0, .ref y), (1, .int p), (2, .int x), (3, .int t), (4, .int b)]) (st2 := [.int x, .ref y, .ref y]) rfl ?_
    refine wk_callV (cl := ("ProfileRightsModel", T_MD, 27)) (rest := [.ref y]) C (c_MD_isWho l D HB h h0 y A (V) x hM) cs_MD_107 kc_MD_isWho ki_MD hM.ob rfl rfl rfl (Nat.le_of_ble_eq_true rfl) (Nat.le_of_ble_eq_true rfl) (Nat.le_of_ble_eq_true rfl) (Nat.le_of_ble_eq_true rfl) (Nat.le_of_ble_eq_true rfl) d_MD_condition_11 (fun v h2 hq => ?_) (fun _ _ z => nomatch z.1)
    obtain ⟨e1, e2⟩ := hq; cases e1; replace e2 := e2.symm; subst e2
    show Wk _ _ _ _ _ _ _ _ _ _ _ _ _ _ _ _ _ _ _ (.int (if ho_ (V) x then (1 : Int32) else 0) :: _)
    refine wk_br C d_MD_condition_14 (P := (if ho_ (V) x then (1 : Int32) else 0) = 0) (tgt := 24) (rest := [.ref y]) rfl (by decide) (fun c3 => ?_) (fun c3 => ?_)
    ·
      replace c3 := bz_ c3
      refine wk_run C k_MD_condition_24 (pc2 := 25) (lv2 := [(0, .ref y), (1, .int p), (2, .int x), (3, .int t), (4, .int b)]) (st2 := [.int 1, .ref y]) rfl ?_
      refine wk_goto C d_MD_condition_25 (tgt := 29) (by decide) ?_
      refine wk_run C k_MD_condition_29 (pc2 := 30) (lv2 := [(0, .ref y), (1, .int p), (2, .int x), (3, .int t), (4, .int b)]) (st2 := [.int 0, .int 1, .ref y]) rfl ?_
      refine wk_callV (cl := ("ProfileRightsModel", T_MD, 27)) (rest := []) C (c_MD_f1 l D HB h h0 y A (V) hM) cs_MD_88 kc_MD_fails ki_MD hM.ob rfl rfl rfl (Nat.le_of_ble_eq_true rfl) (Nat.le_of_ble_eq_true rfl) (Nat.le_of_ble_eq_true rfl) (Nat.le_of_ble_eq_true rfl) (Nat.le_of_ble_eq_true rfl) d_MD_condition_30 (fun v h hq => ?_) (fun _ _ z => nomatch z.1)
      obtain ⟨e1, hM⟩ := hq; cases e1
      refine wk_br C d_MD_condition_33 (P := 1 = 0) (tgt := 38) (rest := []) rfl (by decide) (fun c4 => ?_) (fun c4 => ?_)
      ·
        exact absurd c4 (by decide)
      ·
        refine wk_run C k_MD_condition_36 (pc2 := 37) (lv2 := [(0, .ref y), (1, .int p), (2, .int x), (3, .int t), (4, .int b)]) (st2 := [.int 0]) rfl ?_
        exact wk_iret C ⟨1, 0, vc (V) 0 1, by clear C hM hnm; grind [sp_condition], rfl, hM⟩ (by decide) (by decide) d_MD_condition_37
    ·
      replace c3 := bn_ c3
      refine wk_run C k_MD_condition_17 (pc2 := 18) (lv2 := [(0, .ref y), (1, .int p), (2, .int x), (3, .int t), (4, .int b)]) (st2 := [.int t, .ref y]) rfl ?_
      refine wk_callS (rest := [.ref y]) C (c_MD_isTerminal l D HB h t) cs_MD_95 kc_MD_isTerminal ki_MD rfl rfl (Nat.le_of_ble_eq_true rfl) (Nat.le_of_ble_eq_true rfl) (Nat.le_of_ble_eq_true rfl) (Nat.le_of_ble_eq_true rfl) (Nat.le_of_ble_eq_true rfl) d_MD_condition_18 (fun v h2 hq => ?_) (fun _ _ z => nomatch z.1)
      obtain ⟨e1, e2⟩ := hq; cases e1; replace e2 := e2.symm; subst e2
      refine wk_br C d_MD_condition_21 (P := ¬ (if ¬ t < 0 ∧ t < 100 then (1 : Int32) else 0) = 0) (tgt := 28) (rest := [.ref y]) rfl (by decide) (fun c5 => ?_) (fun c5 => ?_)
      ·
        replace c5 := bn_ c5
        refine wk_run C k_MD_condition_28 (pc2 := 30) (lv2 := [(0, .ref y), (1, .int p), (2, .int x), (3, .int t), (4, .int b)]) (st2 := [.int 0, .int 0, .ref y]) rfl ?_
        refine wk_callV (cl := ("ProfileRightsModel", T_MD, 27)) (rest := []) C (c_MD_f0 l D HB h h0 y A (V) hM) cs_MD_88 kc_MD_fails ki_MD hM.ob rfl rfl rfl (Nat.le_of_ble_eq_true rfl) (Nat.le_of_ble_eq_true rfl) (Nat.le_of_ble_eq_true rfl) (Nat.le_of_ble_eq_true rfl) (Nat.le_of_ble_eq_true rfl) d_MD_condition_30 (fun v h hq => ?_) (fun _ _ z => nomatch z.1)
        obtain ⟨e1, hM⟩ := hq; cases e1
        refine wk_br C d_MD_condition_33 (P := 0 = 0) (tgt := 38) (rest := []) rfl (by decide) (fun c6 => ?_) (fun c6 => ?_)
        ·
          refine wk_run C k_MD_condition_38 (pc2 := 41) (lv2 := [(0, .ref y), (1, .int p), (2, .int x), (3, .int t), (4, .int b)]) (st2 := [.int x, .int p, .ref y]) rfl ?_
          refine wk_callV (cl := ("ProfileRightsModel", T_MD, 27)) (rest := []) C (c_MD_entry l D HB h h0 y A (vc (V) 0 0) p x (some k) (ok_r c1.1 c1.2 hP (by decide)) hE (hf ▸ fe_s V (nu p) x) hM) cs_MD_110 kc_MD_entry ki_MD hM.ob rfl rfl rfl (Nat.le_of_ble_eq_true rfl) (Nat.le_of_ble_eq_true rfl) (Nat.le_of_ble_eq_true rfl) (Nat.le_of_ble_eq_true rfl) (Nat.le_of_ble_eq_true rfl) d_MD_condition_41 (fun v h2 hq => ?_) (fun _ _ z => nomatch z.1)
          obtain ⟨e1, e2⟩ := hq; cases e1; replace e2 := e2.symm; subst e2
          show Wk _ _ _ _ _ _ _ _ _ _ _ _ _ _ _ _ _ _ _ (.int (nI (10 * nu p + k)) :: _)
          have hk : k < 10 := Nat.lt_of_lt_of_le (show k < nu (V 16 (nu p)) from (hf ▸ fe_s V (nu p) x : fs_ _ x _ (some k)).1) hE.2
          have hp6 : nu p ≤ 60 := (ok_r c1.1 c1.2 hP (by decide)).2
          have hkn : ¬ nI (10 * nu p + k) = -1 := nI_nm (by omega)
          refine wk_run C k_MD_condition_44 (pc2 := 49) (lv2 := [(5, .int (nI (10 * nu p + k))), (0, .ref y), (1, .int p), (2, .int x), (3, .int t), (4, .int b)]) (st2 := [.int (-1), .int (nI (10 * nu p + k))]) rfl ?_
          refine wk_br C d_MD_condition_49 (P := ¬ (nI (10 * nu p + k)) = (-1)) (tgt := 54) (rest := []) rfl (by decide) (fun c7 => ?_) (fun c7 => ?_)
          ·
            refine wk_run C k_MD_condition_54 (pc2 := 55) (lv2 := [(5, .int (nI (10 * nu p + k))), (0, .ref y), (1, .int p), (2, .int x), (3, .int t), (4, .int b)]) (st2 := [.ref y]) rfl ?_
            refine wk_get (v := .ref (A 19)) C fd_MD_56 hM.ob rfl d_MD_condition_55 ?_
            refine wk_run C k_MD_condition_58 (pc2 := 61) (lv2 := [(5, .int (nI (10 * nu p + k))), (0, .ref y), (1, .int p), (2, .int x), (3, .int t), (4, .int b)]) (st2 := [.int t, .int (nI (10 * nu p + k)), .ref (A 19)]) rfl ?_
            refine wm_st C hM 19 (j := (10 * nu p + k)) rfl (vi_k (ok_nI (m := 10 * nu p + k) (n := 609) (by omega) (by decide)) (by decide) (by decide)) (nu_nI (by omega)) d_MD_condition_61 (fun h (hM : mq D h0 h y A (vs (vc (V) 0 0) 19 (upd (V 19) (10 * nu p + k) t))) => ?_)
            refine wk_run C k_MD_condition_62 (pc2 := 63) (lv2 := [(5, .int (nI (10 * nu p + k))), (0, .ref y), (1, .int p), (2, .int x), (3, .int t), (4, .int b)]) (st2 := [.ref y]) rfl ?_
            refine wk_get (v := .ref (A 20)) C fd_MD_59 hM.ob rfl d_MD_condition_63 ?_
            refine wk_run C k_MD_condition_66 (pc2 := 70) (lv2 := [(5, .int (nI (10 * nu p + k))), (0, .ref y), (1, .int p), (2, .int x), (3, .int t), (4, .int b)]) (st2 := [.int b, .int (nI (10 * nu p + k)), .ref (A 20)]) rfl ?_
            refine wk_ldc C kk_MD_114 d_MD_condition_70 ?_
            refine wk_run C k_MD_condition_72 (pc2 := 73) (lv2 := [(5, .int (nI (10 * nu p + k))), (0, .ref y), (1, .int p), (2, .int x), (3, .int t), (4, .int b)]) (st2 := [.int (b &&& 16777215), .int (nI (10 * nu p + k)), .ref (A 20)]) rfl ?_
            refine wm_st C hM 20 (j := (10 * nu p + k)) rfl (vi_k (ok_nI (m := 10 * nu p + k) (n := 609) (by omega) (by decide)) (by decide) (by decide)) (nu_nI (by omega)) d_MD_condition_73 (fun h (hM : mq D h0 h y A (vs (vs (vc (V) 0 0) 19 (upd (V 19) (10 * nu p + k) t)) 20 (upd (V 20) (10 * nu p + k) (b &&& 16777215)))) => ?_)
            refine wk_run C k_MD_condition_74 (pc2 := 75) (lv2 := [(5, .int (nI (10 * nu p + k))), (0, .ref y), (1, .int p), (2, .int x), (3, .int t), (4, .int b)]) (st2 := [.int 1]) rfl ?_
            exact wk_iret C ⟨0, 1, vs (vs (vc (V) 0 0) 19 (upd (V 19) (10 * nu p + k) t)) 20 (upd (V 20) (10 * nu p + k) (b &&& 16777215)), by clear C hM hnm; grind [sp_condition], rfl, hM⟩ (by decide) (by decide) d_MD_condition_75
          ·
            refine wk_run C k_MD_condition_52 (pc2 := 53) (lv2 := [(5, .int (nI (10 * nu p + k))), (0, .ref y), (1, .int p), (2, .int x), (3, .int t), (4, .int b)]) (st2 := [.int 0]) rfl ?_
            exact wk_iret C ⟨0, 0, vc (V) 0 0, by clear C hM hnm; grind [sp_condition], rfl, hM⟩ (by decide) (by decide) d_MD_condition_53
        ·
          exact absurd (by decide) c6
      ·
        replace c5 := bz_ (Classical.not_not.mp c5)
        refine wk_run C k_MD_condition_24 (pc2 := 25) (lv2 := [(0, .ref y), (1, .int p), (2, .int x), (3, .int t), (4, .int b)]) (st2 := [.int 1, .ref y]) rfl ?_
        refine wk_goto C d_MD_condition_25 (tgt := 29) (by decide) ?_
        refine wk_run C k_MD_condition_29 (pc2 := 30) (lv2 := [(0, .ref y), (1, .int p), (2, .int x), (3, .int t), (4, .int b)]) (st2 := [.int 0, .int 1, .ref y]) rfl ?_
        refine wk_callV (cl := ("ProfileRightsModel", T_MD, 27)) (rest := []) C (c_MD_f1 l D HB h h0 y A (V) hM) cs_MD_88 kc_MD_fails ki_MD hM.ob rfl rfl rfl (Nat.le_of_ble_eq_true rfl) (Nat.le_of_ble_eq_true rfl) (Nat.le_of_ble_eq_true rfl) (Nat.le_of_ble_eq_true rfl) (Nat.le_of_ble_eq_true rfl) d_MD_condition_30 (fun v h hq => ?_) (fun _ _ z => nomatch z.1)
        obtain ⟨e1, hM⟩ := hq; cases e1
        refine wk_br C d_MD_condition_33 (P := 1 = 0) (tgt := 38) (rest := []) rfl (by decide) (fun c8 => ?_) (fun c8 => ?_)
        ·
          exact absurd c8 (by decide)
        ·
          refine wk_run C k_MD_condition_36 (pc2 := 37) (lv2 := [(0, .ref y), (1, .int p), (2, .int x), (3, .int t), (4, .int b)]) (st2 := [.int 0]) rfl ?_
          exact wk_iret C ⟨1, 0, vc (V) 0 1, by clear C hM hnm; grind [sp_condition], rfl, hM⟩ (by decide) (by decide) d_MD_condition_37
end
section
/-- a row of a list with the place a taken out: what lies behind it, up to e, moves down -/
def sh_ (f : Nat → Int32) (a e : Nat) : Nat → Int32 := fun j => if a ≤ j ∧ j < e then f (j + 1) else f j
theorem sh_0 (f : Nat → Int32) (a : Nat) : sh_ f a a = f := by funext j; exact if_neg (by omega)
theorem sh_1 (f : Nat → Int32) {a e : Nat} (h : a ≤ e) : upd (sh_ f a e) e (sh_ f a e (e + 1)) = sh_ f a (e + 1) := by
  funext j
  unfold upd sh_
  by_cases z : j = e
  · subst z; rw [if_pos rfl, if_neg (by omega), if_pos (by omega)]
  · rw [if_neg z]
    by_cases z2 : a ≤ j ∧ j < e
    · rw [if_pos z2, if_pos (by omega)]
    · rw [if_neg z2, if_neg (by omega)]
def rm_ (V : vT) (a e : Nat) : vT := vs (vs (vs (vs V 17 (sh_ (V 17) a e)) 18 (sh_ (V 18) a e)) 19 (sh_ (V 19) a e)) 20 (sh_ (V 20) a e)
theorem vs_id {V : vT} {k : Nat} {f : Nat → Int32} (h : V k = f) : vs V k f = V := by
  funext j; by_cases z : j = k
  · subst z; rw [vs_s, h]
  · rw [vs_n z]
theorem vs_vs {V : vT} {k : Nat} {f g : Nat → Int32} : vs (vs V k f) k g = vs V k g := by
  funext j; by_cases z : j = k
  · subst z; rw [vs_s, vs_s]
  · rw [vs_n z, vs_n z, vs_n z]
theorem vs_sw {V : vT} {k m : Nat} {f g : Nat → Int32} (h : k ≠ m) : vs (vs V k f) m g = vs (vs V m g) k f := by
  funext j; by_cases z : j = m
  · subst z; rw [vs_s, vs_n (fun e => h e.symm), vs_s]
  · rw [vs_n z]; by_cases z2 : j = k
    · subst z2; rw [vs_s, vs_s]
    · rw [vs_n z2, vs_n z2, vs_n z]
theorem rm_0 (V : vT) (a : Nat) : rm_ V a a = V := by
  unfold rm_; simp only [sh_0]
  rw [vs_id (V := V) rfl, vs_id (V := V) rfl, vs_id (V := V) rfl, vs_id (V := V) rfl]
theorem rm_1 (V : vT) {a e : Nat} (h : a ≤ e) : rm_ V a (e + 1) = vs (vs (vs (vs (rm_ V a e) 17 (upd (sh_ (V 17) a e) e (sh_ (V 17) a e (e + 1)))) 18 (upd (sh_ (V 18) a e) e (sh_ (V 18) a e (e + 1)))) 19 (upd (sh_ (V 19) a e) e (sh_ (V 19) a e (e + 1)))) 20 (upd (sh_ (V 20) a e) e (sh_ (V 20) a e (e + 1))) := by
  rw [sh_1 _ h, sh_1 _ h, sh_1 _ h, sh_1 _ h]
  funext j
  unfold rm_
  by_cases z1 : j = 20
  · subst z1; rw [vs_s, vs_s]
  · rw [vs_n z1, vs_n z1]; by_cases z2 : j = 19
    · subst z2; rw [vs_s, vs_s]
    · rw [vs_n z2, vs_n z2]; by_cases z3 : j = 18
      · subst z3; rw [vs_s, vs_s]
      · rw [vs_n z3, vs_n z3]; by_cases z4 : j = 17
        · subst z4; rw [vs_s, vs_s]
        · rw [vs_n z4, vs_n z4, vs_n z1, vs_n z2, vs_n z3, vs_n z4]
noncomputable def sp_permit (V : vT) (p x a : Int32) : rT := if ¬ ((¬ p < 1 ∧ p ≤ V 9 0) ∧ ho_ V x ∧ ¬ a < -1 ∧ a ≤ 4) then (1, 0, vc V 0 1) else match fe_ V (nu p) x with
  | none => if a = -1 then (0, -1, vc V 0 0) else if V 16 (nu p) = 10 then (2, 0, vc V 0 2) else
      (0, -1, vs (vs (vs (vs (vs (vc V 0 0) 17 (upd (V 17) (10 * nu p + nu (V 16 (nu p))) x)) 18 (upd (V 18) (10 * nu p + nu (V 16 (nu p))) a)) 19 (upd (V 19) (10 * nu p + nu (V 16 (nu p))) 0)) 20 (upd (V 20) (10 * nu p + nu (V 16 (nu p))) 16777215)) 16 (upd (V 16) (nu p) (V 16 (nu p) + 1)))
  | some k => if a = -1 then (0, V 18 (10 * nu p + k), rm_ (vs (vc V 0 0) 16 (upd (V 16) (nu p) (V 16 (nu p) - 1))) (10 * nu p + k) (10 * nu p + nu (V 16 (nu p) - 1))) else (0, V 18 (10 * nu p + k), vs (vc V 0 0) 18 (upd (V 18) (10 * nu p + k) a))
theorem ok_n10 {x : Int32} (h : ok_ x 10) (h2 : ¬ x = 10) : ok_ x 9 := by
  refine ⟨h.1, ?_⟩
  have : ¬ nu x = 10 := fun z => h2 (by rw [h.1, z]; rfl)
  have := h.2
  omega
theorem ok_dec {x : Int32} {n : Nat} (h : ok_ x n) (h2 : 0 < nu x) (hn : n < 2 ^ 31) : ok_ (x - 1) n ∧ nu (x - 1) = nu x - 1 := by
  have e : x - 1 = nI (nu x - 1) := by rw [h.1, nu_nI (by have := h.2; omega), ← nI_pred (nu x - 1), show nu x - 1 + 1 = nu x by omega]
  have := h.2
  rw [e]; exact ⟨ok_nI (by omega) hn, nu_nI (by omega)⟩

theorem k_MD_permit_0 : px_dec prog_9_method_24_code [.aload_n 0, .iload_n 1] 0 = true := by decide +kernel
theorem d_MD_permit_2 : decode prog_9_method_24_code 2 = .ok (.invokevirtual 101, 3) := by decide +kernel
theorem d_MD_permit_5 : decode prog_9_method_24_code 5 = .ok (.ifCond .eq 21, 3) := by decide +kernel
theorem k_MD_permit_26 : px_dec prog_9_method_24_code [.iconst 1] 26 = true := by decide +kernel
theorem d_MD_permit_27 : decode prog_9_method_24_code 27 = .ok (.goto 4, 3) := by decide +kernel
theorem k_MD_permit_31 : px_dec prog_9_method_24_code [.istore 4, .iload 4] 31 = true := by decide +kernel
theorem d_MD_permit_35 : decode prog_9_method_24_code 35 = .ok (.ifCond .eq 7, 3) := by decide +kernel
theorem k_MD_permit_38 : px_dec prog_9_method_24_code [.iconst (-1)] 38 = true := by decide +kernel
theorem d_MD_permit_39 : decode prog_9_method_24_code 39 = .ok (.goto 9, 3) := by decide +kernel
theorem k_MD_permit_48 : px_dec prog_9_method_24_code [.istore 5, .aload_n 0, .iload 4, .iload 4] 48 = true := by decide +kernel
theorem d_MD_permit_55 : decode prog_9_method_24_code 55 = .ok (.ifCond .ne 29, 3) := by decide +kernel
theorem k_MD_permit_84 : px_dec prog_9_method_24_code [.iconst 0] 84 = true := by decide +kernel
theorem d_MD_permit_85 : decode prog_9_method_24_code 85 = .ok (.invokevirtual 88, 3) := by decide +kernel
theorem d_MD_permit_88 : decode prog_9_method_24_code 88 = .ok (.ifCond .eq 5, 3) := by decide +kernel
theorem k_MD_permit_91 : px_dec prog_9_method_24_code [.iconst 0] 91 = true := by decide +kernel
theorem d_MD_permit_92 : decode prog_9_method_24_code 92 = .ok (.ireturn, 1) := by decide +kernel
theorem k_MD_permit_8 : px_dec prog_9_method_24_code [.aload_n 0, .iload_n 2] 8 = true := by decide +kernel
theorem d_MD_permit_10 : decode prog_9_method_24_code 10 = .ok (.invokevirtual 107, 3) := by decide +kernel
theorem d_MD_permit_13 : decode prog_9_method_24_code 13 = .ok (.ifCond .eq 13, 3) := by decide +kernel
theorem k_MD_permit_16 : px_dec prog_9_method_24_code [.iload_n 3, .iconst (-1)] 16 = true := by decide +kernel
theorem d_MD_permit_18 : decode prog_9_method_24_code 18 = .ok (.if_icmp .lt 8, 3) := by decide +kernel
theorem k_MD_permit_21 : px_dec prog_9_method_24_code [.iload_n 3, .iconst 4] 21 = true := by decide +kernel
theorem d_MD_permit_23 : decode prog_9_method_24_code 23 = .ok (.if_icmp .le 7, 3) := by decide +kernel
theorem k_MD_permit_30 : px_dec prog_9_method_24_code [.iconst 0, .istore 4, .iload 4] 30 = true := by decide +kernel
theorem k_MD_permit_42 : px_dec prog_9_method_24_code [.aload_n 0, .iload_n 1, .iload_n 2] 42 = true := by decide +kernel
theorem d_MD_permit_45 : decode prog_9_method_24_code 45 = .ok (.invokevirtual 110, 3) := by decide +kernel
theorem k_MD_permit_58 : px_dec prog_9_method_24_code [.iload 5, .iconst (-1)] 58 = true := by decide +kernel
theorem d_MD_permit_61 : decode prog_9_method_24_code 61 = .ok (.if_icmp .ne 23, 3) := by decide +kernel
theorem k_MD_permit_64 : px_dec prog_9_method_24_code [.iload_n 3, .iconst (-1)] 64 = true := by decide +kernel
theorem d_MD_permit_66 : decode prog_9_method_24_code 66 = .ok (.if_icmp .eq 18, 3) := by decide +kernel
theorem k_MD_permit_93 : px_dec prog_9_method_24_code [.iload 5, .iconst (-1)] 93 = true := by decide +kernel
theorem d_MD_permit_96 : decode prog_9_method_24_code 96 = .ok (.if_icmp .ne 7, 3) := by decide +kernel
theorem k_MD_permit_99 : px_dec prog_9_method_24_code [.iconst (-1)] 99 = true := by decide +kernel
theorem d_MD_permit_100 : decode prog_9_method_24_code 100 = .ok (.goto 10, 3) := by decide +kernel
theorem k_MD_permit_110 : px_dec prog_9_method_24_code [.istore 6, .iload 5, .iconst (-1)] 110 = true := by decide +kernel
theorem d_MD_permit_115 : decode prog_9_method_24_code 115 = .ok (.if_icmp .ne 67, 3) := by decide +kernel
theorem k_MD_permit_118 : px_dec prog_9_method_24_code [.iload_n 3, .iconst (-1)] 118 = true := by decide +kernel
theorem d_MD_permit_120 : decode prog_9_method_24_code 120 = .ok (.if_icmp .eq 62, 3) := by decide +kernel
theorem k_MD_permit_182 : px_dec prog_9_method_24_code [.iload 5, .iconst (-1)] 182 = true := by decide +kernel
theorem d_MD_permit_185 : decode prog_9_method_24_code 185 = .ok (.if_icmp .eq 19, 3) := by decide +kernel
theorem k_MD_permit_204 : px_dec prog_9_method_24_code [.iload 5, .iconst (-1)] 204 = true := by decide +kernel
theorem d_MD_permit_207 : decode prog_9_method_24_code 207 = .ok (.if_icmp .eq 103, 3) := by decide +kernel
theorem k_MD_permit_310 : px_dec prog_9_method_24_code [.iload 6] 310 = true := by decide +kernel
theorem d_MD_permit_312 : decode prog_9_method_24_code 312 = .ok (.ireturn, 1) := by decide +kernel
theorem k_MD_permit_123 : px_dec prog_9_method_24_code [.bipush 10, .iload_n 1, .imul, .aload_n 0] 123 = true := by decide +kernel
theorem d_MD_permit_128 : decode prog_9_method_24_code 128 = .ok (.getfield 47, 3) := by decide +kernel
theorem k_MD_permit_131 : px_dec prog_9_method_24_code [.iload_n 1] 131 = true := by decide +kernel
theorem d_MD_permit_132 : decode prog_9_method_24_code 132 = .ok (.iaload, 1) := by decide +kernel
theorem k_MD_permit_133 : px_dec prog_9_method_24_code [.iadd, .istore 7, .aload_n 0] 133 = true := by decide +kernel
theorem d_MD_permit_137 : decode prog_9_method_24_code 137 = .ok (.getfield 50, 3) := by decide +kernel
theorem k_MD_permit_140 : px_dec prog_9_method_24_code [.iload 7, .iload_n 2] 140 = true := by decide +kernel
theorem d_MD_permit_143 : decode prog_9_method_24_code 143 = .ok (.iastore, 1) := by decide +kernel
theorem k_MD_permit_144 : px_dec prog_9_method_24_code [.aload_n 0] 144 = true := by decide +kernel
theorem d_MD_permit_145 : decode prog_9_method_24_code 145 = .ok (.getfield 53, 3) := by decide +kernel
theorem k_MD_permit_148 : px_dec prog_9_method_24_code [.iload 7, .iload_n 3] 148 = true := by decide +kernel
theorem d_MD_permit_151 : decode prog_9_method_24_code 151 = .ok (.iastore, 1) := by decide +kernel
theorem k_MD_permit_152 : px_dec prog_9_method_24_code [.aload_n 0] 152 = true := by decide +kernel
theorem d_MD_permit_153 : decode prog_9_method_24_code 153 = .ok (.getfield 56, 3) := by decide +kernel
theorem k_MD_permit_156 : px_dec prog_9_method_24_code [.iload 7, .iconst 0] 156 = true := by decide +kernel
theorem d_MD_permit_159 : decode prog_9_method_24_code 159 = .ok (.iastore, 1) := by decide +kernel
theorem k_MD_permit_160 : px_dec prog_9_method_24_code [.aload_n 0] 160 = true := by decide +kernel
theorem d_MD_permit_161 : decode prog_9_method_24_code 161 = .ok (.getfield 59, 3) := by decide +kernel
theorem k_MD_permit_164 : px_dec prog_9_method_24_code [.iload 7] 164 = true := by decide +kernel
theorem d_MD_permit_166 : decode prog_9_method_24_code 166 = .ok (.ldc 114, 2) := by decide +kernel
theorem d_MD_permit_168 : decode prog_9_method_24_code 168 = .ok (.iastore, 1) := by decide +kernel
theorem k_MD_permit_169 : px_dec prog_9_method_24_code [.aload_n 0] 169 = true := by decide +kernel
theorem d_MD_permit_170 : decode prog_9_method_24_code 170 = .ok (.getfield 47, 3) := by decide +kernel
theorem k_MD_permit_173 : px_dec prog_9_method_24_code [.iload_n 1, .dup2] 173 = true := by decide +kernel
theorem d_MD_permit_175 : decode prog_9_method_24_code 175 = .ok (.iaload, 1) := by decide +kernel
theorem k_MD_permit_176 : px_dec prog_9_method_24_code [.iconst 1, .iadd] 176 = true := by decide +kernel
theorem d_MD_permit_178 : decode prog_9_method_24_code 178 = .ok (.iastore, 1) := by decide +kernel
theorem d_MD_permit_179 : decode prog_9_method_24_code 179 = .ok (.goto 131, 3) := by decide +kernel
theorem k_MD_permit_69 : px_dec prog_9_method_24_code [.aload_n 0] 69 = true := by decide +kernel
theorem d_MD_permit_70 : decode prog_9_method_24_code 70 = .ok (.getfield 47, 3) := by decide +kernel
theorem k_MD_permit_73 : px_dec prog_9_method_24_code [.iload_n 1] 73 = true := by decide +kernel
theorem d_MD_permit_74 : decode prog_9_method_24_code 74 = .ok (.iaload, 1) := by decide +kernel
theorem k_MD_permit_75 : px_dec prog_9_method_24_code [.bipush 10] 75 = true := by decide +kernel
theorem d_MD_permit_77 : decode prog_9_method_24_code 77 = .ok (.if_icmp .ne 7, 3) := by decide +kernel
theorem k_MD_permit_80 : px_dec prog_9_method_24_code [.iconst 1] 80 = true := by decide +kernel
theorem d_MD_permit_81 : decode prog_9_method_24_code 81 = .ok (.goto 4, 3) := by decide +kernel
set_option maxRecDepth 100000 in
set_option maxHeartbeats 4000000 in
theorem c_MD_permitN (l : Launch) (D : va_G) (HB : Heap) (h : hp_T) (h0 : hp_T) (y : Nat) (A : Nat → Nat) (V : vT) (p : Int32) (x : Int32) (a : Int32) (hP : ok_ (V 9 0) 60) (hE : ok_ (V 16 (nu p)) 10) (hf : fe_ V (nu p) x = none) (hM : mq D h0 h y A V) : ct_M l y_MD_permit (.code y_MD_permit prog_9_method_24_code 8 (Option.some Jvm.ClassFile.FieldType.int)) ({ frames := 2, cells := 0, slots := 0, locals := 60 }) D HB [.ref y, .int p, .int x, .int a] h (fun o h2 => ∃ (cd r : Int32) (V2 : vT), sp_permit V p x a = (cd, r, V2) ∧ o = .inl (some (.int r)) ∧ mq D h0 h2 y A V2) := by
  refine ct_of (by decide) (Nat.le_of_ble_eq_true rfl) rfl ?_
  intro p_ e_ s_ m_ r_ b_ t_ c_ C hnm
  refine wk_run C k_MD_permit_0 (pc2 := 2) (lv2 := [(0, .ref y), (1, .int p), (2, .int x), (3, .int a)]) (st2 := [.int p, .ref y]) rfl ?_
  refine wk_callV (cl := ("ProfileRightsModel", T_MD, 27)) (rest := []) C (c_MD_isProfile l D HB h h0 y A (V) p hM) cs_MD_101 kc_MD_isProfile ki_MD hM.ob rfl rfl rfl (Nat.le_of_ble_eq_true rfl) (Nat.le_of_ble_eq_true rfl) (Nat.le_of_ble_eq_true rfl) (Nat.le_of_ble_eq_true rfl) (Nat.le_of_ble_eq_true rfl) d_MD_permit_2 (fun v h2 hq => ?_) (fun _ _ z => nomatch z.1)
  obtain ⟨e1, e2⟩ := hq; cases e1; replace e2 := e2.symm; subst e2
  show Wk _ _ _ _ _ _ _ _ _ _ _ _ _ _ _ _ _ _ _ (.int (if ¬ p < 1 ∧ p ≤ V 9 0 then (1 : Int32) else 0) :: _)
  refine wk_br C d_MD_permit_5 (P := (if ¬ p < 1 ∧ p ≤ V 9 0 then (1 : Int32) else 0) = 0) (tgt := 26) (rest := []) rfl (by decide) (fun c1 => ?_) (fun c1 => ?_)
  ·
    replace c1 := bz_ c1
    refine wk_run C k_MD_permit_26 (pc2 := 27) (lv2 := [(0, .ref y), (1, .int p), (2, .int x), (3, .int a)]) (st2 := [.int 1]) rfl ?_
    refine wk_goto C d_MD_permit_27 (tgt := 31) (by decide) ?_
    refine wk_run C k_MD_permit_31 (pc2 := 35) (lv2 := [(4, .int 1), (0, .ref y), (1, .int p), (2, .int x), (3, .int a)]) (st2 := [.int 1]) rfl ?_
    refine wk_br C d_MD_permit_35 (P := 1 = 0) (tgt := 42) (rest := []) rfl (by decide) (fun c2 => ?_) (fun c2 => ?_)
    ·
      exact absurd c2 (by decide)
    ·
      refine wk_run C k_MD_permit_38 (pc2 := 39) (lv2 := [(4, .int 1), (0, .ref y), (1, .int p), (2, .int x), (3, .int a)]) (st2 := [.int (-1)]) rfl ?_
      refine wk_goto C d_MD_permit_39 (tgt := 48) (by decide) ?_
      refine wk_run C k_MD_permit_48 (pc2 := 55) (lv2 := [(5, .int (-1)), (4, .int 1), (0, .ref y), (1, .int p), (2, .int x), (3, .int a)]) (st2 := [.int 1, .int 1, .ref y]) rfl ?_
      refine wk_br C d_MD_permit_55 (P := ¬ 1 = 0) (tgt := 84) (rest := [.int 1, .ref y]) rfl (by decide) (fun c3 => ?_) (fun c3 => ?_)
      ·
        refine wk_run C k_MD_permit_84 (pc2 := 85) (lv2 := [(5, .int (-1)), (4, .int 1), (0, .ref y), (1, .int p), (2, .int x), (3, .int a)]) (st2 := [.int 0, .int 1, .ref y]) rfl ?_
        refine wk_callV (cl := ("ProfileRightsModel", T_MD, 27)) (rest := []) C (c_MD_f1 l D HB h h0 y A (V) hM) cs_MD_88 kc_MD_fails ki_MD hM.ob rfl rfl rfl (Nat.le_of_ble_eq_true rfl) (Nat.le_of_ble_eq_true rfl) (Nat.le_of_ble_eq_true rfl) (Nat.le_of_ble_eq_true rfl) (Nat.le_of_ble_eq_true rfl) d_MD_permit_85 (fun v h hq => ?_) (fun _ _ z => nomatch z.1)
        obtain ⟨e1, hM⟩ := hq; cases e1
        refine wk_br C d_MD_permit_88 (P := 1 = 0) (tgt := 93) (rest := []) rfl (by decide) (fun c4 => ?_) (fun c4 => ?_)
        ·
          exact absurd c4 (by decide)
        ·
          refine wk_run C k_MD_permit_91 (pc2 := 92) (lv2 := [(5, .int (-1)), (4, .int 1), (0, .ref y), (1, .int p), (2, .int x), (3, .int a)]) (st2 := [.int 0]) rfl ?_
          exact wk_iret C ⟨1, 0, vc (V) 0 1, by clear C hM hnm; grind [sp_permit], rfl, hM⟩ (by decide) (by decide) d_MD_permit_92
      ·
        exact absurd (by decide) c3
  ·
    replace c1 := bn_ c1
    refine wk_run C k_MD_permit_8 (pc2 := 10) (lv2 := [(0, .ref y), (1, .int p), (2, .int x), (3, .int a)]) (st2 := [.int x, .ref y]) rfl ?_
    refine wk_callV (cl := ("ProfileRightsModel", T_MD, 27)) (rest := []) C (c_MD_isWho l D HB h h0 y A (V) x hM) cs_MD_107 kc_MD_isWho ki_MD hM.ob rfl rfl rfl (Nat.le_of_ble_eq_true rfl) (Nat.le_of_ble_eq_true rfl) (Nat.le_of_ble_eq_true rfl) (Nat.le_of_ble_eq_true rfl) (Nat.le_of_ble_eq_true rfl) d_MD_permit_10 (fun v h2 hq => ?_) (fun _ _ z => nomatch z.1)
    obtain ⟨e1, e2⟩ := hq; cases e1; replace e2 := e2.symm; subst e2
    show Wk _ _ _ _ _ _ _ _ _ _ _ _ _ _ _ _ _ _ _ (.int (if ho_ (V) x then (1 : Int32) else 0) :: _)
    refine wk_br C d_MD_permit_13 (P := (if ho_ (V) x then (1 : Int32) else 0) = 0) (tgt := 26) (rest := []) rfl (by decide) (fun c5 => ?_) (fun c5 => ?_)
    ·
      replace c5 := bz_ c5
      refine wk_run C k_MD_permit_26 (pc2 := 27) (lv2 := [(0, .ref y), (1, .int p), (2, .int x), (3, .int a)]) (st2 := [.int 1]) rfl ?_
      refine wk_goto C d_MD_permit_27 (tgt := 31) (by decide) ?_
      refine wk_run C k_MD_permit_31 (pc2 := 35) (lv2 := [(4, .int 1), (0, .ref y), (1, .int p), (2, .int x), (3, .int a)]) (st2 := [.int 1]) rfl ?_
      refine wk_br C d_MD_permit_35 (P := 1 = 0) (tgt := 42) (rest := []) rfl (by decide) (fun c6 => ?_) (fun c6 => ?_)
      ·
        exact absurd c6 (by decide)
      ·
        refine wk_run C k_MD_permit_38 (pc2 := 39) (lv2 := [(4, .int 1), (0, .ref y), (1, .int p), (2, .int x), (3, .int a)]) (st2 := [.int (-1)]) rfl ?_
        refine wk_goto C d_MD_permit_39 (tgt := 48) (by decide) ?_
        refine wk_run C k_MD_permit_48 (pc2 := 55) (lv2 := [(5, .int (-1)), (4, .int 1), (0, .ref y), (1, .int p), (2, .int x), (3, .int a)]) (st2 := [.int 1, .int 1, .ref y]) rfl ?_
        refine wk_br C d_MD_permit_55 (P := ¬ 1 = 0) (tgt := 84) (rest := [.int 1, .ref y]) rfl (by decide) (fun c7 => ?_) (fun c7 => ?_)
        ·
          refine wk_run C k_MD_permit_84 (pc2 := 85) (lv2 := [(5, .int (-1)), (4, .int 1), (0, .ref y), (1, .int p), (2, .int x), (3, .int a)]) (st2 := [.int 0, .int 1, .ref y]) rfl ?_
          refine wk_callV (cl := ("ProfileRightsModel", T_MD, 27)) (rest := []) C (c_MD_f1 l D HB h h0 y A (V) hM) cs_MD_88 kc_MD_fails ki_MD hM.ob rfl rfl rfl (Nat.le_of_ble_eq_true rfl) (Nat.le_of_ble_eq_true rfl) (Nat.le_of_ble_eq_true rfl) (Nat.le_of_ble_eq_true rfl) (Nat.le_of_ble_eq_true rfl) d_MD_permit_85 (fun v h hq => ?_) (fun _ _ z => nomatch z.1)
          obtain ⟨e1, hM⟩ := hq; cases e1
          refine wk_br C d_MD_permit_88 (P := 1 = 0) (tgt := 93) (rest := []) rfl (by decide) (fun c8 => ?_) (fun c8 => ?_)
          ·
            exact absurd c8 (by decide)
          ·
            refine wk_run C k_MD_permit_91 (pc2 := 92) (lv2 := [(5, .int (-1)), (4, .int 1), (0, .ref y), (1, .int p), (2, .int x), (3, .int a)]) (st2 := [.int 0]) rfl ?_
            exact wk_iret C ⟨1, 0, vc (V) 0 1, by clear C hM hnm; grind [sp_permit], rfl, hM⟩ (by decide) (by decide) d_MD_permit_92
        ·
          exact absurd (by decide) c7
    ·
      replace c5 := bn_ c5
      refine wk_run C k_MD_permit_16 (pc2 := 18) (lv2 := [(0, .ref y), (1, .int p), (2, .int x), (3, .int a)]) (st2 := [.int (-1), .int a]) rfl ?_
      refine wk_br C d_MD_permit_18 (P := a < (-1)) (tgt := 26) (rest := []) rfl (by decide) (fun c9 => ?_) (fun c9 => ?_)
      ·
        refine wk_run C k_MD_permit_26 (pc2 := 27) (lv2 := [(0, .ref y), (1, .int p), (2, .int x), (3, .int a)]) (st2 := [.int 1]) rfl ?_
        refine wk_goto C d_MD_permit_27 (tgt := 31) (by decide) ?_
        refine wk_run C k_MD_permit_31 (pc2 := 35) (lv2 := [(4, .int 1), (0, .ref y), (1, .int p), (2, .int x), (3, .int a)]) (st2 := [.int 1]) rfl ?_
        refine wk_br C d_MD_permit_35 (P := 1 = 0) (tgt := 42) (rest := []) rfl (by decide) (fun c10 => ?_) (fun c10 => ?_)
        ·
          exact absurd c10 (by decide)
        ·
          refine wk_run C k_MD_permit_38 (pc2 := 39) (lv2 := [(4, .int 1), (0, .ref y), (1, .int p), (2, .int x), (3, .int a)]) (st2 := [.int (-1)]) rfl ?_
          refine wk_goto C d_MD_permit_39 (tgt := 48) (by decide) ?_
          refine wk_run C k_MD_permit_48 (pc2 := 55) (lv2 := [(5, .int (-1)), (4, .int 1), (0, .ref y), (1, .int p), (2, .int x), (3, .int a)]) (st2 := [.int 1, .int 1, .ref y]) rfl ?_
          refine wk_br C d_MD_permit_55 (P := ¬ 1 = 0) (tgt := 84) (rest := [.int 1, .ref y]) rfl (by decide) (fun c11 => ?_) (fun c11 => ?_)
          ·
            refine wk_run C k_MD_permit_84 (pc2 := 85) (lv2 := [(5, .int (-1)), (4, .int 1), (0, .ref y), (1, .int p), (2, .int x), (3, .int a)]) (st2 := [.int 0, .int 1, .ref y]) rfl ?_
            refine wk_callV (cl := ("ProfileRightsModel", T_MD, 27)) (rest := []) C (c_MD_f1 l D HB h h0 y A (V) hM) cs_MD_88 kc_MD_fails ki_MD hM.ob rfl rfl rfl (Nat.le_of_ble_eq_true rfl) (Nat.le_of_ble_eq_true rfl) (Nat.le_of_ble_eq_true rfl) (Nat.le_of_ble_eq_true rfl) (Nat.le_of_ble_eq_true rfl) d_MD_permit_85 (fun v h hq => ?_) (fun _ _ z => nomatch z.1)
            obtain ⟨e1, hM⟩ := hq; cases e1
            refine wk_br C d_MD_permit_88 (P := 1 = 0) (tgt := 93) (rest := []) rfl (by decide) (fun c12 => ?_) (fun c12 => ?_)
            ·
              exact absurd c12 (by decide)
            ·
              refine wk_run C k_MD_permit_91 (pc2 := 92) (lv2 := [(5, .int (-1)), (4, .int 1), (0, .ref y), (1, .int p), (2, .int x), (3, .int a)]) (st2 := [.int 0]) rfl ?_
              exact wk_iret C ⟨1, 0, vc (V) 0 1, by clear C hM hnm; grind [sp_permit], rfl, hM⟩ (by decide) (by decide) d_MD_permit_92
          ·
            exact absurd (by decide) c11
      ·
        refine wk_run C k_MD_permit_21 (pc2 := 23) (lv2 := [(0, .ref y), (1, .int p), (2, .int x), (3, .int a)]) (st2 := [.int 4, .int a]) rfl ?_
        refine wk_br C d_MD_permit_23 (P := a ≤ 4) (tgt := 30) (rest := []) rfl (by decide) (fun c13 => ?_) (fun c13 => ?_)
        ·
          refine wk_run C k_MD_permit_30 (pc2 := 35) (lv2 := [(4, .int 0), (0, .ref y), (1, .int p), (2, .int x), (3, .int a)]) (st2 := [.int 0]) rfl ?_
          refine wk_br C d_MD_permit_35 (P := 0 = 0) (tgt := 42) (rest := []) rfl (by decide) (fun c14 => ?_) (fun c14 => ?_)
          ·
            refine wk_run C k_MD_permit_42 (pc2 := 45) (lv2 := [(4, .int 0), (0, .ref y), (1, .int p), (2, .int x), (3, .int a)]) (st2 := [.int x, .int p, .ref y]) rfl ?_
            refine wk_callV (cl := ("ProfileRightsModel", T_MD, 27)) (rest := []) C (c_MD_entry l D HB h h0 y A (V) p x none (ok_r c1.1 c1.2 hP (by decide)) hE (hf ▸ fe_s V (nu p) x) hM) cs_MD_110 kc_MD_entry ki_MD hM.ob rfl rfl rfl (Nat.le_of_ble_eq_true rfl) (Nat.le_of_ble_eq_true rfl) (Nat.le_of_ble_eq_true rfl) (Nat.le_of_ble_eq_true rfl) (Nat.le_of_ble_eq_true rfl) d_MD_permit_45 (fun v h2 hq => ?_) (fun _ _ z => nomatch z.1)
            obtain ⟨e1, e2⟩ := hq; cases e1; replace e2 := e2.symm; subst e2
            show Wk _ _ _ _ _ _ _ _ _ _ _ _ _ _ _ _ _ _ _ (.int (-1) :: _)
            refine wk_run C k_MD_permit_48 (pc2 := 55) (lv2 := [(5, .int (-1)), (4, .int 0), (0, .ref y), (1, .int p), (2, .int x), (3, .int a)]) (st2 := [.int 0, .int 0, .ref y]) rfl ?_
            refine wk_br C d_MD_permit_55 (P := ¬ 0 = 0) (tgt := 84) (rest := [.int 0, .ref y]) rfl (by decide) (fun c15 => ?_) (fun c15 => ?_)
            ·
              exact absurd c15 (by decide)
            ·
              refine wk_run C k_MD_permit_58 (pc2 := 61) (lv2 := [(5, .int (-1)), (4, .int 0), (0, .ref y), (1, .int p), (2, .int x), (3, .int a)]) (st2 := [.int (-1), .int (-1), .int 0, .ref y]) rfl ?_
              refine wk_br C d_MD_permit_61 (P := ¬ (-1) = (-1)) (tgt := 84) (rest := [.int 0, .ref y]) rfl (by decide) (fun c16 => ?_) (fun c16 => ?_)
              ·
                exact absurd c16 (by decide)
              ·
                refine wk_run C k_MD_permit_64 (pc2 := 66) (lv2 := [(5, .int (-1)), (4, .int 0), (0, .ref y), (1, .int p), (2, .int x), (3, .int a)]) (st2 := [.int (-1), .int a, .int 0, .ref y]) rfl ?_
                refine wk_br C d_MD_permit_66 (P := a = (-1)) (tgt := 84) (rest := [.int 0, .ref y]) rfl (by decide) (fun c17 => ?_) (fun c17 => ?_)
                ·
                  refine wk_run C k_MD_permit_84 (pc2 := 85) (lv2 := [(5, .int (-1)), (4, .int 0), (0, .ref y), (1, .int p), (2, .int x), (3, .int a)]) (st2 := [.int 0, .int 0, .ref y]) rfl ?_
                  refine wk_callV (cl := ("ProfileRightsModel", T_MD, 27)) (rest := []) C (c_MD_f0 l D HB h h0 y A (V) hM) cs_MD_88 kc_MD_fails ki_MD hM.ob rfl rfl rfl (Nat.le_of_ble_eq_true rfl) (Nat.le_of_ble_eq_true rfl) (Nat.le_of_ble_eq_true rfl) (Nat.le_of_ble_eq_true rfl) (Nat.le_of_ble_eq_true rfl) d_MD_permit_85 (fun v h hq => ?_) (fun _ _ z => nomatch z.1)
                  obtain ⟨e1, hM⟩ := hq; cases e1
                  refine wk_br C d_MD_permit_88 (P := 0 = 0) (tgt := 93) (rest := []) rfl (by decide) (fun c18 => ?_) (fun c18 => ?_)
                  ·
                    refine wk_run C k_MD_permit_93 (pc2 := 96) (lv2 := [(5, .int (-1)), (4, .int 0), (0, .ref y), (1, .int p), (2, .int x), (3, .int a)]) (st2 := [.int (-1), .int (-1)]) rfl ?_
                    refine wk_br C d_MD_permit_96 (P := ¬ (-1) = (-1)) (tgt := 103) (rest := []) rfl (by decide) (fun c19 => ?_) (fun c19 => ?_)
                    ·
                      exact absurd c19 (by decide)
                    ·
                      refine wk_run C k_MD_permit_99 (pc2 := 100) (lv2 := [(5, .int (-1)), (4, .int 0), (0, .ref y), (1, .int p), (2, .int x), (3, .int a)]) (st2 := [.int (-1)]) rfl ?_
                      refine wk_goto C d_MD_permit_100 (tgt := 110) (by decide) ?_
                      refine wk_run C k_MD_permit_110 (pc2 := 115) (lv2 := [(6, .int (-1)), (5, .int (-1)), (4, .int 0), (0, .ref y), (1, .int p), (2, .int x), (3, .int a)]) (st2 := [.int (-1), .int (-1)]) rfl ?_
                      refine wk_br C d_MD_permit_115 (P := ¬ (-1) = (-1)) (tgt := 182) (rest := []) rfl (by decide) (fun c20 => ?_) (fun c20 => ?_)
                      ·
                        exact absurd c20 (by decide)
                      ·
                        refine wk_run C k_MD_permit_118 (pc2 := 120) (lv2 := [(6, .int (-1)), (5, .int (-1)), (4, .int 0), (0, .ref y), (1, .int p), (2, .int x), (3, .int a)]) (st2 := [.int (-1), .int a]) rfl ?_
                        refine wk_br C d_MD_permit_120 (P := a = (-1)) (tgt := 182) (rest := []) rfl (by decide) (fun c21 => ?_) (fun c21 => ?_)
                        ·
                          refine wk_run C k_MD_permit_182 (pc2 := 185) (lv2 := [(6, .int (-1)), (5, .int (-1)), (4, .int 0), (0, .ref y), (1, .int p), (2, .int x), (3, .int a)]) (st2 := [.int (-1), .int (-1)]) rfl ?_
                          refine wk_br C d_MD_permit_185 (P := (-1) = (-1)) (tgt := 204) (rest := []) rfl (by decide) (fun c22 => ?_) (fun c22 => ?_)
                          ·
                            refine wk_run C k_MD_permit_204 (pc2 := 207) (lv2 := [(6, .int (-1)), (5, .int (-1)), (4, .int 0), (0, .ref y), (1, .int p), (2, .int x), (3, .int a)]) (st2 := [.int (-1), .int (-1)]) rfl ?_
                            refine wk_br C d_MD_permit_207 (P := (-1) = (-1)) (tgt := 310) (rest := []) rfl (by decide) (fun c23 => ?_) (fun c23 => ?_)
                            ·
                              refine wk_run C k_MD_permit_310 (pc2 := 312) (lv2 := [(6, .int (-1)), (5, .int (-1)), (4, .int 0), (0, .ref y), (1, .int p), (2, .int x), (3, .int a)]) (st2 := [.int (-1)]) rfl ?_
                              exact wk_iret C ⟨0, (-1), vc (V) 0 0, by clear C hM hnm; grind [sp_permit], rfl, hM⟩ (by decide) (by decide) d_MD_permit_312
                            ·
                              exact absurd (by decide) c23
                          ·
                            exact absurd (by decide) c22
                        ·
                          refine wk_run C k_MD_permit_123 (pc2 := 128) (lv2 := [(6, .int (-1)), (5, .int (-1)), (4, .int 0), (0, .ref y), (1, .int p), (2, .int x), (3, .int a)]) (st2 := [.ref y, .int (10 * p)]) rfl ?_
                          refine wk_get (v := .ref (A 16)) C fd_MD_47 hM.ob rfl d_MD_permit_128 ?_
                          refine wk_run C k_MD_permit_131 (pc2 := 132) (lv2 := [(6, .int (-1)), (5, .int (-1)), (4, .int 0), (0, .ref y), (1, .int p), (2, .int x), (3, .int a)]) (st2 := [.int p, .ref (A 16), .int (10 * p)]) rfl ?_
                          refine wm_ld C hM 16 (j := nu p) rfl (vi_ c1.1 c1.2 hP (by decide) (by decide)) rfl d_MD_permit_132 ?_
                          show Wk _ _ _ _ _ _ _ _ _ _ _ _ _ _ _ _ _ _ _ (.int (V 16 (nu p)) :: _)
                          refine wk_run C k_MD_permit_133 (pc2 := 137) (lv2 := [(7, .int ((10 * p) + (V 16 (nu p)))), (6, .int (-1)), (5, .int (-1)), (4, .int 0), (0, .ref y), (1, .int p), (2, .int x), (3, .int a)]) (st2 := [.ref y]) rfl ?_
                          refine wk_get (v := .ref (A 17)) C fd_MD_50 hM.ob rfl d_MD_permit_137 ?_
                          refine wk_run C k_MD_permit_140 (pc2 := 143) (lv2 := [(7, .int ((10 * p) + (V 16 (nu p)))), (6, .int (-1)), (5, .int (-1)), (4, .int 0), (0, .ref y), (1, .int p), (2, .int x), (3, .int a)]) (st2 := [.int x, .int ((10 * p) + (V 16 (nu p))), .ref (A 17)]) rfl ?_
                          refine wm_st C hM 17 (j := (10 * nu p + nu (V 16 (nu p)))) rfl (nx_ (k := 10) (m := 60) (n := 9) (N := 610) (ok_r c1.1 c1.2 hP (by decide)) (ok_n10 hE (by clear C hM; grind)) (by decide) (by decide)).1 (nx_ (k := 10) (m := 60) (n := 9) (N := 610) (ok_r c1.1 c1.2 hP (by decide)) (ok_n10 hE (by clear C hM; grind)) (by decide) (by decide)).2 d_MD_permit_143 (fun h (hM : mq D h0 h y A (vs (vc (V) 0 0) 17 (upd (V 17) (10 * nu p + nu (V 16 (nu p))) x))) => ?_)
                          refine wk_run C k_MD_permit_144 (pc2 := 145) (lv2 := [(7, .int ((10 * p) + (V 16 (nu p)))), (6, .int (-1)), (5, .int (-1)), (4, .int 0), (0, .ref y), (1, .int p), (2, .int x), (3, .int a)]) (st2 := [.ref y]) rfl ?_
                          refine wk_get (v := .ref (A 18)) C fd_MD_53 hM.ob rfl d_MD_permit_145 ?_
                          refine wk_run C k_MD_permit_148 (pc2 := 151) (lv2 := [(7, .int ((10 * p) + (V 16 (nu p)))), (6, .int (-1)), (5, .int (-1)), (4, .int 0), (0, .ref y), (1, .int p), (2, .int x), (3, .int a)]) (st2 := [.int a, .int ((10 * p) + (V 16 (nu p))), .ref (A 18)]) rfl ?_
                          refine wm_st C hM 18 (j := (10 * nu p + nu (V 16 (nu p)))) rfl (nx_ (k := 10) (m := 60) (n := 9) (N := 610) (ok_r c1.1 c1.2 hP (by decide)) (ok_n10 hE (by clear C hM; grind)) (by decide) (by decide)).1 (nx_ (k := 10) (m := 60) (n := 9) (N := 610) (ok_r c1.1 c1.2 hP (by decide)) (ok_n10 hE (by clear C hM; grind)) (by decide) (by decide)).2 d_MD_permit_151 (fun h (hM : mq D h0 h y A (vs (vs (vc (V) 0 0) 17 (upd (V 17) (10 * nu p + nu (V 16 (nu p))) x)) 18 (upd (V 18) (10 * nu p + nu (V 16 (nu p))) a))) => ?_)
                          refine wk_run C k_MD_permit_152 (pc2 := 153) (lv2 := [(7, .int ((10 * p) + (V 16 (nu p)))), (6, .int (-1)), (5, .int (-1)), (4, .int 0), (0, .ref y), (1, .int p), (2, .int x), (3, .int a)]) (st2 := [.ref y]) rfl ?_
                          refine wk_get (v := .ref (A 19)) C fd_MD_56 hM.ob rfl d_MD_permit_153 ?_
                          refine wk_run C k_MD_permit_156 (pc2 := 159) (lv2 := [(7, .int ((10 * p) + (V 16 (nu p)))), (6, .int (-1)), (5, .int (-1)), (4, .int 0), (0, .ref y), (1, .int p), (2, .int x), (3, .int a)]) (st2 := [.int 0, .int ((10 * p) + (V 16 (nu p))), .ref (A 19)]) rfl ?_
                          refine wm_st C hM 19 (j := (10 * nu p + nu (V 16 (nu p)))) rfl (nx_ (k := 10) (m := 60) (n := 9) (N := 610) (ok_r c1.1 c1.2 hP (by decide)) (ok_n10 hE (by clear C hM; grind)) (by decide) (by decide)).1 (nx_ (k := 10) (m := 60) (n := 9) (N := 610) (ok_r c1.1 c1.2 hP (by decide)) (ok_n10 hE (by clear C hM; grind)) (by decide) (by decide)).2 d_MD_permit_159 (fun h (hM : mq D h0 h y A (vs (vs (vs (vc (V) 0 0) 17 (upd (V 17) (10 * nu p + nu (V 16 (nu p))) x)) 18 (upd (V 18) (10 * nu p + nu (V 16 (nu p))) a)) 19 (upd (V 19) (10 * nu p + nu (V 16 (nu p))) 0))) => ?_)
                          refine wk_run C k_MD_permit_160 (pc2 := 161) (lv2 := [(7, .int ((10 * p) + (V 16 (nu p)))), (6, .int (-1)), (5, .int (-1)), (4, .int 0), (0, .ref y), (1, .int p), (2, .int x), (3, .int a)]) (st2 := [.ref y]) rfl ?_
                          refine wk_get (v := .ref (A 20)) C fd_MD_59 hM.ob rfl d_MD_permit_161 ?_
                          refine wk_run C k_MD_permit_164 (pc2 := 166) (lv2 := [(7, .int ((10 * p) + (V 16 (nu p)))), (6, .int (-1)), (5, .int (-1)), (4, .int 0), (0, .ref y), (1, .int p), (2, .int x), (3, .int a)]) (st2 := [.int ((10 * p) + (V 16 (nu p))), .ref (A 20)]) rfl ?_
                          refine wk_ldc C kk_MD_114 d_MD_permit_166 ?_
                          refine wm_st C hM 20 (j := (10 * nu p + nu (V 16 (nu p)))) rfl (nx_ (k := 10) (m := 60) (n := 9) (N := 610) (ok_r c1.1 c1.2 hP (by decide)) (ok_n10 hE (by clear C hM; grind)) (by decide) (by decide)).1 (nx_ (k := 10) (m := 60) (n := 9) (N := 610) (ok_r c1.1 c1.2 hP (by decide)) (ok_n10 hE (by clear C hM; grind)) (by decide) (by decide)).2 d_MD_permit_168 (fun h (hM : mq D h0 h y A (vs (vs (vs (vs (vc (V) 0 0) 17 (upd (V 17) (10 * nu p + nu (V 16 (nu p))) x)) 18 (upd (V 18) (10 * nu p + nu (V 16 (nu p))) a)) 19 (upd (V 19) (10 * nu p + nu (V 16 (nu p))) 0)) 20 (upd (V 20) (10 * nu p + nu (V 16 (nu p))) 16777215))) => ?_)
                          refine wk_run C k_MD_permit_169 (pc2 := 170) (lv2 := [(7, .int ((10 * p) + (V 16 (nu p)))), (6, .int (-1)), (5, .int (-1)), (4, .int 0), (0, .ref y), (1, .int p), (2, .int x), (3, .int a)]) (st2 := [.ref y]) rfl ?_
                          refine wk_get (v := .ref (A 16)) C fd_MD_47 hM.ob rfl d_MD_permit_170 ?_
                          refine wk_run C k_MD_permit_173 (pc2 := 175) (lv2 := [(7, .int ((10 * p) + (V 16 (nu p)))), (6, .int (-1)), (5, .int (-1)), (4, .int 0), (0, .ref y), (1, .int p), (2, .int x), (3, .int a)]) (st2 := [.int p, .ref (A 16), .int p, .ref (A 16)]) rfl ?_
                          refine wm_ld C hM 16 (j := nu p) rfl (vi_ c1.1 c1.2 hP (by decide) (by decide)) rfl d_MD_permit_175 ?_
                          show Wk _ _ _ _ _ _ _ _ _ _ _ _ _ _ _ _ _ _ _ (.int (V 16 (nu p)) :: _)
                          refine wk_run C k_MD_permit_176 (pc2 := 178) (lv2 := [(7, .int ((10 * p) + (V 16 (nu p)))), (6, .int (-1)), (5, .int (-1)), (4, .int 0), (0, .ref y), (1, .int p), (2, .int x), (3, .int a)]) (st2 := [.int ((V 16 (nu p)) + 1), .int p, .ref (A 16)]) rfl ?_
                          refine wm_st C hM 16 (j := (nu p)) rfl (vi_ c1.1 c1.2 hP (by decide) (by decide)) rfl d_MD_permit_178 (fun h (hM : mq D h0 h y A (vs (vs (vs (vs (vs (vc (V) 0 0) 17 (upd (V 17) (10 * nu p + nu (V 16 (nu p))) x)) 18 (upd (V 18) (10 * nu p + nu (V 16 (nu p))) a)) 19 (upd (V 19) (10 * nu p + nu (V 16 (nu p))) 0)) 20 (upd (V 20) (10 * nu p + nu (V 16 (nu p))) 16777215)) 16 (upd (V 16) (nu p) ((V 16 (nu p)) + 1)))) => ?_)
                          refine wk_goto C d_MD_permit_179 (tgt := 310) (by decide) ?_
                          refine wk_run C k_MD_permit_310 (pc2 := 312) (lv2 := [(7, .int ((10 * p) + (V 16 (nu p)))), (6, .int (-1)), (5, .int (-1)), (4, .int 0), (0, .ref y), (1, .int p), (2, .int x), (3, .int a)]) (st2 := [.int (-1)]) rfl ?_
                          exact wk_iret C ⟨0, (-1), vs (vs (vs (vs (vs (vc (V) 0 0) 17 (upd (V 17) (10 * nu p + nu (V 16 (nu p))) x)) 18 (upd (V 18) (10 * nu p + nu (V 16 (nu p))) a)) 19 (upd (V 19) (10 * nu p + nu (V 16 (nu p))) 0)) 20 (upd (V 20) (10 * nu p + nu (V 16 (nu p))) 16777215)) 16 (upd (V 16) (nu p) ((V 16 (nu p)) + 1)), by clear C hM hnm; grind [sp_permit], rfl, hM⟩ (by decide) (by decide) d_MD_permit_312
                  ·
                    exact absurd (by decide) c18
                ·
                  refine wk_run C k_MD_permit_69 (pc2 := 70) (lv2 := [(5, .int (-1)), (4, .int 0), (0, .ref y), (1, .int p), (2, .int x), (3, .int a)]) (st2 := [.ref y, .int 0, .ref y]) rfl ?_
                  refine wk_get (v := .ref (A 16)) C fd_MD_47 hM.ob rfl d_MD_permit_70 ?_
                  refine wk_run C k_MD_permit_73 (pc2 := 74) (lv2 := [(5, .int (-1)), (4, .int 0), (0, .ref y), (1, .int p), (2, .int x), (3, .int a)]) (st2 := [.int p, .ref (A 16), .int 0, .ref y]) rfl ?_
                  refine wm_ld C hM 16 (j := nu p) rfl (vi_ c1.1 c1.2 hP (by decide) (by decide)) rfl d_MD_permit_74 ?_
                  show Wk _ _ _ _ _ _ _ _ _ _ _ _ _ _ _ _ _ _ _ (.int (V 16 (nu p)) :: _)
                  refine wk_run C k_MD_permit_75 (pc2 := 77) (lv2 := [(5, .int (-1)), (4, .int 0), (0, .ref y), (1, .int p), (2, .int x), (3, .int a)]) (st2 := [.int 10, .int (V 16 (nu p)), .int 0, .ref y]) rfl ?_
                  refine wk_br C d_MD_permit_77 (P := ¬ (V 16 (nu p)) = 10) (tgt := 84) (rest := [.int 0, .ref y]) rfl (by decide) (fun c24 => ?_) (fun c24 => ?_)
                  ·
                    refine wk_run C k_MD_permit_84 (pc2 := 85) (lv2 := [(5, .int (-1)), (4, .int 0), (0, .ref y), (1, .int p), (2, .int x), (3, .int a)]) (st2 := [.int 0, .int 0, .ref y]) rfl ?_
                    refine wk_callV (cl := ("ProfileRightsModel", T_MD, 27)) (rest := []) C (c_MD_f0 l D HB h h0 y A (V) hM) cs_MD_88 kc_MD_fails ki_MD hM.ob rfl rfl rfl (Nat.le_of_ble_eq_true rfl) (Nat.le_of_ble_eq_true rfl) (Nat.le_of_ble_eq_true rfl) (Nat.le_of_ble_eq_true rfl) (Nat.le_of_ble_eq_true rfl) d_MD_permit_85 (fun v h hq => ?_) (fun _ _ z => nomatch z.1)
                    obtain ⟨e1, hM⟩ := hq; cases e1
                    refine wk_br C d_MD_permit_88 (P := 0 = 0) (tgt := 93) (rest := []) rfl (by decide) (fun c25 => ?_) (fun c25 => ?_)
                    ·
                      refine wk_run C k_MD_permit_93 (pc2 := 96) (lv2 := [(5, .int (-1)), (4, .int 0), (0, .ref y), (1, .int p), (2, .int x), (3, .int a)]) (st2 := [.int (-1), .int (-1)]) rfl ?_
                      refine wk_br C d_MD_permit_96 (P := ¬ (-1) = (-1)) (tgt := 103) (rest := []) rfl (by decide) (fun c26 => ?_) (fun c26 => ?_)
                      ·
                        exact absurd c26 (by decide)
                      ·
                        refine wk_run C k_MD_permit_99 (pc2 := 100) (lv2 := [(5, .int (-1)), (4, .int 0), (0, .ref y), (1, .int p), (2, .int x), (3, .int a)]) (st2 := [.int (-1)]) rfl ?_
                        refine wk_goto C d_MD_permit_100 (tgt := 110) (by decide) ?_
                        refine wk_run C k_MD_permit_110 (pc2 := 115) (lv2 := [(6, .int (-1)), (5, .int (-1)), (4, .int 0), (0, .ref y), (1, .int p), (2, .int x), (3, .int a)]) (st2 := [.int (-1), .int (-1)]) rfl ?_
                        refine wk_br C d_MD_permit_115 (P := ¬ (-1) = (-1)) (tgt := 182) (rest := []) rfl (by decide) (fun c27 => ?_) (fun c27 => ?_)
                        ·
                          exact absurd c27 (by decide)
                        ·
                          refine wk_run C k_MD_permit_118 (pc2 := 120) (lv2 := [(6, .int (-1)), (5, .int (-1)), (4, .int 0), (0, .ref y), (1, .int p), (2, .int x), (3, .int a)]) (st2 := [.int (-1), .int a]) rfl ?_
                          refine wk_br C d_MD_permit_120 (P := a = (-1)) (tgt := 182) (rest := []) rfl (by decide) (fun c28 => ?_) (fun c28 => ?_)
                          ·
                            refine wk_run C k_MD_permit_182 (pc2 := 185) (lv2 := [(6, .int (-1)), (5, .int (-1)), (4, .int 0), (0, .ref y), (1, .int p), (2, .int x), (3, .int a)]) (st2 := [.int (-1), .int (-1)]) rfl ?_
                            refine wk_br C d_MD_permit_185 (P := (-1) = (-1)) (tgt := 204) (rest := []) rfl (by decide) (fun c29 => ?_) (fun c29 => ?_)
                            ·
                              refine wk_run C k_MD_permit_204 (pc2 := 207) (lv2 := [(6, .int (-1)), (5, .int (-1)), (4, .int 0), (0, .ref y), (1, .int p), (2, .int x), (3, .int a)]) (st2 := [.int (-1), .int (-1)]) rfl ?_
                              refine wk_br C d_MD_permit_207 (P := (-1) = (-1)) (tgt := 310) (rest := []) rfl (by decide) (fun c30 => ?_) (fun c30 => ?_)
                              ·
                                refine wk_run C k_MD_permit_310 (pc2 := 312) (lv2 := [(6, .int (-1)), (5, .int (-1)), (4, .int 0), (0, .ref y), (1, .int p), (2, .int x), (3, .int a)]) (st2 := [.int (-1)]) rfl ?_
                                exact wk_iret C ⟨0, (-1), vc (V) 0 0, by clear C hM hnm; grind [sp_permit], rfl, hM⟩ (by decide) (by decide) d_MD_permit_312
                              ·
                                exact absurd (by decide) c30
                            ·
                              exact absurd (by decide) c29
                          ·
                            refine wk_run C k_MD_permit_123 (pc2 := 128) (lv2 := [(6, .int (-1)), (5, .int (-1)), (4, .int 0), (0, .ref y), (1, .int p), (2, .int x), (3, .int a)]) (st2 := [.ref y, .int (10 * p)]) rfl ?_
                            refine wk_get (v := .ref (A 16)) C fd_MD_47 hM.ob rfl d_MD_permit_128 ?_
                            refine wk_run C k_MD_permit_131 (pc2 := 132) (lv2 := [(6, .int (-1)), (5, .int (-1)), (4, .int 0), (0, .ref y), (1, .int p), (2, .int x), (3, .int a)]) (st2 := [.int p, .ref (A 16), .int (10 * p)]) rfl ?_
                            refine wm_ld C hM 16 (j := nu p) rfl (vi_ c1.1 c1.2 hP (by decide) (by decide)) rfl d_MD_permit_132 ?_
                            show Wk _ _ _ _ _ _ _ _ _ _ _ _ _ _ _ _ _ _ _ (.int (V 16 (nu p)) :: _)
                            refine wk_run C k_MD_permit_133 (pc2 := 137) (lv2 := [(7, .int ((10 * p) + (V 16 (nu p)))), (6, .int (-1)), (5, .int (-1)), (4, .int 0), (0, .ref y), (1, .int p), (2, .int x), (3, .int a)]) (st2 := [.ref y]) rfl ?_
                            refine wk_get (v := .ref (A 17)) C fd_MD_50 hM.ob rfl d_MD_permit_137 ?_
                            refine wk_run C k_MD_permit_140 (pc2 := 143) (lv2 := [(7, .int ((10 * p) + (V 16 (nu p)))), (6, .int (-1)), (5, .int (-1)), (4, .int 0), (0, .ref y), (1, .int p), (2, .int x), (3, .int a)]) (st2 := [.int x, .int ((10 * p) + (V 16 (nu p))), .ref (A 17)]) rfl ?_
                            refine wm_st C hM 17 (j := (10 * nu p + nu (V 16 (nu p)))) rfl (nx_ (k := 10) (m := 60) (n := 9) (N := 610) (ok_r c1.1 c1.2 hP (by decide)) (ok_n10 hE (by clear C hM; grind)) (by decide) (by decide)).1 (nx_ (k := 10) (m := 60) (n := 9) (N := 610) (ok_r c1.1 c1.2 hP (by decide)) (ok_n10 hE (by clear C hM; grind)) (by decide) (by decide)).2 d_MD_permit_143 (fun h (hM : mq D h0 h y A (vs (vc (V) 0 0) 17 (upd (V 17) (10 * nu p + nu (V 16 (nu p))) x))) => ?_)
                            refine wk_run C k_MD_permit_144 (pc2 := 145) (lv2 := [(7, .int ((10 * p) + (V 16 (nu p)))), (6, .int (-1)), (5, .int (-1)), (4, .int 0), (0, .ref y), (1, .int p), (2, .int x), (3, .int a)]) (st2 := [.ref y]) rfl ?_
                            refine wk_get (v := .ref (A 18)) C fd_MD_53 hM.ob rfl d_MD_permit_145 ?_
                            refine wk_run C k_MD_permit_148 (pc2 := 151) (lv2 := [(7, .int ((10 * p) + (V 16 (nu p)))), (6, .int (-1)), (5, .int (-1)), (4, .int 0), (0, .ref y), (1, .int p), (2, .int x), (3, .int a)]) (st2 := [.int a, .int ((10 * p) + (V 16 (nu p))), .ref (A 18)]) rfl ?_
                            refine wm_st C hM 18 (j := (10 * nu p + nu (V 16 (nu p)))) rfl (nx_ (k := 10) (m := 60) (n := 9) (N := 610) (ok_r c1.1 c1.2 hP (by decide)) (ok_n10 hE (by clear C hM; grind)) (by decide) (by decide)).1 (nx_ (k := 10) (m := 60) (n := 9) (N := 610) (ok_r c1.1 c1.2 hP (by decide)) (ok_n10 hE (by clear C hM; grind)) (by decide) (by decide)).2 d_MD_permit_151 (fun h (hM : mq D h0 h y A (vs (vs (vc (V) 0 0) 17 (upd (V 17) (10 * nu p + nu (V 16 (nu p))) x)) 18 (upd (V 18) (10 * nu p + nu (V 16 (nu p))) a))) => ?_)
                            refine wk_run C k_MD_permit_152 (pc2 := 153) (lv2 := [(7, .int ((10 * p) + (V 16 (nu p)))), (6, .int (-1)), (5, .int (-1)), (4, .int 0), (0, .ref y), (1, .int p), (2, .int x), (3, .int a)]) (st2 := [.ref y]) rfl ?_
                            refine wk_get (v := .ref (A 19)) C fd_MD_56 hM.ob rfl d_MD_permit_153 ?_
                            refine wk_run C k_MD_permit_156 (pc2 := 159) (lv2 := [(7, .int ((10 * p) + (V 16 (nu p)))), (6, .int (-1)), (5, .int (-1)), (4, .int 0), (0, .ref y), (1, .int p), (2, .int x), (3, .int a)]) (st2 := [.int 0, .int ((10 * p) + (V 16 (nu p))), .ref (A 19)]) rfl ?_
                            refine wm_st C hM 19 (j := (10 * nu p + nu (V 16 (nu p)))) rfl (nx_ (k := 10) (m := 60) (n := 9) (N := 610) (ok_r c1.1 c1.2 hP (by decide)) (ok_n10 hE (by clear C hM; grind)) (by decide) (by decide)).1 (nx_ (k := 10) (m := 60) (n := 9) (N := 610) (ok_r c1.1 c1.2 hP (by decide)) (ok_n10 hE (by clear C hM; grind)) (by decide) (by decide)).2 d_MD_permit_159 (fun h (hM : mq D h0 h y A (vs (vs (vs (vc (V) 0 0) 17 (upd (V 17) (10 * nu p + nu (V 16 (nu p))) x)) 18 (upd (V 18) (10 * nu p + nu (V 16 (nu p))) a)) 19 (upd (V 19) (10 * nu p + nu (V 16 (nu p))) 0))) => ?_)
                            refine wk_run C k_MD_permit_160 (pc2 := 161) (lv2 := [(7, .int ((10 * p) + (V 16 (nu p)))), (6, .int (-1)), (5, .int (-1)), (4, .int 0), (0, .ref y), (1, .int p), (2, .int x), (3, .int a)]) (st2 := [.ref y]) rfl ?_
                            refine wk_get (v := .ref (A 20)) C fd_MD_59 hM.ob rfl d_MD_permit_161 ?_
                            refine wk_run C k_MD_permit_164 (pc2 := 166) (lv2 := [(7, .int ((10 * p) + (V 16 (nu p)))), (6, .int (-1)), (5, .int (-1)), (4, .int 0), (0, .ref y), (1, .int p), (2, .int x), (3, .int a)]) (st2 := [.int ((10 * p) + (V 16 (nu p))), .ref (A 20)]) rfl ?_
                            refine wk_ldc C kk_MD_114 d_MD_permit_166 ?_
                            refine wm_st C hM 20 (j := (10 * nu p + nu (V 16 (nu p)))) rfl (nx_ (k := 10) (m := 60) (n := 9) (N := 610) (ok_r c1.1 c1.2 hP (by decide)) (ok_n10 hE (by clear C hM; grind)) (by decide) (by decide)).1 (nx_ (k := 10) (m := 60) (n := 9) (N := 610) (ok_r c1.1 c1.2 hP (by decide)) (ok_n10 hE (by clear C hM; grind)) (by decide) (by decide)).2 d_MD_permit_168 (fun h (hM : mq D h0 h y A (vs (vs (vs (vs (vc (V) 0 0) 17 (upd (V 17) (10 * nu p + nu (V 16 (nu p))) x)) 18 (upd (V 18) (10 * nu p + nu (V 16 (nu p))) a)) 19 (upd (V 19) (10 * nu p + nu (V 16 (nu p))) 0)) 20 (upd (V 20) (10 * nu p + nu (V 16 (nu p))) 16777215))) => ?_)
                            refine wk_run C k_MD_permit_169 (pc2 := 170) (lv2 := [(7, .int ((10 * p) + (V 16 (nu p)))), (6, .int (-1)), (5, .int (-1)), (4, .int 0), (0, .ref y), (1, .int p), (2, .int x), (3, .int a)]) (st2 := [.ref y]) rfl ?_
                            refine wk_get (v := .ref (A 16)) C fd_MD_47 hM.ob rfl d_MD_permit_170 ?_
                            refine wk_run C k_MD_permit_173 (pc2 := 175) (lv2 := [(7, .int ((10 * p) + (V 16 (nu p)))), (6, .int (-1)), (5, .int (-1)), (4, .int 0), (0, .ref y), (1, .int p), (2, .int x), (3, .int a)]) (st2 := [.int p, .ref (A 16), .int p, .ref (A 16)]) rfl ?_
                            refine wm_ld C hM 16 (j := nu p) rfl (vi_ c1.1 c1.2 hP (by decide) (by decide)) rfl d_MD_permit_175 ?_
                            show Wk _ _ _ _ _ _ _ _ _ _ _ _ _ _ _ _ _ _ _ (.int (V 16 (nu p)) :: _)
                            refine wk_run C k_MD_permit_176 (pc2 := 178) (lv2 := [(7, .int ((10 * p) + (V 16 (nu p)))), (6, .int (-1)), (5, .int (-1)), (4, .int 0), (0, .ref y), (1, .int p), (2, .int x), (3, .int a)]) (st2 := [.int ((V 16 (nu p)) + 1), .int p, .ref (A 16)]) rfl ?_
                            refine wm_st C hM 16 (j := (nu p)) rfl (vi_ c1.1 c1.2 hP (by decide) (by decide)) rfl d_MD_permit_178 (fun h (hM : mq D h0 h y A (vs (vs (vs (vs (vs (vc (V) 0 0) 17 (upd (V 17) (10 * nu p + nu (V 16 (nu p))) x)) 18 (upd (V 18) (10 * nu p + nu (V 16 (nu p))) a)) 19 (upd (V 19) (10 * nu p + nu (V 16 (nu p))) 0)) 20 (upd (V 20) (10 * nu p + nu (V 16 (nu p))) 16777215)) 16 (upd (V 16) (nu p) ((V 16 (nu p)) + 1)))) => ?_)
                            refine wk_goto C d_MD_permit_179 (tgt := 310) (by decide) ?_
                            refine wk_run C k_MD_permit_310 (pc2 := 312) (lv2 := [(7, .int ((10 * p) + (V 16 (nu p)))), (6, .int (-1)), (5, .int (-1)), (4, .int 0), (0, .ref y), (1, .int p), (2, .int x), (3, .int a)]) (st2 := [.int (-1)]) rfl ?_
                            exact wk_iret C ⟨0, (-1), vs (vs (vs (vs (vs (vc (V) 0 0) 17 (upd (V 17) (10 * nu p + nu (V 16 (nu p))) x)) 18 (upd (V 18) (10 * nu p + nu (V 16 (nu p))) a)) 19 (upd (V 19) (10 * nu p + nu (V 16 (nu p))) 0)) 20 (upd (V 20) (10 * nu p + nu (V 16 (nu p))) 16777215)) 16 (upd (V 16) (nu p) ((V 16 (nu p)) + 1)), by clear C hM hnm; grind [sp_permit], rfl, hM⟩ (by decide) (by decide) d_MD_permit_312
                    ·
                      exact absurd (by decide) c25
                  ·
                    refine wk_run C k_MD_permit_80 (pc2 := 81) (lv2 := [(5, .int (-1)), (4, .int 0), (0, .ref y), (1, .int p), (2, .int x), (3, .int a)]) (st2 := [.int 1, .int 0, .ref y]) rfl ?_
                    refine wk_goto C d_MD_permit_81 (tgt := 85) (by decide) ?_
                    refine wk_callV (cl := ("ProfileRightsModel", T_MD, 27)) (rest := []) C (c_MD_f2 l D HB h h0 y A (V) hM) cs_MD_88 kc_MD_fails ki_MD hM.ob rfl rfl rfl (Nat.le_of_ble_eq_true rfl) (Nat.le_of_ble_eq_true rfl) (Nat.le_of_ble_eq_true rfl) (Nat.le_of_ble_eq_true rfl) (Nat.le_of_ble_eq_true rfl) d_MD_permit_85 (fun v h hq => ?_) (fun _ _ z => nomatch z.1)
                    obtain ⟨e1, hM⟩ := hq; cases e1
                    refine wk_br C d_MD_permit_88 (P := 1 = 0) (tgt := 93) (rest := []) rfl (by decide) (fun c31 => ?_) (fun c31 => ?_)
                    ·
                      exact absurd c31 (by decide)
                    ·
                      refine wk_run C k_MD_permit_91 (pc2 := 92) (lv2 := [(5, .int (-1)), (4, .int 0), (0, .ref y), (1, .int p), (2, .int x), (3, .int a)]) (st2 := [.int 0]) rfl ?_
                      exact wk_iret C ⟨2, 0, vc (V) 0 2, by clear C hM hnm; grind [sp_permit], rfl, hM⟩ (by decide) (by decide) d_MD_permit_92
          ·
            exact absurd (by decide) c14
        ·
          refine wk_run C k_MD_permit_26 (pc2 := 27) (lv2 := [(0, .ref y), (1, .int p), (2, .int x), (3, .int a)]) (st2 := [.int 1]) rfl ?_
          refine wk_goto C d_MD_permit_27 (tgt := 31) (by decide) ?_
          refine wk_run C k_MD_permit_31 (pc2 := 35) (lv2 := [(4, .int 1), (0, .ref y), (1, .int p), (2, .int x), (3, .int a)]) (st2 := [.int 1]) rfl ?_
          refine wk_br C d_MD_permit_35 (P := 1 = 0) (tgt := 42) (rest := []) rfl (by decide) (fun c32 => ?_) (fun c32 => ?_)
          ·
            exact absurd c32 (by decide)
          ·
            refine wk_run C k_MD_permit_38 (pc2 := 39) (lv2 := [(4, .int 1), (0, .ref y), (1, .int p), (2, .int x), (3, .int a)]) (st2 := [.int (-1)]) rfl ?_
            refine wk_goto C d_MD_permit_39 (tgt := 48) (by decide) ?_
            refine wk_run C k_MD_permit_48 (pc2 := 55) (lv2 := [(5, .int (-1)), (4, .int 1), (0, .ref y), (1, .int p), (2, .int x), (3, .int a)]) (st2 := [.int 1, .int 1, .ref y]) rfl ?_
            refine wk_br C d_MD_permit_55 (P := ¬ 1 = 0) (tgt := 84) (rest := [.int 1, .ref y]) rfl (by decide) (fun c33 => ?_) (fun c33 => ?_)
            ·
              refine wk_run C k_MD_permit_84 (pc2 := 85) (lv2 := [(5, .int (-1)), (4, .int 1), (0, .ref y), (1, .int p), (2, .int x), (3, .int a)]) (st2 := [.int 0, .int 1, .ref y]) rfl ?_
              refine wk_callV (cl := ("ProfileRightsModel", T_MD, 27)) (rest := []) C (c_MD_f1 l D HB h h0 y A (V) hM) cs_MD_88 kc_MD_fails ki_MD hM.ob rfl rfl rfl (Nat.le_of_ble_eq_true rfl) (Nat.le_of_ble_eq_true rfl) (Nat.le_of_ble_eq_true rfl) (Nat.le_of_ble_eq_true rfl) (Nat.le_of_ble_eq_true rfl) d_MD_permit_85 (fun v h hq => ?_) (fun _ _ z => nomatch z.1)
              obtain ⟨e1, hM⟩ := hq; cases e1
              refine wk_br C d_MD_permit_88 (P := 1 = 0) (tgt := 93) (rest := []) rfl (by decide) (fun c34 => ?_) (fun c34 => ?_)
              ·
                exact absurd c34 (by decide)
              ·
                refine wk_run C k_MD_permit_91 (pc2 := 92) (lv2 := [(5, .int (-1)), (4, .int 1), (0, .ref y), (1, .int p), (2, .int x), (3, .int a)]) (st2 := [.int 0]) rfl ?_
                exact wk_iret C ⟨1, 0, vc (V) 0 1, by clear C hM hnm; grind [sp_permit], rfl, hM⟩ (by decide) (by decide) d_MD_permit_92
            ·
              exact absurd (by decide) c33
theorem k_MD_permit_103 : px_dec prog_9_method_24_code [.aload_n 0] 103 = true := by decide +kernel
theorem d_MD_permit_104 : decode prog_9_method_24_code 104 = .ok (.getfield 53, 3) := by decide +kernel
theorem k_MD_permit_107 : px_dec prog_9_method_24_code [.iload 5] 107 = true := by decide +kernel
theorem d_MD_permit_109 : decode prog_9_method_24_code 109 = .ok (.iaload, 1) := by decide +kernel
theorem k_MD_permit_188 : px_dec prog_9_method_24_code [.iload_n 3, .iconst (-1)] 188 = true := by decide +kernel
theorem d_MD_permit_190 : decode prog_9_method_24_code 190 = .ok (.if_icmp .eq 14, 3) := by decide +kernel
theorem k_MD_permit_210 : px_dec prog_9_method_24_code [.aload_n 0] 210 = true := by decide +kernel
theorem d_MD_permit_211 : decode prog_9_method_24_code 211 = .ok (.getfield 47, 3) := by decide +kernel
theorem k_MD_permit_214 : px_dec prog_9_method_24_code [.iload_n 1, .dup2] 214 = true := by decide +kernel
theorem d_MD_permit_216 : decode prog_9_method_24_code 216 = .ok (.iaload, 1) := by decide +kernel
theorem k_MD_permit_217 : px_dec prog_9_method_24_code [.iconst 1, .isub] 217 = true := by decide +kernel
theorem d_MD_permit_219 : decode prog_9_method_24_code 219 = .ok (.iastore, 1) := by decide +kernel
theorem k_MD_permit_220 : px_dec prog_9_method_24_code [.iload 5, .istore 7] 220 = true := by decide +kernel
theorem k_MD_permit_224 : px_dec prog_9_method_24_code [.iload 7, .bipush 10, .iload_n 1, .imul, .aload_n 0] 224 = true := by decide +kernel
theorem d_MD_permit_231 : decode prog_9_method_24_code 231 = .ok (.getfield 47, 3) := by decide +kernel
theorem k_MD_permit_234 : px_dec prog_9_method_24_code [.iload_n 1] 234 = true := by decide +kernel
theorem d_MD_permit_235 : decode prog_9_method_24_code 235 = .ok (.iaload, 1) := by decide +kernel
theorem k_MD_permit_236 : px_dec prog_9_method_24_code [.iadd] 236 = true := by decide +kernel
theorem d_MD_permit_237 : decode prog_9_method_24_code 237 = .ok (.if_icmp .ge 73, 3) := by decide +kernel
theorem k_MD_permit_240 : px_dec prog_9_method_24_code [.aload_n 0] 240 = true := by decide +kernel
theorem d_MD_permit_241 : decode prog_9_method_24_code 241 = .ok (.getfield 50, 3) := by decide +kernel
theorem k_MD_permit_244 : px_dec prog_9_method_24_code [.iload 7, .aload_n 0] 244 = true := by decide +kernel
theorem d_MD_permit_247 : decode prog_9_method_24_code 247 = .ok (.getfield 50, 3) := by decide +kernel
theorem k_MD_permit_250 : px_dec prog_9_method_24_code [.iload 7, .iconst 1, .iadd] 250 = true := by decide +kernel
theorem d_MD_permit_254 : decode prog_9_method_24_code 254 = .ok (.iaload, 1) := by decide +kernel
theorem d_MD_permit_255 : decode prog_9_method_24_code 255 = .ok (.iastore, 1) := by decide +kernel
theorem k_MD_permit_256 : px_dec prog_9_method_24_code [.aload_n 0] 256 = true := by decide +kernel
theorem d_MD_permit_257 : decode prog_9_method_24_code 257 = .ok (.getfield 53, 3) := by decide +kernel
theorem k_MD_permit_260 : px_dec prog_9_method_24_code [.iload 7, .aload_n 0] 260 = true := by decide +kernel
theorem d_MD_permit_263 : decode prog_9_method_24_code 263 = .ok (.getfield 53, 3) := by decide +kernel
theorem k_MD_permit_266 : px_dec prog_9_method_24_code [.iload 7, .iconst 1, .iadd] 266 = true := by decide +kernel
theorem d_MD_permit_270 : decode prog_9_method_24_code 270 = .ok (.iaload, 1) := by decide +kernel
theorem d_MD_permit_271 : decode prog_9_method_24_code 271 = .ok (.iastore, 1) := by decide +kernel
theorem k_MD_permit_272 : px_dec prog_9_method_24_code [.aload_n 0] 272 = true := by decide +kernel
theorem d_MD_permit_273 : decode prog_9_method_24_code 273 = .ok (.getfield 56, 3) := by decide +kernel
theorem k_MD_permit_276 : px_dec prog_9_method_24_code [.iload 7, .aload_n 0] 276 = true := by decide +kernel
theorem d_MD_permit_279 : decode prog_9_method_24_code 279 = .ok (.getfield 56, 3) := by decide +kernel
theorem k_MD_permit_282 : px_dec prog_9_method_24_code [.iload 7, .iconst 1, .iadd] 282 = true := by decide +kernel
theorem d_MD_permit_286 : decode prog_9_method_24_code 286 = .ok (.iaload, 1) := by decide +kernel
theorem d_MD_permit_287 : decode prog_9_method_24_code 287 = .ok (.iastore, 1) := by decide +kernel
theorem k_MD_permit_288 : px_dec prog_9_method_24_code [.aload_n 0] 288 = true := by decide +kernel
theorem d_MD_permit_289 : decode prog_9_method_24_code 289 = .ok (.getfield 59, 3) := by decide +kernel
theorem k_MD_permit_292 : px_dec prog_9_method_24_code [.iload 7, .aload_n 0] 292 = true := by decide +kernel
theorem d_MD_permit_295 : decode prog_9_method_24_code 295 = .ok (.getfield 59, 3) := by decide +kernel
theorem k_MD_permit_298 : px_dec prog_9_method_24_code [.iload 7, .iconst 1, .iadd] 298 = true := by decide +kernel
theorem d_MD_permit_302 : decode prog_9_method_24_code 302 = .ok (.iaload, 1) := by decide +kernel
theorem d_MD_permit_303 : decode prog_9_method_24_code 303 = .ok (.iastore, 1) := by decide +kernel
theorem k_MD_permit_304 : px_dec prog_9_method_24_code [.iinc 7 1] 304 = true := by decide +kernel
theorem d_MD_permit_307 : decode prog_9_method_24_code 307 = .ok (.goto (-83), 3) := by decide +kernel
theorem k_MD_permit_193 : px_dec prog_9_method_24_code [.aload_n 0] 193 = true := by decide +kernel
theorem d_MD_permit_194 : decode prog_9_method_24_code 194 = .ok (.getfield 53, 3) := by decide +kernel
theorem k_MD_permit_197 : px_dec prog_9_method_24_code [.iload 5, .iload_n 3] 197 = true := by decide +kernel
theorem d_MD_permit_200 : decode prog_9_method_24_code 200 = .ok (.iastore, 1) := by decide +kernel
theorem d_MD_permit_201 : decode prog_9_method_24_code 201 = .ok (.goto 109, 3) := by decide +kernel
set_option maxRecDepth 100000 in
set_option maxHeartbeats 4000000 in
theorem c_MD_permitS (l : Launch) (D : va_G) (HB : Heap) (h : hp_T) (h0 : hp_T) (y : Nat) (A : Nat → Nat) (V : vT) (p : Int32) (x : Int32) (a : Int32) (hP : ok_ (V 9 0) 60) (hE : ok_ (V 16 (nu p)) 10) (k : Nat) (hf : fe_ V (nu p) x = some k) (hM : mq D h0 h y A V) : ct_M l y_MD_permit (.code y_MD_permit prog_9_method_24_code 8 (Option.some Jvm.ClassFile.FieldType.int)) ({ frames := 2, cells := 0, slots := 0, locals := 60 }) D HB [.ref y, .int p, .int x, .int a] h (fun o h2 => ∃ (cd r : Int32) (V2 : vT), sp_permit V p x a = (cd, r, V2) ∧ o = .inl (some (.int r)) ∧ mq D h0 h2 y A V2) := by
  refine ct_of (by decide) (Nat.le_of_ble_eq_true rfl) rfl ?_
  intro p_ e_ s_ m_ r_ b_ t_ c_ C hnm
  refine wk_run C k_MD_permit_0 (pc2 := 2) (lv2 := [(0, .ref y), (1, .int p), (2, .int x), (3, .int a)]) (st2 := [.int p, .ref y]) rfl ?_
  refine wk_callV (cl := ("ProfileRightsModel", T_MD, 27)) (rest := []) C (c_MD_isProfile l D HB h h0 y A (V) p hM) cs_MD_101 kc_MD_isProfile ki_MD hM.ob rfl rfl rfl (Nat.le_of_ble_eq_true rfl) (Nat.le_of_ble_eq_true rfl) (Nat.le_of_ble_eq_true rfl) (Nat.le_of_ble_eq_true rfl) (Nat.le_of_ble_eq_true rfl) d_MD_permit_2 (fun v h2 hq => ?_) (fun _ _ z => nomatch z.1)
  obtain ⟨e1, e2⟩ := hq; cases e1; replace e2 := e2.symm; subst e2
  show Wk _ _ _ _ _ _ _ _ _ _ _ _ _ _ _ _ _ _ _ (.int (if ¬ p < 1 ∧ p ≤ V 9 0 then (1 : Int32) else 0) :: _)
  refine wk_br C d_MD_permit_5 (P := (if ¬ p < 1 ∧ p ≤ V 9 0 then (1 : Int32) else 0) = 0) (tgt := 26) (rest := []) rfl (by decide) (fun c1 => ?_) (fun c1 => ?_)
  ·
    replace c1 := bz_ c1
    refine wk_run C k_MD_permit_26 (pc2 := 27) (lv2 := [(0, .ref y), (1, .int p), (2, .int x), (3, .int a)]) (st2 := [.int 1]) rfl ?_
    refine wk_goto C d_MD_permit_27 (tgt := 31) (by decide) ?_
    refine wk_run C k_MD_permit_31 (pc2 := 35) (lv2 := [(4, .int 1), (0, .ref y), (1, .int p), (2, .int x), (3, .int a)]) (st2 := [.int 1]) rfl ?_
    refine wk_br C d_MD_permit_35 (P := 1 = 0) (tgt := 42) (rest := []) rfl (by decide) (fun c2 => ?_) (fun c2 => ?_)
    ·
      exact absurd c2 (by decide)
    ·
      refine wk_run C k_MD_permit_38 (pc2 := 39) (lv2 := [(4, .int 1), (0, .ref y), (1, .int p), (2, .int x), (3, .int a)]) (st2 := [.int (-1)]) rfl ?_
      refine wk_goto C d_MD_permit_39 (tgt := 48) (by decide) ?_
      refine wk_run C k_MD_permit_48 (pc2 := 55) (lv2 := [(5, .int (-1)), (4, .int 1), (0, .ref y), (1, .int p), (2, .int x), (3, .int a)]) (st2 := [.int 1, .int 1, .ref y]) rfl ?_
      refine wk_br C d_MD_permit_55 (P := ¬ 1 = 0) (tgt := 84) (rest := [.int 1, .ref y]) rfl (by decide) (fun c3 => ?_) (fun c3 => ?_)
      ·
        refine wk_run C k_MD_permit_84 (pc2 := 85) (lv2 := [(5, .int (-1)), (4, .int 1), (0, .ref y), (1, .int p), (2, .int x), (3, .int a)]) (st2 := [.int 0, .int 1, .ref y]) rfl ?_
        refine wk_callV (cl := ("ProfileRightsModel", T_MD, 27)) (rest := []) C (c_MD_f1 l D HB h h0 y A (V) hM) cs_MD_88 kc_MD_fails ki_MD hM.ob rfl rfl rfl (Nat.le_of_ble_eq_true rfl) (Nat.le_of_ble_eq_true rfl) (Nat.le_of_ble_eq_true rfl) (Nat.le_of_ble_eq_true rfl) (Nat.le_of_ble_eq_true rfl) d_MD_permit_85 (fun v h hq => ?_) (fun _ _ z => nomatch z.1)
        obtain ⟨e1, hM⟩ := hq; cases e1
        refine wk_br C d_MD_permit_88 (P := 1 = 0) (tgt := 93) (rest := []) rfl (by decide) (fun c4 => ?_) (fun c4 => ?_)
        ·
          exact absurd c4 (by decide)
        ·
          refine wk_run C k_MD_permit_91 (pc2 := 92) (lv2 := [(5, .int (-1)), (4, .int 1), (0, .ref y), (1, .int p), (2, .int x), (3, .int a)]) (st2 := [.int 0]) rfl ?_
          exact wk_iret C ⟨1, 0, vc (V) 0 1, by clear C hM hnm; grind [sp_permit], rfl, hM⟩ (by decide) (by decide) d_MD_permit_92
      ·
        exact absurd (by decide) c3
  ·
    replace c1 := bn_ c1
    refine wk_run C k_MD_permit_8 (pc2 := 10) (lv2 := [(0, .ref y), (1, .int p), (2, .int x), (3, .int a)]) (st2 := [.int x, .ref y]) rfl ?_
    refine wk_callV (cl := ("ProfileRightsModel", T_MD, 27)) (rest := []) C (c_MD_isWho l D HB h h0 y A (V) x hM) cs_MD_107 kc_MD_isWho ki_MD hM.ob rfl rfl rfl (Nat.le_of_ble_eq_true rfl) (Nat.le_of_ble_eq_true rfl) (Nat.le_of_ble_eq_true rfl) (Nat.le_of_ble_eq_true rfl) (Nat.le_of_ble_eq_true rfl) d_MD_permit_10 (fun v h2 hq => ?_) (fun _ _ z => nomatch z.1)
    obtain ⟨e1, e2⟩ := hq; cases e1; replace e2 := e2.symm; subst e2
    show Wk _ _ _ _ _ _ _ _ _ _ _ _ _ _ _ _ _ _ _ (.int (if ho_ (V) x then (1 : Int32) else 0) :: _)
    refine wk_br C d_MD_permit_13 (P := (if ho_ (V) x then (1 : Int32) else 0) = 0) (tgt := 26) (rest := []) rfl (by decide) (fun c5 => ?_) (fun c5 => ?_)
    ·
      replace c5 := bz_ c5
      refine wk_run C k_MD_permit_26 (pc2 := 27) (lv2 := [(0, .ref y), (1, .int p), (2, .int x), (3, .int a)]) (st2 := [.int 1]) rfl ?_
      refine wk_goto C d_MD_permit_27 (tgt := 31) (by decide) ?_
      refine wk_run C k_MD_permit_31 (pc2 := 35) (lv2 := [(4, .int 1), (0, .ref y), (1, .int p), (2, .int x), (3, .int a)]) (st2 := [.int 1]) rfl ?_
      refine wk_br C d_MD_permit_35 (P := 1 = 0) (tgt := 42) (rest := []) rfl (by decide) (fun c6 => ?_) (fun c6 => ?_)
      ·
        exact absurd c6 (by decide)
      ·
        refine wk_run C k_MD_permit_38 (pc2 := 39) (lv2 := [(4, .int 1), (0, .ref y), (1, .int p), (2, .int x), (3, .int a)]) (st2 := [.int (-1)]) rfl ?_
        refine wk_goto C d_MD_permit_39 (tgt := 48) (by decide) ?_
        refine wk_run C k_MD_permit_48 (pc2 := 55) (lv2 := [(5, .int (-1)), (4, .int 1), (0, .ref y), (1, .int p), (2, .int x), (3, .int a)]) (st2 := [.int 1, .int 1, .ref y]) rfl ?_
        refine wk_br C d_MD_permit_55 (P := ¬ 1 = 0) (tgt := 84) (rest := [.int 1, .ref y]) rfl (by decide) (fun c7 => ?_) (fun c7 => ?_)
        ·
          refine wk_run C k_MD_permit_84 (pc2 := 85) (lv2 := [(5, .int (-1)), (4, .int 1), (0, .ref y), (1, .int p), (2, .int x), (3, .int a)]) (st2 := [.int 0, .int 1, .ref y]) rfl ?_
          refine wk_callV (cl := ("ProfileRightsModel", T_MD, 27)) (rest := []) C (c_MD_f1 l D HB h h0 y A (V) hM) cs_MD_88 kc_MD_fails ki_MD hM.ob rfl rfl rfl (Nat.le_of_ble_eq_true rfl) (Nat.le_of_ble_eq_true rfl) (Nat.le_of_ble_eq_true rfl) (Nat.le_of_ble_eq_true rfl) (Nat.le_of_ble_eq_true rfl) d_MD_permit_85 (fun v h hq => ?_) (fun _ _ z => nomatch z.1)
          obtain ⟨e1, hM⟩ := hq; cases e1
          refine wk_br C d_MD_permit_88 (P := 1 = 0) (tgt := 93) (rest := []) rfl (by decide) (fun c8 => ?_) (fun c8 => ?_)
          ·
            exact absurd c8 (by decide)
          ·
            refine wk_run C k_MD_permit_91 (pc2 := 92) (lv2 := [(5, .int (-1)), (4, .int 1), (0, .ref y), (1, .int p), (2, .int x), (3, .int a)]) (st2 := [.int 0]) rfl ?_
            exact wk_iret C ⟨1, 0, vc (V) 0 1, by clear C hM hnm; grind [sp_permit], rfl, hM⟩ (by decide) (by decide) d_MD_permit_92
        ·
          exact absurd (by decide) c7
    ·
      replace c5 := bn_ c5
      refine wk_run C k_MD_permit_16 (pc2 := 18) (lv2 := [(0, .ref y), (1, .int p), (2, .int x), (3, .int a)]) (st2 := [.int (-1), .int a]) rfl ?_
      refine wk_br C d_MD_permit_18 (P := a < (-1)) (tgt := 26) (rest := []) rfl (by decide) (fun c9 => ?_) (fun c9 => ?_)
      ·
        refine wk_run C k_MD_permit_26 (pc2 := 27) (lv2 := [(0, .ref y), (1, .int p), (2, .int x), (3, .int a)]) (st2 := [.int 1]) rfl ?_
        refine wk_goto C d_MD_permit_27 (tgt := 31) (by decide) ?_
        refine wk_run C k_MD_permit_31 (pc2 := 35) (lv2 := [(4, .int 1), (0, .ref y), (1, .int p), (2, .int x), (3, .int a)]) (st2 := [.int 1]) rfl ?_
        refine wk_br C d_MD_permit_35 (P := 1 = 0) (tgt := 42) (rest := []) rfl (by decide) (fun c10 => ?_) (fun c10 => ?_)
        ·
          exact absurd c10 (by decide)
        ·
          refine wk_run C k_MD_permit_38 (pc2 := 39) (lv2 := [(4, .int 1), (0, .ref y), (1, .int p), (2, .int x), (3, .int a)]) (st2 := [.int (-1)]) rfl ?_
          refine wk_goto C d_MD_permit_39 (tgt := 48) (by decide) ?_
          refine wk_run C k_MD_permit_48 (pc2 := 55) (lv2 := [(5, .int (-1)), (4, .int 1), (0, .ref y), (1, .int p), (2, .int x), (3, .int a)]) (st2 := [.int 1, .int 1, .ref y]) rfl ?_
          refine wk_br C d_MD_permit_55 (P := ¬ 1 = 0) (tgt := 84) (rest := [.int 1, .ref y]) rfl (by decide) (fun c11 => ?_) (fun c11 => ?_)
          ·
            refine wk_run C k_MD_permit_84 (pc2 := 85) (lv2 := [(5, .int (-1)), (4, .int 1), (0, .ref y), (1, .int p), (2, .int x), (3, .int a)]) (st2 := [.int 0, .int 1, .ref y]) rfl ?_
            refine wk_callV (cl := ("ProfileRightsModel", T_MD, 27)) (rest := []) C (c_MD_f1 l D HB h h0 y A (V) hM) cs_MD_88 kc_MD_fails ki_MD hM.ob rfl rfl rfl (Nat.le_of_ble_eq_true rfl) (Nat.le_of_ble_eq_true rfl) (Nat.le_of_ble_eq_true rfl) (Nat.le_of_ble_eq_true rfl) (Nat.le_of_ble_eq_true rfl) d_MD_permit_85 (fun v h hq => ?_) (fun _ _ z => nomatch z.1)
            obtain ⟨e1, hM⟩ := hq; cases e1
            refine wk_br C d_MD_permit_88 (P := 1 = 0) (tgt := 93) (rest := []) rfl (by decide) (fun c12 => ?_) (fun c12 => ?_)
            ·
              exact absurd c12 (by decide)
            ·
              refine wk_run C k_MD_permit_91 (pc2 := 92) (lv2 := [(5, .int (-1)), (4, .int 1), (0, .ref y), (1, .int p), (2, .int x), (3, .int a)]) (st2 := [.int 0]) rfl ?_
              exact wk_iret C ⟨1, 0, vc (V) 0 1, by clear C hM hnm; grind [sp_permit], rfl, hM⟩ (by decide) (by decide) d_MD_permit_92
          ·
            exact absurd (by decide) c11
      ·
        refine wk_run C k_MD_permit_21 (pc2 := 23) (lv2 := [(0, .ref y), (1, .int p), (2, .int x), (3, .int a)]) (st2 := [.int 4, .int a]) rfl ?_
        refine wk_br C d_MD_permit_23 (P := a ≤ 4) (tgt := 30) (rest := []) rfl (by decide) (fun c13 => ?_) (fun c13 => ?_)
        ·
          refine wk_run C k_MD_permit_30 (pc2 := 35) (lv2 := [(4, .int 0), (0, .ref y), (1, .int p), (2, .int x), (3, .int a)]) (st2 := [.int 0]) rfl ?_
          refine wk_br C d_MD_permit_35 (P := 0 = 0) (tgt := 42) (rest := []) rfl (by decide) (fun c14 => ?_) (fun c14 => ?_)
          ·
            refine wk_run C k_MD_permit_42 (pc2 := 45) (lv2 := [(4, .int 0), (0, .ref y), (1, .int p), (2, .int x), (3, .int a)]) (st2 := [.int x, .int p, .ref y]) rfl ?_
            refine wk_callV (cl := ("ProfileRightsModel", T_MD, 27)) (rest := []) C (c_MD_entry l D HB h h0 y A (V) p x (some k) (ok_r c1.1 c1.2 hP (by decide)) hE (hf ▸ fe_s V (nu p) x) hM) cs_MD_110 kc_MD_entry ki_MD hM.ob rfl rfl rfl (Nat.le_of_ble_eq_true rfl) (Nat.le_of_ble_eq_true rfl) (Nat.le_of_ble_eq_true rfl) (Nat.le_of_ble_eq_true rfl) (Nat.le_of_ble_eq_true rfl) d_MD_permit_45 (fun v h2 hq => ?_) (fun _ _ z => nomatch z.1)
            obtain ⟨e1, e2⟩ := hq; cases e1; replace e2 := e2.symm; subst e2
            show Wk _ _ _ _ _ _ _ _ _ _ _ _ _ _ _ _ _ _ _ (.int (nI (10 * nu p + k)) :: _)
            have hk : k < 10 := Nat.lt_of_lt_of_le (show k < nu (V 16 (nu p)) from (hf ▸ fe_s V (nu p) x : fs_ _ x _ (some k)).1) hE.2
            have hp6 : nu p ≤ 60 := (ok_r c1.1 c1.2 hP (by decide)).2
            have hkn : ¬ nI (10 * nu p + k) = -1 := nI_nm (by omega)
            refine wk_run C k_MD_permit_48 (pc2 := 55) (lv2 := [(5, .int (nI (10 * nu p + k))), (4, .int 0), (0, .ref y), (1, .int p), (2, .int x), (3, .int a)]) (st2 := [.int 0, .int 0, .ref y]) rfl ?_
            refine wk_br C d_MD_permit_55 (P := ¬ 0 = 0) (tgt := 84) (rest := [.int 0, .ref y]) rfl (by decide) (fun c15 => ?_) (fun c15 => ?_)
            ·
              exact absurd c15 (by decide)
            ·
              refine wk_run C k_MD_permit_58 (pc2 := 61) (lv2 := [(5, .int (nI (10 * nu p + k))), (4, .int 0), (0, .ref y), (1, .int p), (2, .int x), (3, .int a)]) (st2 := [.int (-1), .int (nI (10 * nu p + k)), .int 0, .ref y]) rfl ?_
              refine wk_br C d_MD_permit_61 (P := ¬ (nI (10 * nu p + k)) = (-1)) (tgt := 84) (rest := [.int 0, .ref y]) rfl (by decide) (fun c16 => ?_) (fun c16 => ?_)
              ·
                refine wk_run C k_MD_permit_84 (pc2 := 85) (lv2 := [(5, .int (nI (10 * nu p + k))), (4, .int 0), (0, .ref y), (1, .int p), (2, .int x), (3, .int a)]) (st2 := [.int 0, .int 0, .ref y]) rfl ?_
                refine wk_callV (cl := ("ProfileRightsModel", T_MD, 27)) (rest := []) C (c_MD_f0 l D HB h h0 y A (V) hM) cs_MD_88 kc_MD_fails ki_MD hM.ob rfl rfl rfl (Nat.le_of_ble_eq_true rfl) (Nat.le_of_ble_eq_true rfl) (Nat.le_of_ble_eq_true rfl) (Nat.le_of_ble_eq_true rfl) (Nat.le_of_ble_eq_true rfl) d_MD_permit_85 (fun v h hq => ?_) (fun _ _ z => nomatch z.1)
                obtain ⟨e1, hM⟩ := hq; cases e1
                refine wk_br C d_MD_permit_88 (P := 0 = 0) (tgt := 93) (rest := []) rfl (by decide) (fun c17 => ?_) (fun c17 => ?_)
                ·
                  refine wk_run C k_MD_permit_93 (pc2 := 96) (lv2 := [(5, .int (nI (10 * nu p + k))), (4, .int 0), (0, .ref y), (1, .int p), (2, .int x), (3, .int a)]) (st2 := [.int (-1), .int (nI (10 * nu p + k))]) rfl ?_
                  refine wk_br C d_MD_permit_96 (P := ¬ (nI (10 * nu p + k)) = (-1)) (tgt := 103) (rest := []) rfl (by decide) (fun c18 => ?_) (fun c18 => ?_)
                  ·
                    refine wk_run C k_MD_permit_103 (pc2 := 104) (lv2 := [(5, .int (nI (10 * nu p + k))), (4, .int 0), (0, .ref y), (1, .int p), (2, .int x), (3, .int a)]) (st2 := [.ref y]) rfl ?_
                    refine wk_get (v := .ref (A 18)) C fd_MD_53 hM.ob rfl d_MD_permit_104 ?_
                    refine wk_run C k_MD_permit_107 (pc2 := 109) (lv2 := [(5, .int (nI (10 * nu p + k))), (4, .int 0), (0, .ref y), (1, .int p), (2, .int x), (3, .int a)]) (st2 := [.int (nI (10 * nu p + k)), .ref (A 18)]) rfl ?_
                    refine wm_ld C hM 18 (j := 10 * nu p + k) rfl (vi_k (ok_nI (m := 10 * nu p + k) (n := 609) (by omega) (by decide)) (by decide) (by decide)) (nu_nI (by omega)) d_MD_permit_109 ?_
                    show Wk _ _ _ _ _ _ _ _ _ _ _ _ _ _ _ _ _ _ _ (.int (V 18 (10 * nu p + k)) :: _)
                    refine wk_run C k_MD_permit_110 (pc2 := 115) (lv2 := [(6, .int (V 18 (10 * nu p + k))), (5, .int (nI (10 * nu p + k))), (4, .int 0), (0, .ref y), (1, .int p), (2, .int x), (3, .int a)]) (st2 := [.int (-1), .int (nI (10 * nu p + k))]) rfl ?_
                    refine wk_br C d_MD_permit_115 (P := ¬ (nI (10 * nu p + k)) = (-1)) (tgt := 182) (rest := []) rfl (by decide) (fun c19 => ?_) (fun c19 => ?_)
                    ·
                      refine wk_run C k_MD_permit_182 (pc2 := 185) (lv2 := [(6, .int (V 18 (10 * nu p + k))), (5, .int (nI (10 * nu p + k))), (4, .int 0), (0, .ref y), (1, .int p), (2, .int x), (3, .int a)]) (st2 := [.int (-1), .int (nI (10 * nu p + k))]) rfl ?_
                      refine wk_br C d_MD_permit_185 (P := (nI (10 * nu p + k)) = (-1)) (tgt := 204) (rest := []) rfl (by decide) (fun c20 => ?_) (fun c20 => ?_)
                      ·
                        exact absurd c20 hkn
                      ·
                        refine wk_run C k_MD_permit_188 (pc2 := 190) (lv2 := [(6, .int (V 18 (10 * nu p + k))), (5, .int (nI (10 * nu p + k))), (4, .int 0), (0, .ref y), (1, .int p), (2, .int x), (3, .int a)]) (st2 := [.int (-1), .int a]) rfl ?_
                        refine wk_br C d_MD_permit_190 (P := a = (-1)) (tgt := 204) (rest := []) rfl (by decide) (fun c21 => ?_) (fun c21 => ?_)
                        ·
                          refine wk_run C k_MD_permit_204 (pc2 := 207) (lv2 := [(6, .int (V 18 (10 * nu p + k))), (5, .int (nI (10 * nu p + k))), (4, .int 0), (0, .ref y), (1, .int p), (2, .int x), (3, .int a)]) (st2 := [.int (-1), .int (nI (10 * nu p + k))]) rfl ?_
                          refine wk_br C d_MD_permit_207 (P := (nI (10 * nu p + k)) = (-1)) (tgt := 310) (rest := []) rfl (by decide) (fun c22 => ?_) (fun c22 => ?_)
                          ·
                            exact absurd c22 hkn
                          ·
                            refine wk_run C k_MD_permit_210 (pc2 := 211) (lv2 := [(6, .int (V 18 (10 * nu p + k))), (5, .int (nI (10 * nu p + k))), (4, .int 0), (0, .ref y), (1, .int p), (2, .int x), (3, .int a)]) (st2 := [.ref y]) rfl ?_
                            refine wk_get (v := .ref (A 16)) C fd_MD_47 hM.ob rfl d_MD_permit_211 ?_
                            refine wk_run C k_MD_permit_214 (pc2 := 216) (lv2 := [(6, .int (V 18 (10 * nu p + k))), (5, .int (nI (10 * nu p + k))), (4, .int 0), (0, .ref y), (1, .int p), (2, .int x), (3, .int a)]) (st2 := [.int p, .ref (A 16), .int p, .ref (A 16)]) rfl ?_
                            refine wm_ld C hM 16 (j := nu p) rfl (vi_ c1.1 c1.2 hP (by decide) (by decide)) rfl d_MD_permit_216 ?_
                            show Wk _ _ _ _ _ _ _ _ _ _ _ _ _ _ _ _ _ _ _ (.int (V 16 (nu p)) :: _)
                            refine wk_run C k_MD_permit_217 (pc2 := 219) (lv2 := [(6, .int (V 18 (10 * nu p + k))), (5, .int (nI (10 * nu p + k))), (4, .int 0), (0, .ref y), (1, .int p), (2, .int x), (3, .int a)]) (st2 := [.int ((V 16 (nu p)) - 1), .int p, .ref (A 16)]) rfl ?_
                            refine wm_st C hM 16 (j := (nu p)) rfl (vi_ c1.1 c1.2 hP (by decide) (by decide)) rfl d_MD_permit_219 (fun h (hM : mq D h0 h y A (vs (vc (V) 0 0) 16 (upd (V 16) (nu p) ((V 16 (nu p)) - 1)))) => ?_)
                            refine wk_run C k_MD_permit_220 (pc2 := 224) (lv2 := [(7, .int (nI (10 * nu p + k))), (6, .int (V 18 (10 * nu p + k))), (5, .int (nI (10 * nu p + k))), (4, .int 0), (0, .ref y), (1, .int p), (2, .int x), (3, .int a)]) (st2 := []) rfl ?_
                            refine Wk.sub (lv2 := [(0, .ref y), (1, .int p), (2, .int x), (3, .int a), (6, .int (V 18 (10 * nu p + k))), (7, .int (nI (10 * nu p + k)))]) [4, 5, 6, 7, 1, 0] rfl ?_
                            have hpos : 0 < nu (V 16 (nu p)) := Nat.lt_of_le_of_lt (Nat.zero_le k) (show k < nu (V 16 (nu p)) from (hf ▸ fe_s V (nu p) x : fs_ _ x _ (some k)).1)
                            have hkl : k < nu (V 16 (nu p)) := (hf ▸ fe_s V (nu p) x : fs_ _ x _ (some k)).1
                            have hd := ok_dec hE hpos (by decide)
                            have hE2 := hE.2
                            have hdE := hd.2
                            refine wk_ind (σ := Nat × hp_T) (hF := fun b => b.2) (lvF := fun b => [(0, .ref y), (1, .int p), (2, .int x), (3, .int a), (6, .int (V 18 (10 * nu p + k))), (7, .int (nI b.1))]) (fun b => 10 * nu p + nu (V 16 (nu p) - 1) - b.1) (fun b => 10 * nu p + k ≤ b.1 ∧ b.1 ≤ 10 * nu p + nu (V 16 (nu p) - 1) ∧ mq D h0 b.2 y A (rm_ (vs (vc V 0 0) 16 (upd (V 16) (nu p) (V 16 (nu p) - 1))) (10 * nu p + k) b.1)) (fun b hb ih => ?_) (10 * nu p + k, h) ⟨Nat.le_refl _, by omega, by rw [rm_0]; exact hM⟩
                            obtain ⟨i, h⟩ := b
                            obtain ⟨hi1, hi2, hM⟩ := hb
                            replace hi1 : 10 * nu p + k ≤ i := hi1
                            replace hi2 : i ≤ 10 * nu p + nu (V 16 (nu p) - 1) := hi2
                            show Wk _ _ _ _ _ _ _ _ _ _ _ _ _ _ _ _ _ _ [(0, .ref y), (1, .int p), (2, .int x), (3, .int a), (6, .int (V 18 (10 * nu p + k))), (7, .int (nI i))] _
                            refine wk_run C k_MD_permit_224 (pc2 := 231) (lv2 := [(0, .ref y), (1, .int p), (2, .int x), (3, .int a), (6, .int (V 18 (10 * nu p + k))), (7, .int (nI i))]) (st2 := [.ref y, .int (10 * p), .int (nI i)]) rfl ?_
                            refine wk_get (v := .ref (A 16)) C fd_MD_47 hM.ob rfl d_MD_permit_231 ?_
                            refine wk_run C k_MD_permit_234 (pc2 := 235) (lv2 := [(0, .ref y), (1, .int p), (2, .int x), (3, .int a), (6, .int (V 18 (10 * nu p + k))), (7, .int (nI i))]) (st2 := [.int p, .ref (A 16), .int (10 * p), .int (nI i)]) rfl ?_
                            refine wm_ld C hM 16 (j := nu p) rfl (vi_k (ok_r c1.1 c1.2 hP (by decide)) (by decide) (by decide)) rfl d_MD_permit_235 ?_
                            show Wk _ _ _ _ _ _ _ _ _ _ _ _ _ _ _ _ _ _ _ (.int ((upd (V 16) (nu p) (V 16 (nu p) - 1)) (nu p)) :: _)
                            refine wk_run C k_MD_permit_236 (pc2 := 237) (lv2 := [(0, .ref y), (1, .int p), (2, .int x), (3, .int a), (6, .int (V 18 (10 * nu p + k))), (7, .int (nI i))]) (st2 := [.int ((10 * p) + ((upd (V 16) (nu p) (V 16 (nu p) - 1)) (nu p))), .int (nI i)]) rfl ?_
                            refine wk_br C d_MD_permit_237 (P := ((10 * p) + ((upd (V 16) (nu p) (V 16 (nu p) - 1)) (nu p))) ≤ (nI i)) (tgt := 310) (rest := []) rfl (by decide) (fun c51 => ?_) (fun c51 => ?_)
                            ·
                              have hie : i = 10 * nu p + nu (V 16 (nu p) - 1) := by have := c51; rw [upd_s, show (10 : Int32) * p + (V 16 (nu p) - 1) = nI (10 * nu p + nu (V 16 (nu p) - 1)) from nxe_ (k := 10) (ok_r c1.1 c1.2 hP (by decide)) hd.1, nI_leI (by omega) (by omega)] at this; omega
                              rw [hie] at hM
                              refine wk_run C k_MD_permit_310 (pc2 := 312) (lv2 := [(0, .ref y), (1, .int p), (2, .int x), (3, .int a), (6, .int (V 18 (10 * nu p + k))), (7, .int (nI i))]) (st2 := [.int (V 18 (10 * nu p + k))]) rfl ?_
                              exact wk_iret C ⟨0, (V 18 (10 * nu p + k)), rm_ (vs (vc V 0 0) 16 (upd (V 16) (nu p) (V 16 (nu p) - 1))) (10 * nu p + k) (10 * nu p + nu (V 16 (nu p) - 1)), by clear C hM hnm; grind [sp_permit], rfl, hM⟩ (by decide) (by decide) d_MD_permit_312
                            ·
                              have hlt : i < 10 * nu p + nu (V 16 (nu p) - 1) := by rcases Nat.lt_or_ge i (10 * nu p + nu (V 16 (nu p) - 1)) with z | z; exact z; exact absurd (by rw [upd_s, show (10 : Int32) * p + (V 16 (nu p) - 1) = nI (10 * nu p + nu (V 16 (nu p) - 1)) from nxe_ (k := 10) (ok_r c1.1 c1.2 hP (by decide)) hd.1]; exact nI_le z (by omega)) c51
                              refine wk_run C k_MD_permit_240 (pc2 := 241) (lv2 := [(0, .ref y), (1, .int p), (2, .int x), (3, .int a), (6, .int (V 18 (10 * nu p + k))), (7, .int (nI i))]) (st2 := [.ref y]) rfl ?_
                              refine wk_get (v := .ref (A 17)) C fd_MD_50 hM.ob rfl d_MD_permit_241 ?_
                              refine wk_run C k_MD_permit_244 (pc2 := 247) (lv2 := [(0, .ref y), (1, .int p), (2, .int x), (3, .int a), (6, .int (V 18 (10 * nu p + k))), (7, .int (nI i))]) (st2 := [.ref y, .int (nI i), .ref (A 17)]) rfl ?_
                              refine wk_get (v := .ref (A 17)) C fd_MD_50 hM.ob rfl d_MD_permit_247 ?_
                              refine wk_run C k_MD_permit_250 (pc2 := 254) (lv2 := [(0, .ref y), (1, .int p), (2, .int x), (3, .int a), (6, .int (V 18 (10 * nu p + k))), (7, .int (nI i))]) (st2 := [.int ((nI i) + 1), .ref (A 17), .int (nI i), .ref (A 17)]) rfl ?_
                              refine wm_ld C hM 17 (j := i + 1) rfl (vi_k (ok_of (nI_1 i) (n := 609) (by omega) (by decide)) (by decide) (by decide)) ((congrArg nu (nI_1 i)).trans (nu_nI (by omega))) d_MD_permit_254 ?_
                              show Wk _ _ _ _ _ _ _ _ _ _ _ _ _ _ _ _ _ _ _ (.int ((sh_ (V 17) (10 * nu p + k) i) (i + 1)) :: _)
                              refine wm_st C hM 17 (j := i) rfl (vi_k (ok_nI (m := i) (n := 609) (by omega) (by decide)) (by decide) (by decide)) (nu_nI (by omega)) d_MD_permit_255 (fun h (hM : mq D h0 h y A (vs (rm_ (vs (vc V 0 0) 16 (upd (V 16) (nu p) (V 16 (nu p) - 1))) (10 * nu p + k) i) 17 (upd (sh_ (V 17) (10 * nu p + k) i) i ((sh_ (V 17) (10 * nu p + k) i) (i + 1))))) => ?_)
                              refine wk_run C k_MD_permit_256 (pc2 := 257) (lv2 := [(0, .ref y), (1, .int p), (2, .int x), (3, .int a), (6, .int (V 18 (10 * nu p + k))), (7, .int (nI i))]) (st2 := [.ref y]) rfl ?_
                              refine wk_get (v := .ref (A 18)) C fd_MD_53 hM.ob rfl d_MD_permit_257 ?_
                              refine wk_run C k_MD_permit_260 (pc2 := 263) (lv2 := [(0, .ref y), (1, .int p), (2, .int x), (3, .int a), (6, .int (V 18 (10 * nu p + k))), (7, .int (nI i))]) (st2 := [.ref y, .int (nI i), .ref (A 18)]) rfl ?_
                              refine wk_get (v := .ref (A 18)) C fd_MD_53 hM.ob rfl d_MD_permit_263 ?_
                              refine wk_run C k_MD_permit_266 (pc2 := 270) (lv2 := [(0, .ref y), (1, .int p), (2, .int x), (3, .int a), (6, .int (V 18 (10 * nu p + k))), (7, .int (nI i))]) (st2 := [.int ((nI i) + 1), .ref (A 18), .int (nI i), .ref (A 18)]) rfl ?_
                              refine wm_ld C hM 18 (j := i + 1) rfl (vi_k (ok_of (nI_1 i) (n := 609) (by omega) (by decide)) (by decide) (by decide)) ((congrArg nu (nI_1 i)).trans (nu_nI (by omega))) d_MD_permit_270 ?_
                              show Wk _ _ _ _ _ _ _ _ _ _ _ _ _ _ _ _ _ _ _ (.int ((sh_ (V 18) (10 * nu p + k) i) (i + 1)) :: _)
                              refine wm_st C hM 18 (j := i) rfl (vi_k (ok_nI (m := i) (n := 609) (by omega) (by decide)) (by decide) (by decide)) (nu_nI (by omega)) d_MD_permit_271 (fun h (hM : mq D h0 h y A (vs (vs (rm_ (vs (vc V 0 0) 16 (upd (V 16) (nu p) (V 16 (nu p) - 1))) (10 * nu p + k) i) 17 (upd (sh_ (V 17) (10 * nu p + k) i) i ((sh_ (V 17) (10 * nu p + k) i) (i + 1)))) 18 (upd (sh_ (V 18) (10 * nu p + k) i) i ((sh_ (V 18) (10 * nu p + k) i) (i + 1))))) => ?_)
                              refine wk_run C k_MD_permit_272 (pc2 := 273) (lv2 := [(0, .ref y), (1, .int p), (2, .int x), (3, .int a), (6, .int (V 18 (10 * nu p + k))), (7, .int (nI i))]) (st2 := [.ref y]) rfl ?_
                              refine wk_get (v := .ref (A 19)) C fd_MD_56 hM.ob rfl d_MD_permit_273 ?_
                              refine wk_run C k_MD_permit_276 (pc2 := 279) (lv2 := [(0, .ref y), (1, .int p), (2, .int x), (3, .int a), (6, .int (V 18 (10 * nu p + k))), (7, .int (nI i))]) (st2 := [.ref y, .int (nI i), .ref (A 19)]) rfl ?_
                              refine wk_get (v := .ref (A 19)) C fd_MD_56 hM.ob rfl d_MD_permit_279 ?_
                              refine wk_run C k_MD_permit_282 (pc2 := 286) (lv2 := [(0, .ref y), (1, .int p), (2, .int x), (3, .int a), (6, .int (V 18 (10 * nu p + k))), (7, .int (nI i))]) (st2 := [.int ((nI i) + 1), .ref (A 19), .int (nI i), .ref (A 19)]) rfl ?_
                              refine wm_ld C hM 19 (j := i + 1) rfl (vi_k (ok_of (nI_1 i) (n := 609) (by omega) (by decide)) (by decide) (by decide)) ((congrArg nu (nI_1 i)).trans (nu_nI (by omega))) d_MD_permit_286 ?_
                              show Wk _ _ _ _ _ _ _ _ _ _ _ _ _ _ _ _ _ _ _ (.int ((sh_ (V 19) (10 * nu p + k) i) (i + 1)) :: _)
                              refine wm_st C hM 19 (j := i) rfl (vi_k (ok_nI (m := i) (n := 609) (by omega) (by decide)) (by decide) (by decide)) (nu_nI (by omega)) d_MD_permit_287 (fun h (hM : mq D h0 h y A (vs (vs (vs (rm_ (vs (vc V 0 0) 16 (upd (V 16) (nu p) (V 16 (nu p) - 1))) (10 * nu p + k) i) 17 (upd (sh_ (V 17) (10 * nu p + k) i) i ((sh_ (V 17) (10 * nu p + k) i) (i + 1)))) 18 (upd (sh_ (V 18) (10 * nu p + k) i) i ((sh_ (V 18) (10 * nu p + k) i) (i + 1)))) 19 (upd (sh_ (V 19) (10 * nu p + k) i) i ((sh_ (V 19) (10 * nu p + k) i) (i + 1))))) => ?_)
                              refine wk_run C k_MD_permit_288 (pc2 := 289) (lv2 := [(0, .ref y), (1, .int p), (2, .int x), (3, .int a), (6, .int (V 18 (10 * nu p + k))), (7, .int (nI i))]) (st2 := [.ref y]) rfl ?_
                              refine wk_get (v := .ref (A 20)) C fd_MD_59 hM.ob rfl d_MD_permit_289 ?_
                              refine wk_run C k_MD_permit_292 (pc2 := 295) (lv2 := [(0, .ref y), (1, .int p), (2, .int x), (3, .int a), (6, .int (V 18 (10 * nu p + k))), (7, .int (nI i))]) (st2 := [.ref y, .int (nI i), .ref (A 20)]) rfl ?_
                              refine wk_get (v := .ref (A 20)) C fd_MD_59 hM.ob rfl d_MD_permit_295 ?_
                              refine wk_run C k_MD_permit_298 (pc2 := 302) (lv2 := [(0, .ref y), (1, .int p), (2, .int x), (3, .int a), (6, .int (V 18 (10 * nu p + k))), (7, .int (nI i))]) (st2 := [.int ((nI i) + 1), .ref (A 20), .int (nI i), .ref (A 20)]) rfl ?_
                              refine wm_ld C hM 20 (j := i + 1) rfl (vi_k (ok_of (nI_1 i) (n := 609) (by omega) (by decide)) (by decide) (by decide)) ((congrArg nu (nI_1 i)).trans (nu_nI (by omega))) d_MD_permit_302 ?_
                              show Wk _ _ _ _ _ _ _ _ _ _ _ _ _ _ _ _ _ _ _ (.int ((sh_ (V 20) (10 * nu p + k) i) (i + 1)) :: _)
                              refine wm_st C hM 20 (j := i) rfl (vi_k (ok_nI (m := i) (n := 609) (by omega) (by decide)) (by decide) (by decide)) (nu_nI (by omega)) d_MD_permit_303 (fun h (hM : mq D h0 h y A (vs (vs (vs (vs (rm_ (vs (vc V 0 0) 16 (upd (V 16) (nu p) (V 16 (nu p) - 1))) (10 * nu p + k) i) 17 (upd (sh_ (V 17) (10 * nu p + k) i) i ((sh_ (V 17) (10 * nu p + k) i) (i + 1)))) 18 (upd (sh_ (V 18) (10 * nu p + k) i) i ((sh_ (V 18) (10 * nu p + k) i) (i + 1)))) 19 (upd (sh_ (V 19) (10 * nu p + k) i) i ((sh_ (V 19) (10 * nu p + k) i) (i + 1)))) 20 (upd (sh_ (V 20) (10 * nu p + k) i) i ((sh_ (V 20) (10 * nu p + k) i) (i + 1))))) => ?_)
                              refine wk_run C k_MD_permit_304 (pc2 := 307) (lv2 := [(7, .int ((nI i) + 1)), (0, .ref y), (1, .int p), (2, .int x), (3, .int a), (6, .int (V 18 (10 * nu p + k)))]) (st2 := []) rfl ?_
                              refine wk_goto C d_MD_permit_307 (tgt := 224) (by decide) ?_
                              refine Wk.sub (lv2 := [(0, .ref y), (1, .int p), (2, .int x), (3, .int a), (6, .int (V 18 (10 * nu p + k))), (7, .int ((nI i) + 1))]) [1, 2, 3, 4, 5, 0] rfl ?_
                              rw [nI_1]
                              exact ih (i + 1, h) ⟨by omega, by omega, by rw [rm_1 _ hi1]; exact hM⟩ (by show _ - (i + 1) < _ - i; omega)
                        ·
                          refine wk_run C k_MD_permit_193 (pc2 := 194) (lv2 := [(6, .int (V 18 (10 * nu p + k))), (5, .int (nI (10 * nu p + k))), (4, .int 0), (0, .ref y), (1, .int p), (2, .int x), (3, .int a)]) (st2 := [.ref y]) rfl ?_
                          refine wk_get (v := .ref (A 18)) C fd_MD_53 hM.ob rfl d_MD_permit_194 ?_
                          refine wk_run C k_MD_permit_197 (pc2 := 200) (lv2 := [(6, .int (V 18 (10 * nu p + k))), (5, .int (nI (10 * nu p + k))), (4, .int 0), (0, .ref y), (1, .int p), (2, .int x), (3, .int a)]) (st2 := [.int a, .int (nI (10 * nu p + k)), .ref (A 18)]) rfl ?_
                          refine wm_st C hM 18 (j := (10 * nu p + k)) rfl (vi_k (ok_nI (m := 10 * nu p + k) (n := 609) (by omega) (by decide)) (by decide) (by decide)) (nu_nI (by omega)) d_MD_permit_200 (fun h (hM : mq D h0 h y A (vs (vc (V) 0 0) 18 (upd (V 18) (10 * nu p + k) a))) => ?_)
                          refine wk_goto C d_MD_permit_201 (tgt := 310) (by decide) ?_
                          refine wk_run C k_MD_permit_310 (pc2 := 312) (lv2 := [(6, .int (V 18 (10 * nu p + k))), (5, .int (nI (10 * nu p + k))), (4, .int 0), (0, .ref y), (1, .int p), (2, .int x), (3, .int a)]) (st2 := [.int (V 18 (10 * nu p + k))]) rfl ?_
                          exact wk_iret C ⟨0, (V 18 (10 * nu p + k)), vs (vc (V) 0 0) 18 (upd (V 18) (10 * nu p + k) a), by clear C hM hnm; grind [sp_permit], rfl, hM⟩ (by decide) (by decide) d_MD_permit_312
                    ·
                      exact absurd hkn c19
                  ·
                    exact absurd hkn c18
                ·
                  exact absurd (by decide) c17
              ·
                exact absurd hkn c16
          ·
            exact absurd (by decide) c14
        ·
          refine wk_run C k_MD_permit_26 (pc2 := 27) (lv2 := [(0, .ref y), (1, .int p), (2, .int x), (3, .int a)]) (st2 := [.int 1]) rfl ?_
          refine wk_goto C d_MD_permit_27 (tgt := 31) (by decide) ?_
          refine wk_run C k_MD_permit_31 (pc2 := 35) (lv2 := [(4, .int 1), (0, .ref y), (1, .int p), (2, .int x), (3, .int a)]) (st2 := [.int 1]) rfl ?_
          refine wk_br C d_MD_permit_35 (P := 1 = 0) (tgt := 42) (rest := []) rfl (by decide) (fun c23 => ?_) (fun c23 => ?_)
          ·
            exact absurd c23 (by decide)
          ·
            refine wk_run C k_MD_permit_38 (pc2 := 39) (lv2 := [(4, .int 1), (0, .ref y), (1, .int p), (2, .int x), (3, .int a)]) (st2 := [.int (-1)]) rfl ?_
            refine wk_goto C d_MD_permit_39 (tgt := 48) (by decide) ?_
            refine wk_run C k_MD_permit_48 (pc2 := 55) (lv2 := [(5, .int (-1)), (4, .int 1), (0, .ref y), (1, .int p), (2, .int x), (3, .int a)]) (st2 := [.int 1, .int 1, .ref y]) rfl ?_
            refine wk_br C d_MD_permit_55 (P := ¬ 1 = 0) (tgt := 84) (rest := [.int 1, .ref y]) rfl (by decide) (fun c24 => ?_) (fun c24 => ?_)
            ·
              refine wk_run C k_MD_permit_84 (pc2 := 85) (lv2 := [(5, .int (-1)), (4, .int 1), (0, .ref y), (1, .int p), (2, .int x), (3, .int a)]) (st2 := [.int 0, .int 1, .ref y]) rfl ?_
              refine wk_callV (cl := ("ProfileRightsModel", T_MD, 27)) (rest := []) C (c_MD_f1 l D HB h h0 y A (V) hM) cs_MD_88 kc_MD_fails ki_MD hM.ob rfl rfl rfl (Nat.le_of_ble_eq_true rfl) (Nat.le_of_ble_eq_true rfl) (Nat.le_of_ble_eq_true rfl) (Nat.le_of_ble_eq_true rfl) (Nat.le_of_ble_eq_true rfl) d_MD_permit_85 (fun v h hq => ?_) (fun _ _ z => nomatch z.1)
              obtain ⟨e1, hM⟩ := hq; cases e1
              refine wk_br C d_MD_permit_88 (P := 1 = 0) (tgt := 93) (rest := []) rfl (by decide) (fun c25 => ?_) (fun c25 => ?_)
              ·
                exact absurd c25 (by decide)
              ·
                refine wk_run C k_MD_permit_91 (pc2 := 92) (lv2 := [(5, .int (-1)), (4, .int 1), (0, .ref y), (1, .int p), (2, .int x), (3, .int a)]) (st2 := [.int 0]) rfl ?_
                exact wk_iret C ⟨1, 0, vc (V) 0 1, by clear C hM hnm; grind [sp_permit], rfl, hM⟩ (by decide) (by decide) d_MD_permit_92
            ·
              exact absurd (by decide) c24
end
section
/-- the chain of groups above g -/
def cn_ (V : vT) : Nat → Nat → Nat
  | 0, g => g
  | n + 1, g => if g = 0 then 0 else cn_ V n (nu (V 1 g))
theorem cn_0 (V : vT) (n : Nat) : cn_ V n 0 = 0 := by cases n with
  | zero => rfl
  | succ n => exact if_pos rfl
theorem cn_s {V : vT} {n g : Nat} (h : ¬ g = 0) : cn_ V (n + 1) g = cn_ V n (nu (V 1 g)) := if_neg h
/-- the chain of g meets x -/
def mv_ (V : vT) (x g : Nat) : Prop := ∃ n, cn_ V n g = x
theorem mv_0 {V : vT} {x : Nat} (h : 1 ≤ x) : ¬ mv_ V x 0 := fun ⟨n, hn⟩ => by rw [cn_0] at hn; omega
theorem mv_s {V : vT} {x g : Nat} (h : ¬ g = 0) (h2 : ¬ g = x) (hx : 1 ≤ x) : mv_ V x g ↔ mv_ V x (nu (V 1 g)) := by
  constructor
  · intro ⟨n, hn⟩
    cases n with
    | zero => exact absurd hn h2
    | succ n => exact ⟨n, by rw [cn_s h] at hn; exact hn⟩
  · intro ⟨n, hn⟩; exact ⟨n + 1, by rw [cn_s h]; exact hn⟩
noncomputable def sp_move (V : vT) (x g : Int32) : rT := if ¬ ((¬ x < 1 ∧ x ≤ V 7 0) ∧ (g = 0 ∨ ¬ g < 1 ∧ g ≤ V 7 0)) then (1, 0, vc V 0 1) else @ite _ (mv_ V (nu x) (nu g)) (Classical.propDecidable _) (0, 0, vc V 0 0) (0, 1, vs (vc V 0 0) 1 (upd (V 1) (nu x) g))
theorem sp_m1 {V : vT} {x g : Int32} (h1 : (¬ x < 1 ∧ x ≤ V 7 0) ∧ (g = 0 ∨ ¬ g < 1 ∧ g ≤ V 7 0)) (h2 : mv_ V (nu x) (nu g)) : sp_move V x g = (0, 0, vc V 0 0) := by unfold sp_move; rw [if_neg (fun z => z h1), if_pos h2]
theorem sp_m2 {V : vT} {x g : Int32} (h1 : (¬ x < 1 ∧ x ≤ V 7 0) ∧ (g = 0 ∨ ¬ g < 1 ∧ g ≤ V 7 0)) (h2 : ¬ mv_ V (nu x) (nu g)) : sp_move V x g = (0, 1, vs (vc V 0 0) 1 (upd (V 1) (nu x) g)) := by unfold sp_move; rw [if_neg (fun z => z h1), if_neg h2]
theorem ok_0g {V : vT} {g : Int32} (hG : ok_ (V 7 0) 20) (h : g = 0 ∨ ¬ g < 1 ∧ g ≤ V 7 0) : ok_ g 20 := by
  rcases h with rfl | h
  · exact ok_nI (m := 0) (by decide) (by decide)
  · exact ok_r h.1 h.2 hG (by decide)
theorem ok_1 {x : Int32} {n : Nat} (h : ok_ x n) (h1 : ¬ x < 1) (hn : n < 2 ^ 31) : 1 ≤ nu x := by
  rcases Nat.eq_zero_or_pos (nu x) with z | z
  · exact absurd (by rw [h.1, z]; decide) h1
  · exact z
theorem ok_z {x : Int32} {n : Nat} (h : ok_ x n) (h1 : ¬ x = 0) : ¬ nu x = 0 := fun z => h1 (by rw [h.1, z]; rfl)
theorem nu_e {x y : Int32} {m n : Nat} (h : ok_ x m) (h2 : ok_ y n) (e : ¬ x = y) : ¬ nu x = nu y := fun z => e (by rw [h.1, h2.1, z])

theorem k_MD_move_0 : px_dec prog_9_method_11_code [.aload_n 0, .aload_n 0, .iload_n 1] 0 = true := by decide +kernel
theorem d_MD_move_3 : decode prog_9_method_11_code 3 = .ok (.invokevirtual 84, 3) := by decide +kernel
theorem d_MD_move_6 : decode prog_9_method_11_code 6 = .ok (.ifCond .eq 15, 3) := by decide +kernel
theorem k_MD_move_21 : px_dec prog_9_method_11_code [.iconst 1] 21 = true := by decide +kernel
theorem d_MD_move_22 : decode prog_9_method_11_code 22 = .ok (.goto 4, 3) := by decide +kernel
theorem k_MD_move_26 : px_dec prog_9_method_11_code [.iconst 0] 26 = true := by decide +kernel
theorem d_MD_move_27 : decode prog_9_method_11_code 27 = .ok (.invokevirtual 88, 3) := by decide +kernel
theorem d_MD_move_30 : decode prog_9_method_11_code 30 = .ok (.ifCond .eq 5, 3) := by decide +kernel
theorem k_MD_move_33 : px_dec prog_9_method_11_code [.iconst 0] 33 = true := by decide +kernel
theorem d_MD_move_34 : decode prog_9_method_11_code 34 = .ok (.ireturn, 1) := by decide +kernel
theorem k_MD_move_9 : px_dec prog_9_method_11_code [.iload_n 2] 9 = true := by decide +kernel
theorem d_MD_move_10 : decode prog_9_method_11_code 10 = .ok (.ifCond .eq 15, 3) := by decide +kernel
theorem k_MD_move_25 : px_dec prog_9_method_11_code [.iconst 0, .iconst 0] 25 = true := by decide +kernel
theorem k_MD_move_35 : px_dec prog_9_method_11_code [.iload_n 2, .istore_n 3] 35 = true := by decide +kernel
theorem k_MD_move_37 : px_dec prog_9_method_11_code [.iload_n 3] 37 = true := by decide +kernel
theorem d_MD_move_38 : decode prog_9_method_11_code 38 = .ok (.ifCond .eq 18, 3) := by decide +kernel
theorem k_MD_move_56 : px_dec prog_9_method_11_code [.iload_n 3] 56 = true := by decide +kernel
theorem d_MD_move_57 : decode prog_9_method_11_code 57 = .ok (.ifCond .eq 5, 3) := by decide +kernel
theorem k_MD_move_62 : px_dec prog_9_method_11_code [.aload_n 0] 62 = true := by decide +kernel
theorem d_MD_move_63 : decode prog_9_method_11_code 63 = .ok (.getfield 7, 3) := by decide +kernel
theorem k_MD_move_66 : px_dec prog_9_method_11_code [.iload_n 1, .iload_n 2] 66 = true := by decide +kernel
theorem d_MD_move_68 : decode prog_9_method_11_code 68 = .ok (.iastore, 1) := by decide +kernel
theorem k_MD_move_69 : px_dec prog_9_method_11_code [.iconst 1] 69 = true := by decide +kernel
theorem d_MD_move_70 : decode prog_9_method_11_code 70 = .ok (.ireturn, 1) := by decide +kernel
theorem k_MD_move_41 : px_dec prog_9_method_11_code [.iload_n 3, .iload_n 1] 41 = true := by decide +kernel
theorem d_MD_move_43 : decode prog_9_method_11_code 43 = .ok (.if_icmp .eq 13, 3) := by decide +kernel
theorem k_MD_move_60 : px_dec prog_9_method_11_code [.iconst 0] 60 = true := by decide +kernel
theorem d_MD_move_61 : decode prog_9_method_11_code 61 = .ok (.ireturn, 1) := by decide +kernel
theorem k_MD_move_46 : px_dec prog_9_method_11_code [.aload_n 0] 46 = true := by decide +kernel
theorem d_MD_move_47 : decode prog_9_method_11_code 47 = .ok (.getfield 7, 3) := by decide +kernel
theorem k_MD_move_50 : px_dec prog_9_method_11_code [.iload_n 3] 50 = true := by decide +kernel
theorem d_MD_move_51 : decode prog_9_method_11_code 51 = .ok (.iaload, 1) := by decide +kernel
theorem k_MD_move_52 : px_dec prog_9_method_11_code [.istore_n 3] 52 = true := by decide +kernel
theorem d_MD_move_53 : decode prog_9_method_11_code 53 = .ok (.goto (-16), 3) := by decide +kernel
theorem k_MD_move_13 : px_dec prog_9_method_11_code [.aload_n 0, .iload_n 2] 13 = true := by decide +kernel
theorem d_MD_move_15 : decode prog_9_method_11_code 15 = .ok (.invokevirtual 84, 3) := by decide +kernel
theorem d_MD_move_18 : decode prog_9_method_11_code 18 = .ok (.ifCond .ne 7, 3) := by decide +kernel
set_option maxRecDepth 100000 in
set_option maxHeartbeats 4000000 in
theorem c_MD_move (l : Launch) (D : va_G) (HB : Heap) (h : hp_T) (h0 : hp_T) (y : Nat) (A : Nat → Nat) (V : vT) (x g : Int32) (hG : ok_ (V 7 0) 20) (hA : ∀ q, q ≤ 20 → ok_ (V 1 q) 20) (hC : ∃ n, cn_ V n (nu g) = 0) (hM : mq D h0 h y A V) : ct_M l y_MD_move (.code y_MD_move prog_9_method_11_code 4 (Option.some Jvm.ClassFile.FieldType.int)) ({ frames := 1, cells := 0, slots := 0, locals := 30 }) D HB [.ref y, .int x, .int g] h (fun o h2 => ∃ (cd r : Int32) (V2 : vT), sp_move V x g = (cd, r, V2) ∧ o = .inl (some (.int r)) ∧ mq D h0 h2 y A V2) := by
  refine ct_of (by decide) (Nat.le_of_ble_eq_true rfl) rfl ?_
  intro p_ e_ s_ m_ r_ b_ t_ c_ C hnm
  refine wk_run C k_MD_move_0 (pc2 := 3) (lv2 := [(0, .ref y), (1, .int x), (2, .int g)]) (st2 := [.int x, .ref y, .ref y]) rfl ?_
  refine wk_callV (cl := ("ProfileRightsModel", T_MD, 27)) (rest := [.ref y]) C (c_MD_isGroup l D HB h h0 y A (V) x hM) cs_MD_84 kc_MD_isGroup ki_MD hM.ob rfl rfl rfl (Nat.le_of_ble_eq_true rfl) (Nat.le_of_ble_eq_true rfl) (Nat.le_of_ble_eq_true rfl) (Nat.le_of_ble_eq_true rfl) (Nat.le_of_ble_eq_true rfl) d_MD_move_3 (fun v h2 hq => ?_) (fun _ _ z => nomatch z.1)
  obtain ⟨e1, e2⟩ := hq; cases e1; replace e2 := e2.symm; subst e2
  show Wk _ _ _ _ _ _ _ _ _ _ _ _ _ _ _ _ _ _ _ (.int (if ¬ x < 1 ∧ x ≤ V 7 0 then (1 : Int32) else 0) :: _)
  refine wk_br C d_MD_move_6 (P := (if ¬ x < 1 ∧ x ≤ V 7 0 then (1 : Int32) else 0) = 0) (tgt := 21) (rest := [.ref y]) rfl (by decide) (fun c1 => ?_) (fun c1 => ?_)
  ·
    replace c1 := bz_ c1
    refine wk_run C k_MD_move_21 (pc2 := 22) (lv2 := [(0, .ref y), (1, .int x), (2, .int g)]) (st2 := [.int 1, .ref y]) rfl ?_
    refine wk_goto C d_MD_move_22 (tgt := 26) (by decide) ?_
    refine wk_run C k_MD_move_26 (pc2 := 27) (lv2 := [(0, .ref y), (1, .int x), (2, .int g)]) (st2 := [.int 0, .int 1, .ref y]) rfl ?_
    refine wk_callV (cl := ("ProfileRightsModel", T_MD, 27)) (rest := []) C (c_MD_f1 l D HB h h0 y A (V) hM) cs_MD_88 kc_MD_fails ki_MD hM.ob rfl rfl rfl (Nat.le_of_ble_eq_true rfl) (Nat.le_of_ble_eq_true rfl) (Nat.le_of_ble_eq_true rfl) (Nat.le_of_ble_eq_true rfl) (Nat.le_of_ble_eq_true rfl) d_MD_move_27 (fun v h hq => ?_) (fun _ _ z => nomatch z.1)
    obtain ⟨e1, hM⟩ := hq; cases e1
    refine wk_br C d_MD_move_30 (P := 1 = 0) (tgt := 35) (rest := []) rfl (by decide) (fun c2 => ?_) (fun c2 => ?_)
    ·
      exact absurd c2 (by decide)
    ·
      refine wk_run C k_MD_move_33 (pc2 := 34) (lv2 := [(0, .ref y), (1, .int x), (2, .int g)]) (st2 := [.int 0]) rfl ?_
      exact wk_iret C ⟨1, 0, vc (V) 0 1, by clear C hM hnm; grind [sp_move], rfl, hM⟩ (by decide) (by decide) d_MD_move_34
  ·
    replace c1 := bn_ c1
    refine wk_run C k_MD_move_9 (pc2 := 10) (lv2 := [(0, .ref y), (1, .int x), (2, .int g)]) (st2 := [.int g, .ref y]) rfl ?_
    refine wk_br C d_MD_move_10 (P := g = 0) (tgt := 25) (rest := [.ref y]) rfl (by decide) (fun c3 => ?_) (fun c3 => ?_)
    ·
      refine wk_run C k_MD_move_25 (pc2 := 27) (lv2 := [(0, .ref y), (1, .int x), (2, .int g)]) (st2 := [.int 0, .int 0, .ref y]) rfl ?_
      refine wk_callV (cl := ("ProfileRightsModel", T_MD, 27)) (rest := []) C (c_MD_f0 l D HB h h0 y A (V) hM) cs_MD_88 kc_MD_fails ki_MD hM.ob rfl rfl rfl (Nat.le_of_ble_eq_true rfl) (Nat.le_of_ble_eq_true rfl) (Nat.le_of_ble_eq_true rfl) (Nat.le_of_ble_eq_true rfl) (Nat.le_of_ble_eq_true rfl) d_MD_move_27 (fun v h hq => ?_) (fun _ _ z => nomatch z.1)
      obtain ⟨e1, hM⟩ := hq; cases e1
      refine wk_br C d_MD_move_30 (P := 0 = 0) (tgt := 35) (rest := []) rfl (by decide) (fun c4 => ?_) (fun c4 => ?_)
      ·
        refine wk_run C k_MD_move_35 (pc2 := 37) (lv2 := [(3, .int g), (0, .ref y), (1, .int x), (2, .int g)]) (st2 := []) rfl ?_
        refine Wk.sub (lv2 := [(0, .ref y), (1, .int x), (2, .int g), (3, .int g)]) [1, 2, 3, 0] rfl ?_
        have hc : (¬ x < 1 ∧ x ≤ V 7 0) ∧ (g = 0 ∨ ¬ g < 1 ∧ g ≤ V 7 0) := by clear C hM; grind
        have hg : ok_ g 20 := ok_0g hG hc.2
        have hx : ok_ x 20 := ok_r hc.1.1 hc.1.2 hG (by decide)
        have hx1 := ok_1 hx hc.1.1 (by decide)
        obtain ⟨n, hn⟩ := id hC
        refine wk_ind (σ := Nat × Int32) (hF := fun _ => h) (lvF := fun b => [(0, .ref y), (1, .int x), (2, .int g), (3, .int b.2)]) (fun b => b.1) (fun b => ok_ b.2 20 ∧ cn_ V b.1 (nu b.2) = 0 ∧ (mv_ V (nu x) (nu b.2) ↔ mv_ V (nu x) (nu g))) (fun b hb ih => ?_) (n, g) ⟨hg, hn, Iff.rfl⟩
        obtain ⟨n, b⟩ := b
        obtain ⟨hb, hn, hm⟩ := hb
        replace hb : ok_ b 20 := hb
        replace hn : cn_ V n (nu b) = 0 := hn
        replace hm : mv_ V (nu x) (nu b) ↔ mv_ V (nu x) (nu g) := hm
        show Wk _ _ _ _ _ _ _ _ _ _ _ _ _ _ _ _ _ _ [(0, .ref y), (1, .int x), (2, .int g), (3, .int b)] _
        refine wk_run C k_MD_move_37 (pc2 := 38) (lv2 := [(0, .ref y), (1, .int x), (2, .int g), (3, .int b)]) (st2 := [.int b]) rfl ?_
        refine wk_br C d_MD_move_38 (P := b = 0) (tgt := 56) (rest := []) rfl (by decide) (fun c51 => ?_) (fun c51 => ?_)
        ·
          refine wk_run C k_MD_move_56 (pc2 := 57) (lv2 := [(0, .ref y), (1, .int x), (2, .int g), (3, .int b)]) (st2 := [.int b]) rfl ?_
          refine wk_br C d_MD_move_57 (P := b = 0) (tgt := 62) (rest := []) rfl (by decide) (fun c52 => ?_) (fun c52 => ?_)
          ·
            refine wk_run C k_MD_move_62 (pc2 := 63) (lv2 := [(0, .ref y), (1, .int x), (2, .int g), (3, .int b)]) (st2 := [.ref y]) rfl ?_
            refine wk_get (v := .ref (A 1)) C fd_MD_7 hM.ob rfl d_MD_move_63 ?_
            refine wk_run C k_MD_move_66 (pc2 := 68) (lv2 := [(0, .ref y), (1, .int x), (2, .int g), (3, .int b)]) (st2 := [.int g, .int x, .ref (A 1)]) rfl ?_
            refine wm_st C hM 1 (j := (nu x)) rfl (vi_k hx (by decide) (by decide)) rfl d_MD_move_68 (fun h (hM : mq D h0 h y A (vs (vc (V) 0 0) 1 (upd (V 1) (nu x) g))) => ?_)
            refine wk_run C k_MD_move_69 (pc2 := 70) (lv2 := [(0, .ref y), (1, .int x), (2, .int g), (3, .int b)]) (st2 := [.int 1]) rfl ?_
            exact wk_iret C ⟨0, 1, vs (vc (V) 0 0) 1 (upd (V 1) (nu x) g), sp_m2 hc (fun z => mv_0 hx1 (by have z2 := hm.mpr z; rw [c51] at z2; exact z2)), rfl, hM⟩ (by decide) (by decide) d_MD_move_70
          ·
            exact absurd c51 c52
        ·
          refine wk_run C k_MD_move_41 (pc2 := 43) (lv2 := [(0, .ref y), (1, .int x), (2, .int g), (3, .int b)]) (st2 := [.int x, .int b]) rfl ?_
          refine wk_br C d_MD_move_43 (P := b = x) (tgt := 56) (rest := []) rfl (by decide) (fun c53 => ?_) (fun c53 => ?_)
          ·
            refine wk_run C k_MD_move_56 (pc2 := 57) (lv2 := [(0, .ref y), (1, .int x), (2, .int g), (3, .int b)]) (st2 := [.int b]) rfl ?_
            refine wk_br C d_MD_move_57 (P := b = 0) (tgt := 62) (rest := []) rfl (by decide) (fun c54 => ?_) (fun c54 => ?_)
            ·
              exact absurd c54 c51
            ·
              refine wk_run C k_MD_move_60 (pc2 := 61) (lv2 := [(0, .ref y), (1, .int x), (2, .int g), (3, .int b)]) (st2 := [.int 0]) rfl ?_
              exact wk_iret C ⟨0, 0, vc (V) 0 0, sp_m1 hc (hm.mp ⟨0, by rw [c53]; rfl⟩), rfl, hM⟩ (by decide) (by decide) d_MD_move_61
          ·
            cases n with
            | zero => exact absurd hn (ok_z hb c51)
            | succ n =>
              refine wk_run C k_MD_move_46 (pc2 := 47) (lv2 := [(0, .ref y), (1, .int x), (2, .int g), (3, .int b)]) (st2 := [.ref y]) rfl ?_
              refine wk_get (v := .ref (A 1)) C fd_MD_7 hM.ob rfl d_MD_move_47 ?_
              refine wk_run C k_MD_move_50 (pc2 := 51) (lv2 := [(0, .ref y), (1, .int x), (2, .int g), (3, .int b)]) (st2 := [.int b, .ref (A 1)]) rfl ?_
              refine wm_ld C hM 1 (j := nu b) rfl (vi_k hb (by decide) (by decide)) rfl d_MD_move_51 ?_
              show Wk _ _ _ _ _ _ _ _ _ _ _ _ _ _ _ _ _ _ _ (.int (V 1 (nu b)) :: _)
              refine wk_run C k_MD_move_52 (pc2 := 53) (lv2 := [(3, .int (V 1 (nu b))), (0, .ref y), (1, .int x), (2, .int g)]) (st2 := []) rfl ?_
              refine wk_goto C d_MD_move_53 (tgt := 37) (by decide) ?_
              refine Wk.sub (lv2 := [(0, .ref y), (1, .int x), (2, .int g), (3, .int (V 1 (nu b)))]) [1, 2, 3, 0] rfl ?_
              exact ih (n, V 1 (nu b)) ⟨hA _ hb.2, by rw [cn_s (ok_z hb c51)] at hn; exact hn, (mv_s (ok_z hb c51) (nu_e hb hx c53) hx1).symm.trans hm⟩ (Nat.lt_succ_self n)
      ·
        exact absurd (by decide) c4
    ·
      refine wk_run C k_MD_move_13 (pc2 := 15) (lv2 := [(0, .ref y), (1, .int x), (2, .int g)]) (st2 := [.int g, .ref y, .ref y]) rfl ?_
      refine wk_callV (cl := ("ProfileRightsModel", T_MD, 27)) (rest := [.ref y]) C (c_MD_isGroup l D HB h h0 y A (V) g hM) cs_MD_84 kc_MD_isGroup ki_MD hM.ob rfl rfl rfl (Nat.le_of_ble_eq_true rfl) (Nat.le_of_ble_eq_true rfl) (Nat.le_of_ble_eq_true rfl) (Nat.le_of_ble_eq_true rfl) (Nat.le_of_ble_eq_true rfl) d_MD_move_15 (fun v h2 hq => ?_) (fun _ _ z => nomatch z.1)
      obtain ⟨e1, e2⟩ := hq; cases e1; replace e2 := e2.symm; subst e2
      show Wk _ _ _ _ _ _ _ _ _ _ _ _ _ _ _ _ _ _ _ (.int (if ¬ g < 1 ∧ g ≤ V 7 0 then (1 : Int32) else 0) :: _)
      refine wk_br C d_MD_move_18 (P := ¬ (if ¬ g < 1 ∧ g ≤ V 7 0 then (1 : Int32) else 0) = 0) (tgt := 25) (rest := [.ref y]) rfl (by decide) (fun c5 => ?_) (fun c5 => ?_)
      ·
        replace c5 := bn_ c5
        refine wk_run C k_MD_move_25 (pc2 := 27) (lv2 := [(0, .ref y), (1, .int x), (2, .int g)]) (st2 := [.int 0, .int 0, .ref y]) rfl ?_
        refine wk_callV (cl := ("ProfileRightsModel", T_MD, 27)) (rest := []) C (c_MD_f0 l D HB h h0 y A (V) hM) cs_MD_88 kc_MD_fails ki_MD hM.ob rfl rfl rfl (Nat.le_of_ble_eq_true rfl) (Nat.le_of_ble_eq_true rfl) (Nat.le_of_ble_eq_true rfl) (Nat.le_of_ble_eq_true rfl) (Nat.le_of_ble_eq_true rfl) d_MD_move_27 (fun v h hq => ?_) (fun _ _ z => nomatch z.1)
        obtain ⟨e1, hM⟩ := hq; cases e1
        refine wk_br C d_MD_move_30 (P := 0 = 0) (tgt := 35) (rest := []) rfl (by decide) (fun c6 => ?_) (fun c6 => ?_)
        ·
          refine wk_run C k_MD_move_35 (pc2 := 37) (lv2 := [(3, .int g), (0, .ref y), (1, .int x), (2, .int g)]) (st2 := []) rfl ?_
          refine Wk.sub (lv2 := [(0, .ref y), (1, .int x), (2, .int g), (3, .int g)]) [1, 2, 3, 0] rfl ?_
          have hc : (¬ x < 1 ∧ x ≤ V 7 0) ∧ (g = 0 ∨ ¬ g < 1 ∧ g ≤ V 7 0) := by clear C hM; grind
          have hg : ok_ g 20 := ok_0g hG hc.2
          have hx : ok_ x 20 := ok_r hc.1.1 hc.1.2 hG (by decide)
          have hx1 := ok_1 hx hc.1.1 (by decide)
          obtain ⟨n, hn⟩ := id hC
          refine wk_ind (σ := Nat × Int32) (hF := fun _ => h) (lvF := fun b => [(0, .ref y), (1, .int x), (2, .int g), (3, .int b.2)]) (fun b => b.1) (fun b => ok_ b.2 20 ∧ cn_ V b.1 (nu b.2) = 0 ∧ (mv_ V (nu x) (nu b.2) ↔ mv_ V (nu x) (nu g))) (fun b hb ih => ?_) (n, g) ⟨hg, hn, Iff.rfl⟩
          obtain ⟨n, b⟩ := b
          obtain ⟨hb, hn, hm⟩ := hb
          replace hb : ok_ b 20 := hb
          replace hn : cn_ V n (nu b) = 0 := hn
          replace hm : mv_ V (nu x) (nu b) ↔ mv_ V (nu x) (nu g) := hm
          show Wk _ _ _ _ _ _ _ _ _ _ _ _ _ _ _ _ _ _ [(0, .ref y), (1, .int x), (2, .int g), (3, .int b)] _
          refine wk_run C k_MD_move_37 (pc2 := 38) (lv2 := [(0, .ref y), (1, .int x), (2, .int g), (3, .int b)]) (st2 := [.int b]) rfl ?_
          refine wk_br C d_MD_move_38 (P := b = 0) (tgt := 56) (rest := []) rfl (by decide) (fun c51 => ?_) (fun c51 => ?_)
          ·
            refine wk_run C k_MD_move_56 (pc2 := 57) (lv2 := [(0, .ref y), (1, .int x), (2, .int g), (3, .int b)]) (st2 := [.int b]) rfl ?_
            refine wk_br C d_MD_move_57 (P := b = 0) (tgt := 62) (rest := []) rfl (by decide) (fun c52 => ?_) (fun c52 => ?_)
            ·
              refine wk_run C k_MD_move_62 (pc2 := 63) (lv2 := [(0, .ref y), (1, .int x), (2, .int g), (3, .int b)]) (st2 := [.ref y]) rfl ?_
              refine wk_get (v := .ref (A 1)) C fd_MD_7 hM.ob rfl d_MD_move_63 ?_
              refine wk_run C k_MD_move_66 (pc2 := 68) (lv2 := [(0, .ref y), (1, .int x), (2, .int g), (3, .int b)]) (st2 := [.int g, .int x, .ref (A 1)]) rfl ?_
              refine wm_st C hM 1 (j := (nu x)) rfl (vi_k hx (by decide) (by decide)) rfl d_MD_move_68 (fun h (hM : mq D h0 h y A (vs (vc (V) 0 0) 1 (upd (V 1) (nu x) g))) => ?_)
              refine wk_run C k_MD_move_69 (pc2 := 70) (lv2 := [(0, .ref y), (1, .int x), (2, .int g), (3, .int b)]) (st2 := [.int 1]) rfl ?_
              exact wk_iret C ⟨0, 1, vs (vc (V) 0 0) 1 (upd (V 1) (nu x) g), sp_m2 hc (fun z => mv_0 hx1 (by have z2 := hm.mpr z; rw [c51] at z2; exact z2)), rfl, hM⟩ (by decide) (by decide) d_MD_move_70
            ·
              exact absurd c51 c52
          ·
            refine wk_run C k_MD_move_41 (pc2 := 43) (lv2 := [(0, .ref y), (1, .int x), (2, .int g), (3, .int b)]) (st2 := [.int x, .int b]) rfl ?_
            refine wk_br C d_MD_move_43 (P := b = x) (tgt := 56) (rest := []) rfl (by decide) (fun c53 => ?_) (fun c53 => ?_)
            ·
              refine wk_run C k_MD_move_56 (pc2 := 57) (lv2 := [(0, .ref y), (1, .int x), (2, .int g), (3, .int b)]) (st2 := [.int b]) rfl ?_
              refine wk_br C d_MD_move_57 (P := b = 0) (tgt := 62) (rest := []) rfl (by decide) (fun c54 => ?_) (fun c54 => ?_)
              ·
                exact absurd c54 c51
              ·
                refine wk_run C k_MD_move_60 (pc2 := 61) (lv2 := [(0, .ref y), (1, .int x), (2, .int g), (3, .int b)]) (st2 := [.int 0]) rfl ?_
                exact wk_iret C ⟨0, 0, vc (V) 0 0, sp_m1 hc (hm.mp ⟨0, by rw [c53]; rfl⟩), rfl, hM⟩ (by decide) (by decide) d_MD_move_61
            ·
              cases n with
              | zero => exact absurd hn (ok_z hb c51)
              | succ n =>
                refine wk_run C k_MD_move_46 (pc2 := 47) (lv2 := [(0, .ref y), (1, .int x), (2, .int g), (3, .int b)]) (st2 := [.ref y]) rfl ?_
                refine wk_get (v := .ref (A 1)) C fd_MD_7 hM.ob rfl d_MD_move_47 ?_
                refine wk_run C k_MD_move_50 (pc2 := 51) (lv2 := [(0, .ref y), (1, .int x), (2, .int g), (3, .int b)]) (st2 := [.int b, .ref (A 1)]) rfl ?_
                refine wm_ld C hM 1 (j := nu b) rfl (vi_k hb (by decide) (by decide)) rfl d_MD_move_51 ?_
                show Wk _ _ _ _ _ _ _ _ _ _ _ _ _ _ _ _ _ _ _ (.int (V 1 (nu b)) :: _)
                refine wk_run C k_MD_move_52 (pc2 := 53) (lv2 := [(3, .int (V 1 (nu b))), (0, .ref y), (1, .int x), (2, .int g)]) (st2 := []) rfl ?_
                refine wk_goto C d_MD_move_53 (tgt := 37) (by decide) ?_
                refine Wk.sub (lv2 := [(0, .ref y), (1, .int x), (2, .int g), (3, .int (V 1 (nu b)))]) [1, 2, 3, 0] rfl ?_
                exact ih (n, V 1 (nu b)) ⟨hA _ hb.2, by rw [cn_s (ok_z hb c51)] at hn; exact hn, (mv_s (ok_z hb c51) (nu_e hb hx c53) hx1).symm.trans hm⟩ (Nat.lt_succ_self n)
        ·
          exact absurd (by decide) c6
      ·
        replace c5 := bz_ (Classical.not_not.mp c5)
        refine wk_run C k_MD_move_21 (pc2 := 22) (lv2 := [(0, .ref y), (1, .int x), (2, .int g)]) (st2 := [.int 1, .ref y]) rfl ?_
        refine wk_goto C d_MD_move_22 (tgt := 26) (by decide) ?_
        refine wk_run C k_MD_move_26 (pc2 := 27) (lv2 := [(0, .ref y), (1, .int x), (2, .int g)]) (st2 := [.int 0, .int 1, .ref y]) rfl ?_
        refine wk_callV (cl := ("ProfileRightsModel", T_MD, 27)) (rest := []) C (c_MD_f1 l D HB h h0 y A (V) hM) cs_MD_88 kc_MD_fails ki_MD hM.ob rfl rfl rfl (Nat.le_of_ble_eq_true rfl) (Nat.le_of_ble_eq_true rfl) (Nat.le_of_ble_eq_true rfl) (Nat.le_of_ble_eq_true rfl) (Nat.le_of_ble_eq_true rfl) d_MD_move_27 (fun v h hq => ?_) (fun _ _ z => nomatch z.1)
        obtain ⟨e1, hM⟩ := hq; cases e1
        refine wk_br C d_MD_move_30 (P := 1 = 0) (tgt := 35) (rest := []) rfl (by decide) (fun c7 => ?_) (fun c7 => ?_)
        ·
          exact absurd c7 (by decide)
        ·
          refine wk_run C k_MD_move_33 (pc2 := 34) (lv2 := [(0, .ref y), (1, .int x), (2, .int g)]) (st2 := [.int 0]) rfl ?_
          exact wk_iret C ⟨1, 0, vc (V) 0 1, by clear C hM hnm; grind [sp_move], rfl, hM⟩ (by decide) (by decide) d_MD_move_34
def cz_ (f : Nat → Int32) : Nat → Int32
  | 0 => 0
  | n + 1 => cz_ f n + (if f (n + 1) = 0 then 0 else 1)
theorem cz_s {f : Nat → Int32} {n : Nat} : cz_ f (n + 1) = cz_ f n + (if f (n + 1) = 0 then 0 else 1) := rfl
def ce_ (f : Nat → Int32) : Nat → Int32
  | 0 => 0
  | n + 1 => ce_ f n + f (n + 1)
def sp_count (V : vT) (x : Int32) : rT := (0, if x = 0 then V 7 0 else if x = 1 then V 8 0 else if x = 2 then V 9 0 else if x = 3 then V 25 0 else if x = 4 then cz_ (V 5) (nu (V 8 0)) else if x = 5 then ce_ (V 16) (nu (V 9 0)) else -1, vc V 0 0)
theorem nI_inj0 {x : Int32} (h1 : ¬ x.toInt < 0) (h2 : ¬ 5 < x.toInt) : x = 0 ∨ x = 1 ∨ x = 2 ∨ x = 3 ∨ x = 4 ∨ x = 5 := by
  have e : ∀ y : Int32, x.toInt = y.toInt → x = y := fun y h => Int32.toInt_inj.mp h
  have : x.toInt = 0 ∨ x.toInt = 1 ∨ x.toInt = 2 ∨ x.toInt = 3 ∨ x.toInt = 4 ∨ x.toInt = 5 := by omega
  rcases this with z | z | z | z | z | z
  · exact Or.inl (e 0 z)
  · exact Or.inr (Or.inl (e 1 z))
  · exact Or.inr (Or.inr (Or.inl (e 2 z)))
  · exact Or.inr (Or.inr (Or.inr (Or.inl (e 3 z))))
  · exact Or.inr (Or.inr (Or.inr (Or.inr (Or.inl (e 4 z)))))
  · exact Or.inr (Or.inr (Or.inr (Or.inr (Or.inr (e 5 z)))))

theorem k_MD_count_0 : px_dec prog_9_method_39_code [.aload_n 0, .iconst 0] 0 = true := by decide +kernel
theorem d_MD_count_2 : decode prog_9_method_39_code 2 = .ok (.putfield 71, 3) := by decide +kernel
theorem k_MD_count_5 : px_dec prog_9_method_39_code [.iconst 0, .istore_n 2, .iload_n 1] 5 = true := by decide +kernel
theorem d_MD_count_8 : decode prog_9_method_39_code 8 = .ok (.tableswitch 122 0 5 #[40, 45, 50, 55, 60, 95], 40) := by decide +kernel
theorem k_MD_count_130 : px_dec prog_9_method_39_code [.iconst (-1)] 130 = true := by decide +kernel
theorem d_MD_count_131 : decode prog_9_method_39_code 131 = .ok (.ireturn, 1) := by decide +kernel
theorem k_MD_count_48 : px_dec prog_9_method_39_code [.aload_n 0] 48 = true := by decide +kernel
theorem d_MD_count_49 : decode prog_9_method_39_code 49 = .ok (.getfield 75, 3) := by decide +kernel
theorem d_MD_count_52 : decode prog_9_method_39_code 52 = .ok (.ireturn, 1) := by decide +kernel
theorem k_MD_count_53 : px_dec prog_9_method_39_code [.aload_n 0] 53 = true := by decide +kernel
theorem d_MD_count_54 : decode prog_9_method_39_code 54 = .ok (.getfield 78, 3) := by decide +kernel
theorem d_MD_count_57 : decode prog_9_method_39_code 57 = .ok (.ireturn, 1) := by decide +kernel
theorem k_MD_count_58 : px_dec prog_9_method_39_code [.aload_n 0] 58 = true := by decide +kernel
theorem d_MD_count_59 : decode prog_9_method_39_code 59 = .ok (.getfield 81, 3) := by decide +kernel
theorem d_MD_count_62 : decode prog_9_method_39_code 62 = .ok (.ireturn, 1) := by decide +kernel
theorem k_MD_count_63 : px_dec prog_9_method_39_code [.aload_n 0] 63 = true := by decide +kernel
theorem d_MD_count_64 : decode prog_9_method_39_code 64 = .ok (.getfield 143, 3) := by decide +kernel
theorem d_MD_count_67 : decode prog_9_method_39_code 67 = .ok (.ireturn, 1) := by decide +kernel
theorem k_MD_count_68 : px_dec prog_9_method_39_code [.iconst 1, .istore_n 3] 68 = true := by decide +kernel
theorem k_MD_count_70 : px_dec prog_9_method_39_code [.iload_n 3, .aload_n 0] 70 = true := by decide +kernel
theorem d_MD_count_72 : decode prog_9_method_39_code 72 = .ok (.getfield 78, 3) := by decide +kernel
theorem d_MD_count_75 : decode prog_9_method_39_code 75 = .ok (.if_icmp .gt 26, 3) := by decide +kernel
theorem k_MD_count_101 : px_dec prog_9_method_39_code [.iload_n 2] 101 = true := by decide +kernel
theorem d_MD_count_102 : decode prog_9_method_39_code 102 = .ok (.ireturn, 1) := by decide +kernel
theorem k_MD_count_78 : px_dec prog_9_method_39_code [.iload_n 2, .aload_n 0] 78 = true := by decide +kernel
theorem d_MD_count_80 : decode prog_9_method_39_code 80 = .ok (.getfield 22, 3) := by decide +kernel
theorem k_MD_count_83 : px_dec prog_9_method_39_code [.iload_n 3] 83 = true := by decide +kernel
theorem d_MD_count_84 : decode prog_9_method_39_code 84 = .ok (.baload, 1) := by decide +kernel
theorem d_MD_count_85 : decode prog_9_method_39_code 85 = .ok (.ifCond .eq 7, 3) := by decide +kernel
theorem k_MD_count_92 : px_dec prog_9_method_39_code [.iconst 0, .iadd, .istore_n 2, .iinc 3 1] 92 = true := by decide +kernel
theorem d_MD_count_98 : decode prog_9_method_39_code 98 = .ok (.goto (-28), 3) := by decide +kernel
theorem k_MD_count_88 : px_dec prog_9_method_39_code [.iconst 1] 88 = true := by decide +kernel
theorem d_MD_count_89 : decode prog_9_method_39_code 89 = .ok (.goto 4, 3) := by decide +kernel
theorem k_MD_count_93 : px_dec prog_9_method_39_code [.iadd, .istore_n 2, .iinc 3 1] 93 = true := by decide +kernel
theorem k_MD_count_103 : px_dec prog_9_method_39_code [.iconst 1, .istore_n 3] 103 = true := by decide +kernel
theorem k_MD_count_105 : px_dec prog_9_method_39_code [.iload_n 3, .aload_n 0] 105 = true := by decide +kernel
theorem d_MD_count_107 : decode prog_9_method_39_code 107 = .ok (.getfield 81, 3) := by decide +kernel
theorem d_MD_count_110 : decode prog_9_method_39_code 110 = .ok (.if_icmp .gt 18, 3) := by decide +kernel
theorem k_MD_count_128 : px_dec prog_9_method_39_code [.iload_n 2] 128 = true := by decide +kernel
theorem d_MD_count_129 : decode prog_9_method_39_code 129 = .ok (.ireturn, 1) := by decide +kernel
theorem k_MD_count_113 : px_dec prog_9_method_39_code [.iload_n 2, .aload_n 0] 113 = true := by decide +kernel
theorem d_MD_count_115 : decode prog_9_method_39_code 115 = .ok (.getfield 47, 3) := by decide +kernel
theorem k_MD_count_118 : px_dec prog_9_method_39_code [.iload_n 3] 118 = true := by decide +kernel
theorem d_MD_count_119 : decode prog_9_method_39_code 119 = .ok (.iaload, 1) := by decide +kernel
theorem k_MD_count_120 : px_dec prog_9_method_39_code [.iadd, .istore_n 2, .iinc 3 1] 120 = true := by decide +kernel
theorem d_MD_count_125 : decode prog_9_method_39_code 125 = .ok (.goto (-20), 3) := by decide +kernel
set_option maxRecDepth 100000 in
set_option maxHeartbeats 4000000 in
theorem c_MD_count (l : Launch) (D : va_G) (HB : Heap) (h : hp_T) (h0 : hp_T) (y : Nat) (A : Nat → Nat) (V : vT) (x : Int32) (hU : ok_ (V 8 0) 40) (hP : ok_ (V 9 0) 60) (hM : mq D h0 h y A V) : ct_M l y_MD_count (.code y_MD_count prog_9_method_39_code 4 (Option.some Jvm.ClassFile.FieldType.int)) ({ frames := 1, cells := 0, slots := 0, locals := 30 }) D HB [.ref y, .int x] h (fun o h2 => ∃ (cd r : Int32) (V2 : vT), sp_count V x = (cd, r, V2) ∧ o = .inl (some (.int r)) ∧ mq D h0 h2 y A V2) := by
  refine ct_of (by decide) (Nat.le_of_ble_eq_true rfl) rfl ?_
  intro p_ e_ s_ m_ r_ b_ t_ c_ C hnm
  refine wk_run C k_MD_count_0 (pc2 := 2) (lv2 := [(0, .ref y), (1, .int x)]) (st2 := [.int 0, .ref y]) rfl ?_
  refine wm_put C hM 0 (by simp [sc_]) fd_MD_71 rfl d_MD_count_2 (fun h (hM : mq D h0 h y A (vc (V) 0 0)) => ?_)
  refine wk_run C k_MD_count_5 (pc2 := 8) (lv2 := [(2, .int 0), (0, .ref y), (1, .int x)]) (st2 := [.int x]) rfl ?_
  by_cases hx : x.toInt < 0 ∨ 5 < x.toInt
  ·
    refine wk_tabO C d_MD_count_8 hx (tgt := 130) (by decide) ?_
    have hne : ¬ x = 0 ∧ ¬ x = 1 ∧ ¬ x = 2 ∧ ¬ x = 3 ∧ ¬ x = 4 ∧ ¬ x = 5 := by refine ⟨?_, ?_, ?_, ?_, ?_, ?_⟩ <;> (intro z; subst z; exact absurd hx (by decide))
    refine wk_run C k_MD_count_130 (pc2 := 131) (lv2 := [(2, .int 0), (0, .ref y), (1, .int x)]) (st2 := [.int (-1)]) rfl ?_
    exact wk_iret C ⟨0, -1, vc (V) 0 0, by clear C hM hnm; grind [sp_count], rfl, hM⟩ (by decide) (by decide) d_MD_count_131
  ·
    rcases nI_inj0 (fun z => hx (Or.inl z)) (fun z => hx (Or.inr z)) with rfl | rfl | rfl | rfl | rfl | rfl
    ·
      refine wk_tabI C d_MD_count_8 (by decide) (by decide) (off := 40) rfl (tgt := 48) (by decide) ?_
      refine wk_run C k_MD_count_48 (pc2 := 49) (lv2 := [(2, .int 0), (0, .ref y), (1, .int 0)]) (st2 := [.ref y]) rfl ?_
      refine wk_get (v := .int (V 7 0)) C fd_MD_75 hM.ob rfl d_MD_count_49 ?_
      exact wk_iret C ⟨0, _, vc (V) 0 0, rfl, rfl, hM⟩ (by decide) (by decide) d_MD_count_52
    ·
      refine wk_tabI C d_MD_count_8 (by decide) (by decide) (off := 45) rfl (tgt := 53) (by decide) ?_
      refine wk_run C k_MD_count_53 (pc2 := 54) (lv2 := [(2, .int 0), (0, .ref y), (1, .int 1)]) (st2 := [.ref y]) rfl ?_
      refine wk_get (v := .int (V 8 0)) C fd_MD_78 hM.ob rfl d_MD_count_54 ?_
      exact wk_iret C ⟨0, _, vc (V) 0 0, rfl, rfl, hM⟩ (by decide) (by decide) d_MD_count_57
    ·
      refine wk_tabI C d_MD_count_8 (by decide) (by decide) (off := 50) rfl (tgt := 58) (by decide) ?_
      refine wk_run C k_MD_count_58 (pc2 := 59) (lv2 := [(2, .int 0), (0, .ref y), (1, .int 2)]) (st2 := [.ref y]) rfl ?_
      refine wk_get (v := .int (V 9 0)) C fd_MD_81 hM.ob rfl d_MD_count_59 ?_
      exact wk_iret C ⟨0, _, vc (V) 0 0, rfl, rfl, hM⟩ (by decide) (by decide) d_MD_count_62
    ·
      refine wk_tabI C d_MD_count_8 (by decide) (by decide) (off := 55) rfl (tgt := 63) (by decide) ?_
      refine wk_run C k_MD_count_63 (pc2 := 64) (lv2 := [(2, .int 0), (0, .ref y), (1, .int 3)]) (st2 := [.ref y]) rfl ?_
      refine wk_get (v := .int (V 25 0)) C fd_MD_143 hM.ob rfl d_MD_count_64 ?_
      exact wk_iret C ⟨0, _, vc (V) 0 0, rfl, rfl, hM⟩ (by decide) (by decide) d_MD_count_67
    ·
      refine wk_tabI C d_MD_count_8 (by decide) (by decide) (off := 60) rfl (tgt := 68) (by decide) ?_
      refine wk_run C k_MD_count_68 (pc2 := 70) (lv2 := [(3, .int 1), (2, .int 0), (0, .ref y), (1, .int 4)]) (st2 := []) rfl ?_
      refine Wk.sub (lv2 := [(0, .ref y), (2, .int 0), (3, .int 1)]) [2, 1, 0] rfl ?_
      have hn := hU.2
      refine wk_ind (σ := Nat) (hF := fun _ => h) (lvF := fun i => [(0, .ref y), (2, .int (cz_ (V 5) i)), (3, .int (nI (i + 1)))]) (fun i => nu (V 8 0) - i) (fun i => i ≤ nu (V 8 0)) (fun i hi ih => ?_) 0 (Nat.zero_le _)
      show Wk _ _ _ _ _ _ _ _ _ _ _ _ _ _ _ _ _ _ [(0, .ref y), (2, .int (cz_ (V 5) i)), (3, .int (nI (i + 1)))] _
      refine wk_run C k_MD_count_70 (pc2 := 72) (lv2 := [(0, .ref y), (2, .int (cz_ (V 5) i)), (3, .int (nI (i + 1)))]) (st2 := [.ref y, .int (nI (i + 1))]) rfl ?_
      refine wk_get (v := .int (V 8 0)) C fd_MD_78 hM.ob rfl d_MD_count_72 ?_
      refine wk_br C d_MD_count_75 (P := (V 8 0) < (nI (i + 1))) (tgt := 101) (rest := []) rfl (by decide) (fun c41 => ?_) (fun c41 => ?_)
      ·
        have hie : i = nu (V 8 0) := by have := c41; rw [hU.1, nI_ltI (by omega) (by omega)] at this; omega
        refine wk_run C k_MD_count_101 (pc2 := 102) (lv2 := [(0, .ref y), (2, .int (cz_ (V 5) i)), (3, .int (nI (i + 1)))]) (st2 := [.int (cz_ (V 5) i)]) rfl ?_
        rw [hie]
        exact wk_iret C ⟨0, _, vc (V) 0 0, rfl, rfl, hM⟩ (by decide) (by decide) d_MD_count_102
      ·
        have hlt : i < nu (V 8 0) := by rcases Nat.lt_or_ge i (nu (V 8 0)) with z | z; exact z; exact absurd (by rw [hU.1]; exact nI_lt (by omega) (by omega)) c41
        refine wk_run C k_MD_count_78 (pc2 := 80) (lv2 := [(0, .ref y), (2, .int (cz_ (V 5) i)), (3, .int (nI (i + 1)))]) (st2 := [.ref y, .int (cz_ (V 5) i)]) rfl ?_
        refine wk_get (v := .ref (A 5)) C fd_MD_22 hM.ob rfl d_MD_count_80 ?_
        refine wk_run C k_MD_count_83 (pc2 := 84) (lv2 := [(0, .ref y), (2, .int (cz_ (V 5) i)), (3, .int (nI (i + 1)))]) (st2 := [.int (nI (i + 1)), .ref (A 5), .int (cz_ (V 5) i)]) rfl ?_
        refine wm_ldz C hM 5 (j := i + 1) rfl (nI_in (c := i + 1) (by omega) (by decide)) (nu_nI (by omega)) d_MD_count_84 ?_
        show Wk _ _ _ _ _ _ _ _ _ _ _ _ _ _ _ _ _ _ _ (.int (V 5 (i + 1)) :: _)
        refine wk_br C d_MD_count_85 (P := (V 5 (i + 1)) = 0) (tgt := 92) (rest := [.int (cz_ (V 5) i)]) rfl (by decide) (fun c42 => ?_) (fun c42 => ?_)
        ·
          refine wk_run C k_MD_count_92 (pc2 := 98) (lv2 := [(3, .int ((nI (i + 1)) + 1)), (2, .int ((cz_ (V 5) i) + 0)), (0, .ref y)]) (st2 := []) rfl ?_
          refine wk_goto C d_MD_count_98 (tgt := 70) (by decide) ?_
          refine Wk.sub (lv2 := [(0, .ref y), (2, .int ((cz_ (V 5) i) + 0)), (3, .int ((nI (i + 1)) + 1))]) [2, 1, 0] rfl ?_
          rw [nI_1]
          exact (show cz_ (V 5) i + 0 = cz_ (V 5) (i + 1) by rw [cz_s, if_pos (by assumption)]) ▸ ih (i + 1) hlt (by omega)
        ·
          refine wk_run C k_MD_count_88 (pc2 := 89) (lv2 := [(0, .ref y), (2, .int (cz_ (V 5) i)), (3, .int (nI (i + 1)))]) (st2 := [.int 1, .int (cz_ (V 5) i)]) rfl ?_
          refine wk_goto C d_MD_count_89 (tgt := 93) (by decide) ?_
          refine wk_run C k_MD_count_93 (pc2 := 98) (lv2 := [(3, .int ((nI (i + 1)) + 1)), (2, .int ((cz_ (V 5) i) + 1)), (0, .ref y)]) (st2 := []) rfl ?_
          refine wk_goto C d_MD_count_98 (tgt := 70) (by decide) ?_
          refine Wk.sub (lv2 := [(0, .ref y), (2, .int ((cz_ (V 5) i) + 1)), (3, .int ((nI (i + 1)) + 1))]) [2, 1, 0] rfl ?_
          rw [nI_1]
          exact (show cz_ (V 5) i + 1 = cz_ (V 5) (i + 1) by rw [cz_s, if_neg (by assumption)]) ▸ ih (i + 1) hlt (by omega)
    ·
      refine wk_tabI C d_MD_count_8 (by decide) (by decide) (off := 95) rfl (tgt := 103) (by decide) ?_
      refine wk_run C k_MD_count_103 (pc2 := 105) (lv2 := [(3, .int 1), (2, .int 0), (0, .ref y), (1, .int 5)]) (st2 := []) rfl ?_
      refine Wk.sub (lv2 := [(0, .ref y), (2, .int 0), (3, .int 1)]) [2, 1, 0] rfl ?_
      have hn := hP.2
      refine wk_ind (σ := Nat) (hF := fun _ => h) (lvF := fun i => [(0, .ref y), (2, .int (ce_ (V 16) i)), (3, .int (nI (i + 1)))]) (fun i => nu (V 9 0) - i) (fun i => i ≤ nu (V 9 0)) (fun i hi ih => ?_) 0 (Nat.zero_le _)
      show Wk _ _ _ _ _ _ _ _ _ _ _ _ _ _ _ _ _ _ [(0, .ref y), (2, .int (ce_ (V 16) i)), (3, .int (nI (i + 1)))] _
      refine wk_run C k_MD_count_105 (pc2 := 107) (lv2 := [(0, .ref y), (2, .int (ce_ (V 16) i)), (3, .int (nI (i + 1)))]) (st2 := [.ref y, .int (nI (i + 1))]) rfl ?_
      refine wk_get (v := .int (V 9 0)) C fd_MD_81 hM.ob rfl d_MD_count_107 ?_
      refine wk_br C d_MD_count_110 (P := (V 9 0) < (nI (i + 1))) (tgt := 128) (rest := []) rfl (by decide) (fun c51 => ?_) (fun c51 => ?_)
      ·
        have hie : i = nu (V 9 0) := by have := c51; rw [hP.1, nI_ltI (by omega) (by omega)] at this; omega
        refine wk_run C k_MD_count_128 (pc2 := 129) (lv2 := [(0, .ref y), (2, .int (ce_ (V 16) i)), (3, .int (nI (i + 1)))]) (st2 := [.int (ce_ (V 16) i)]) rfl ?_
        rw [hie]
        exact wk_iret C ⟨0, _, vc (V) 0 0, rfl, rfl, hM⟩ (by decide) (by decide) d_MD_count_129
      ·
        have hlt : i < nu (V 9 0) := by rcases Nat.lt_or_ge i (nu (V 9 0)) with z | z; exact z; exact absurd (by rw [hP.1]; exact nI_lt (by omega) (by omega)) c51
        refine wk_run C k_MD_count_113 (pc2 := 115) (lv2 := [(0, .ref y), (2, .int (ce_ (V 16) i)), (3, .int (nI (i + 1)))]) (st2 := [.ref y, .int (ce_ (V 16) i)]) rfl ?_
        refine wk_get (v := .ref (A 16)) C fd_MD_47 hM.ob rfl d_MD_count_115 ?_
        refine wk_run C k_MD_count_118 (pc2 := 119) (lv2 := [(0, .ref y), (2, .int (ce_ (V 16) i)), (3, .int (nI (i + 1)))]) (st2 := [.int (nI (i + 1)), .ref (A 16), .int (ce_ (V 16) i)]) rfl ?_
        refine wm_ld C hM 16 (j := i + 1) rfl (nI_in (c := i + 1) (by omega) (by decide)) (nu_nI (by omega)) d_MD_count_119 ?_
        show Wk _ _ _ _ _ _ _ _ _ _ _ _ _ _ _ _ _ _ _ (.int (V 16 (i + 1)) :: _)
        refine wk_run C k_MD_count_120 (pc2 := 125) (lv2 := [(3, .int ((nI (i + 1)) + 1)), (2, .int ((ce_ (V 16) i) + (V 16 (i + 1)))), (0, .ref y)]) (st2 := []) rfl ?_
        refine wk_goto C d_MD_count_125 (tgt := 105) (by decide) ?_
        refine Wk.sub (lv2 := [(0, .ref y), (2, .int ((ce_ (V 16) i) + (V 16 (i + 1)))), (3, .int ((nI (i + 1)) + 1))]) [2, 1, 0] rfl ?_
        rw [nI_1]
        exact ih (i + 1) hlt (by omega)
end
