section WH
variable {p : Program} {l : Launch} {e : Env} {R : Room} {s : State} {m : MethodId} {args : Array Value} {below : List Frame} {meth : Method} {c : Code} {Q : State → Prop}
variable {cc : ByteArray} {own : String} {nL : Nat} {ret : Option FieldType} {hh : List (Nat × Nat × Nat × Nat)} {D : va_G} {HB : Heap}
variable {h : hp_T} {cells slots pc : Nat} {lv : List (Nat × Value)} {st rest : List Value} {post : ct_O → hp_T → Prop} {mc ms : Nat}
theorem tb_map : ∀ q : List (Nat × Nat × Nat × Nat), (tableOf q).map (fun x => (x.startPc, x.endPc, x.handlerPc, x.catchType)) = q
  | [] => rfl
  | q :: t => by
    show q :: (tableOf t).map (fun x => (x.startPc, x.endPc, x.handlerPc, x.catchType)) = q :: t
    rw [tb_map t]
/-- the contract of a method with handlers out of the walk of its body -/
theorem ct_ofW {y : MethodName} {rm : Room} {av : List Value} (hy : plainName y.cls = true) (hlen : (lg_sl av).length ≤ nL) {lv : List (Nat × Value)} (elv : lv_args 0 av = lv)
    (body : ∀ (p : Program) (e : Env) (s : State) (m : MethodId) (args : Array Value) (below : List Frame) (meth : Method) (c : Code), wk_C p s m args meth c cc y.cls nL ret hh D HB → meth.name = y.name → Wk p l e rm s m args below meth c nL D HB (ct_Q below D HB post s rm.cells rm.slots) h 0 0 0 lv []) : ct_M l y (.codeWith y cc nL ret hh) rm D HB av h post := by
  refine MetFree.of_bodyS (code := cc) (maxLocals := nL) (ret := ret) hy ?_ ?_
  · intro args s m hpre hn
    obtain ⟨m9, meth, c, hn9, h1, h2, h3, h4, -, h5, h6, -⟩ := Cond.codeWith_spec (atoms_spec (ws := .codeWith y cc nL ret hh :: kw_L) hpre _ List.mem_cons_self)
    cases hn.symm.trans hn9
    exact ⟨meth, c, h1, h2, h3, h4, h5, h6⟩
  · intro p e s m args below meth c s₁ B hml hP _
    obtain ⟨rfl, hPh, hS, hK, hE⟩ := hP
    have hts := atoms_spec (ws := .codeWith y cc nL ret hh :: kw_L) B.pre
    have hh0 : s₁.heap = s.heap := by rw [B.state]; rfl
    have htb : c.exceptionTable.toList = tableOf hh := vx_table (x := y) B (hts _ List.mem_cons_self)
    have htab : c.exceptionTable.toList.map (fun x => (x.startPc, x.endPc, x.handlerPc, x.catchType)) = hh := by rw [htb]; exact tb_map hh
    have C : wk_C p s m av.toArray meth c cc y.cls nL ret hh D HB := ⟨B.exec, B.bytes, hml, findClass_of_methodNamed B.named, fun w hw => hts w (List.mem_cons_of_mem _ hw), B.returns, B.notSynchronized, hK, htab, hS, hE⟩
    have hl := lv_entry av (n := nL) hlen
    rw [elv] at hl
    have K := body p e s m av.toArray below meth c C (name_of_methodNamed B.named B.method).1 s.heap [] _ hPh hS hl
    rw [← lg_entry_eq (m := m)] at K
    obtain ⟨t, a1, o, b1, b2, b3, L, b4, b5, b6⟩ := K s₁ hh0 (Stand.of_body B)
    exact ⟨t, o, a1, b1, b2, b3, L, b4, b5, b6⟩
theorem ct_codeLW {y : MethodName} {b : ByteArray} {n : Nat} {r : Option FieldType} {h2 : List (Nat × Nat × Nat × Nat)} (a' : Array Value) (U : State) (mk : MethodId) (hw : (Cond.codeWith y b n r h2).before a' U = true) (hn : U.methodNamed? y = some mk) : ∃ methY cY, U.vm.method? mk = some methY ∧ methY.code = some cY ∧ cY.maxLocals = n := by
  obtain ⟨m9, methY, cY, hn9, hmY, hcY, -, hlY, -⟩ := Cond.codeWith_spec hw
  cases hn.symm.trans hn9
  exact ⟨methY, cY, hmY, hcY, hlY⟩
/-- invokestatic of a method with handlers -/
theorem wk_callSW (C : wk_C p s m args meth c cc own nL ret hh D HB) {y : MethodName} {by2 : ByteArray} {maxL : Nat} {rt : Option FieldType} {hx : List (Nat × Nat × Nat × Nat)} {rm : Room} {As : List Value} {pst : ct_O → hp_T → Prop} (M : ct_M l y (.codeWith y by2 maxL rt hx) rm D HB As h pst)
    {index n : Nat} (Y : cs_S own index y n) (hcd : Cond.codeWith y by2 maxL rt hx ∈ kw_L) (hini : Cond.initialized y.cls ∈ kw_L) (hAs : As.length = n) {st : List Value} (hst : st = As.reverse ++ rest) (hWt : (rest.map fun v => v.category).sum ≤ 8)
    (hfr : rm.frames + 1 ≤ R.frames) (hlo : 8 + (maxL + 11) + rm.locals ≤ R.locals) (hc : cells + rm.cells ≤ R.cells) (hs : slots + rm.slots ≤ R.slots) (hd : decode cc pc = .ok (.invokestatic index, 3))
    (kr : ∀ (v : Option Value) (h2 : hp_T), pst (.inl v) h2 → Wk p l e R s m args below meth c nL D HB Q h2 (cells + rm.cells) (slots + rm.slots) (pc + 3) lv (v.toList ++ rest))
    (kx : ∀ (E : String) (h2 : hp_T), pst (.inr E) h2 → Wx p l e R s m args below meth c nL D HB Q h2 (cells + rm.cells) (slots + rm.slots) pc lv E) : Wk p l e R s m args below meth c nL D HB Q h cells slots pc lv st := by
  intro H locs ls hP hS hl T hT X
  obtain ⟨hlink, hstat, hy, hnp⟩ := Y
  obtain ⟨mk, methM, cM, hnamed, hmethM, -, -, -, -, -, -, hsigM⟩ := Cond.codeWith_spec (C.hts _ hcd)
  have hstatic : methM.isStatic = true := Cond.static_spec hnamed hmethM (C.hts _ hstat)
  obtain ⟨kP, hkP, -⟩ := className_of_methodNamed hnamed
  have hinitP : kP.init = .initialized := Cond.initialized_spec (findClass_of_methodNamed hnamed) hkP (C.hts _ hini)
  subst hst
  subst hT
  have hbd : decode c.code pc = .ok (.invokestatic index, 3) := by rw [C.2.1]; exact hd
  obtain ⟨vm₁, X₁, hstep₁⟩ := X.invokestatic C.1 C.ow (C.hts _ hlink) hnamed hmethM hstatic hkP hinitP hy (g := F0 m pc ls (As.reverse ++ rest)) rfl (argsL := As) (rest := rest) (hAs.trans (cs_len hnp _ hsigM)) rfl hbd
  rcases ct_call C X₁ M hcd ct_codeLW hini (g := F0 m pc ls rest) rfl hl.1 hbd (lv_room hWt) (X₁.named hnamed) hfr hlo hc hs hP hS with ⟨v, h2, T2, locs2, hpo, hP2, hS2, X2, hst2⟩ | ⟨x, E, ce, h2, T2, locs2, hpo, hx1, hx2, hx3, hP2, hS2, X2, hst2⟩
  · obtain ⟨t, a1, b1⟩ := kr v h2 hpo T2.heap locs2 ls hP2 hS2 hl T2 rfl X2
    exact ⟨t, hstep₁ _ fun acts => by rw [doInvoke_state]; exact hst2.trans a1, b1⟩
  · obtain ⟨t, a1, b1⟩ := kx E h2 hpo x ce T2 locs2 ls rest hx1 hx2 hx3 hP2 hS2 hl X2
    exact ⟨t, hstep₁ _ fun acts => by rw [doInvoke_state]; exact hst2.trans a1, b1⟩
/-- an element of an array of ints that lies in the base -/
theorem wk_tld (C : wk_C p s m args meth c cc own nL ret hh D HB) {t N : Nat} {f : Nat → Value} (hZ : va_T .int t N f (hp_A HB) s HB) {i : Int32} (hi : vp_in i N) {v : Value} (hv : f i.toNatClampNeg = v) (hd : decode cc pc = .ok (.iaload, 1))
    (kk : Wk p l e R s m args below meth c nL D HB Q h cells slots (pc + 1) lv (v :: rest)) : Wk p l e R s m args below meth c nL D HB Q h cells slots pc lv (.int i :: .ref t :: rest) := by
  intro H locs ls hP hS hl T hT X
  exact va_ti C.1 C.2.1 (hZ.kept (fun a h1 h2 => C.base.2.1 a h1 h2)) (wk_seen C X hT hS) hi hv hd (kk H locs ls hP hS hl) T hT X
/-- a loop whose room grows -/
theorem wk_indC {σ : Type} {hF : σ → hp_T} {lvF : σ → List (Nat × Value)} {cF sF : σ → Nat} (μ : σ → Nat) (P : σ → Prop)
    (step : ∀ a, P a → (∀ b, P b → μ b < μ a → Wk p l e R s m args below meth c nL D HB Q (hF b) (cF b) (sF b) pc (lvF b) st) → Wk p l e R s m args below meth c nL D HB Q (hF a) (cF a) (sF a) pc (lvF a) st) : ∀ a, P a → Wk p l e R s m args below meth c nL D HB Q (hF a) (cF a) (sF a) pc (lvF a) st := by
  have key : ∀ (k : Nat) (a : σ), μ a < k → P a → Wk p l e R s m args below meth c nL D HB Q (hF a) (cF a) (sF a) pc (lvF a) st := by
    intro k
    induction k with
    | zero => intro a ha; omega
    | succ k ih => intro a ha hp; exact step a hp (fun b hb hlt => ih b (by omega) hb)
  exact fun a ha => key (μ a + 1) a (by omega) ha
end WH
/-! what a call of the class leaves, seen by the law -/
theorem cr_m {D : va_G} {h h2 : hp_T} {own own2 : oT} {x : Nat} {V : vT} (k : cr D h own x V) (s : st_ [0] h own h2 own2) : cr D h2 own2 x V := by
  obtain ⟨gl, ul, pl, mo, aq, tr, gA, uA, pA, pn, pe, eB, sf, hO, hGL, hUL, hPL, hM, hN, hT, hG, hU, hB, hP⟩ := k
  exact ⟨gl, ul, pl, mo, aq, tr, gA, uA, pA, pn, pe, eB, sf, cO_m hO s (by decide), cL_m hGL s (by decide) (by decide), cL_m hUL s (by decide) (by decide), cL_m hPL s (by decide) (by decide), cM_m hM s (by decide), cN_m hN s (by decide) (by decide), cT_m hT s (by decide) (by decide), cG_m hG s (by decide), cU_m hU s (by decide), hB, cP_m hP s (by decide) (by decide) (by decide) (by decide) (by decide) (by decide)⟩
def oL (D : va_G) (f : Nat → Int64) : va_E := .inl (D.1 101, 1, .inr (.inl f))
def wq (D : va_G) (h : hp_T) (own : oT) (x ou : Nat) (r : rT) (o : ct_O) (h2 : hp_T) : Prop := ∃ (own2 : oT) (f2 : Nat → Int64), o = .inl (some (.int r.1)) ∧ cr D h2 own2 x r.2.2 ∧ (∀ q z, q ≠ ou → h q = some z → (own q).1 = 0 → h2 q = some z ∧ own2 q = own q) ∧ own2 ou = own ou ∧ h2 ou = some (oL D f2) ∧ (r.1 = 0 → f2 0 = r.2.1.toInt64)
theorem an_ou {D : va_G} {h h2 : hp_T} {own : oT} {x ou : Nat} {r : rT} {o : ct_O} {f : Nat → Int64} (k : an2 D h own x r o h2) (hou : h ou = some (oL D f)) (oo : (own ou).1 = 0) : h2 ou = some (oL D f) := by
  obtain ⟨own2, -, -, s⟩ := k
  exact (s ou _ hou oo).1
theorem wq_1 {D : va_G} {h h2 : hp_T} {own : oT} {x ou : Nat} {r : rT} {f : Nat → Int64} (k : an2 D h own x r (.inr eA) h2) (hou : h ou = some (oL D f)) (oo : (own ou).1 = 0) : wq D h own x ou r (.inl (some (.int 1))) h2 := by
  obtain ⟨own2, hp, hc, s⟩ := k
  rcases hp with ⟨-, z⟩ | ⟨z, -⟩ | ⟨-, z⟩
  · cases z
  · exact ⟨own2, f, by rw [z], hc, fun q z _ hz ho => s q z hz ho, (s ou _ hou oo).2, (s ou _ hou oo).1, fun y => by rw [z] at y; exact absurd y (by decide)⟩
  · exact absurd (Sum.inr.inj z) (by decide)
theorem wq_2 {D : va_G} {h h2 : hp_T} {own : oT} {x ou : Nat} {r : rT} {f : Nat → Int64} (k : an2 D h own x r (.inr eS) h2) (hou : h ou = some (oL D f)) (oo : (own ou).1 = 0) : wq D h own x ou r (.inl (some (.int 2))) h2 := by
  obtain ⟨own2, hp, hc, s⟩ := k
  rcases hp with ⟨-, z⟩ | ⟨-, z⟩ | ⟨z, -⟩
  · cases z
  · exact absurd (Sum.inr.inj z) (by decide)
  · exact ⟨own2, f, by rw [z], hc, fun q z _ hz ho => s q z hz ho, (s ou _ hou oo).2, (s ou _ hou oo).1, fun y => by rw [z] at y; exact absurd y (by decide)⟩
theorem wq_0 {D : va_G} {h h2 : hp_T} {own : oT} {x ou : Nat} {r : rT} {f : Nat → Int64} {z : Int32} (k : an2 D h own x r (.inl (some (.int z))) h2) (hou : h ou = some (oL D f)) (oo : (own ou).1 = 0) (g : Nat → Int64) (hg : g 0 = z.toInt64) : wq D h own x ou r (.inl (some (.int 0))) (hp_up h2 ou (oL D g)) := by
  obtain ⟨own2, hp, hc, s⟩ := k
  rcases hp with ⟨z1, z2⟩ | ⟨-, z2⟩ | ⟨-, z2⟩
  · have e : z = r.2.1 := by injection z2 with z3; injection z3 with z4; injection z4
    have o2 := (s ou _ hou oo).2
    refine ⟨own2, g, by rw [z1], cr_m hc (st_u (t := 0) (by rw [o2]; exact oo) (by decide)), fun q w hq hw ho => ⟨by rw [hp_un hq]; exact (s q w hw ho).1, (s q w hw ho).2⟩, o2, hp_us, fun _ => by rw [hg, e]⟩
  · cases z2
  · cases z2
/-- a call that the law makes itself -/
theorem wq_d {D : va_G} {h h2 : hp_T} {own : oT} {x ou : Nat} {r : rT} {f : Nat → Int64} {o : ct_O} (k : an2 D h own x r o h2) (hr : r.1 = 0) (hou : h ou = some (oL D f)) (oo : (own ou).1 = 0) : o = .inl (some (.int r.2.1)) ∧ ∃ own2, cr D h2 own2 x r.2.2 ∧ (∀ q z, q ≠ ou → h q = some z → (own q).1 = 0 → h2 q = some z ∧ own2 q = own q) ∧ own2 ou = own ou ∧ h2 ou = some (oL D f) := by
  obtain ⟨own2, hp, hc, s⟩ := k
  rcases hp with ⟨z1, z2⟩ | ⟨z, -⟩ | ⟨z, -⟩
  · exact ⟨z2, own2, hc, fun q z _ hz ho => s q z hz ho, (s ou _ hou oo).2, (s ou _ hou oo).1⟩
  · rw [hr] at z; exact absurd z (by decide)
  · rw [hr] at z; exact absurd z (by decide)
/-- between two turns of the law -/
def iv (D : va_G) (x y ou : Nat) (A : Nat → Nat) (n : Nat) (V : vT) (own : oT) (h : hp_T) : Prop := mq D h h y A V ∧ cr D h own x V ∧ wf V ∧ ok_ (V 25 0) n ∧ (own y).1 = 0 ∧ (∀ k, ml_ k ≠ none → (own (A k)).1 = 0) ∧ (own ou).1 = 0 ∧ ∃ f, h ou = some (oL D f)
theorem mq_ou {D : va_G} {h0 h : hp_T} {y ou : Nat} {A : Nat → Nat} {V : vT} {f : Nat → Int64} (M : mq D h0 h y A V) (hou : h ou = some (oL D f)) : y ≠ ou ∧ ∀ k, ml_ k ≠ none → A k ≠ ou := by
  refine ⟨fun z => ?_, fun k hk z => ?_⟩
  · have := M.ob
    rw [z, hou] at this
    cases this
  · cases e : ml_ k with
    | none => exact hk e
    | some tn =>
      have h1 := M.ar k tn.1 tn.2 e
      rw [z, hou] at h1
      have h2 := congrArg (fun z => z.2.2) (Sum.inl.inj (Option.some.inj h1))
      cases h2
/-- the reference, behind a call of the class -/
theorem iv_c {D : va_G} {x y ou n : Nat} {A : Nat → Nat} {V : vT} {own own2 : oT} {h h2 : hp_T} (I : iv D x y ou A n V own h) (s : ∀ q z, q ≠ ou → h q = some z → (own q).1 = 0 → h2 q = some z ∧ own2 q = own q) : mq D h2 h2 y A V ∧ (own2 y).1 = 0 ∧ ∀ k, ml_ k ≠ none → (own2 (A k)).1 = 0 := by
  obtain ⟨M, -, -, -, oy, oA, -, f, hou⟩ := I
  obtain ⟨n1, n2⟩ := mq_ou M hou
  refine ⟨⟨(s y _ n1 M.ob oy).1, fun k t m hk => (s _ _ (n2 k (by rw [hk]; exact fun z => nomatch z)) (M.ar k t m hk) (oA k (by rw [hk]; exact fun z => nomatch z))).1, M.ij, fun _ _ _ _ hz => hz⟩, by rw [(s y _ n1 M.ob oy).2]; exact oy, fun k hk => ?_⟩
  cases e : ml_ k with
  | none => exact absurd e hk
  | some tn => rw [(s _ _ (n2 k hk) (M.ar k tn.1 tn.2 e) (oA k hk)).2]; exact oA k hk
/-- behind a call of the reference -/
theorem iv_m {D : va_G} {x y ou n : Nat} {A : Nat → Nat} {V1 V2 : vT} {own2 : oT} {h2 h4 : hp_T} {f : Nat → Int64} (hc : cr D h2 own2 x V1) (M : mq D h2 h4 y A V2) (oy : (own2 y).1 = 0) (oA : ∀ k, ml_ k ≠ none → (own2 (A k)).1 = 0) (oo : (own2 ou).1 = 0) (hou : h2 ou = some (oL D f)) (no : y ≠ ou ∧ ∀ k, ml_ k ≠ none → A k ≠ ou) (hW : wf V2) (hn : ok_ (V2 25 0) n) (e : ∀ j, j ≠ 0 → j ≠ 26 → V2 j = V1 j) : iv D x y ou A n V2 own2 h4 ∧ h4 ou = some (oL D f) := by
  have s : st_ [0] h2 own2 h4 own2 := fun q z hz hq => ⟨M.fr q z (fun y' => hq (by rw [y', oy]; decide)) (fun k hk y' => hq (by rw [y', oA k hk]; decide)) hz, rfl⟩
  have ho := M.fr ou _ (fun z => no.1 z.symm) (fun k hk z => no.2 k hk z.symm) hou
  exact ⟨⟨⟨M.ob, M.ar, M.ij, fun _ _ _ _ hz => hz⟩, cr_e (cr_m hc s) e, hW, hn, oy, oA, oo, f, ho⟩, ho⟩
theorem nI_a (a b : Nat) : nI a + nI b = nI (a + b) := by unfold nI; rw [Int32.ofNat_add]
theorem l6_ {L j : Nat} (hL : L ≤ 3072) (hj : j ≤ L) : nI L - 6 < nI j ↔ L < j + 6 := by
  have e6 : (6 : Int32).toInt = 6 := by decide
  have e : (nI L - 6).toInt = (L : Int) - 6 := by
    rw [Int32.toInt_sub, nI_toInt (by omega), e6]
    exact Int.bmod_eq_of_le (by omega) (by omega)
  rw [Int32.lt_iff_toInt_lt, e, nI_toInt (by omega)]
  omega
theorem sw_ {x : Int32} (h1 : ¬ x.toInt < 0) (h2 : ¬ 19 < x.toInt) : x = nI 0 ∨ x = nI 1 ∨ x = nI 2 ∨ x = nI 3 ∨ x = nI 4 ∨ x = nI 5 ∨ x = nI 6 ∨ x = nI 7 ∨ x = nI 8 ∨ x = nI 9 ∨ x = nI 10 ∨ x = nI 11 ∨ x = nI 12 ∨ x = nI 13 ∨ x = nI 14 ∨ x = nI 15 ∨ x = nI 16 ∨ x = nI 17 ∨ x = nI 18 ∨ x = nI 19 := by
  obtain ⟨k, hk, rfl⟩ : ∃ k, k < 20 ∧ x = nI k := ⟨x.toInt.toNat, by omega, Int32.toInt_inj.mp (by rw [nI_toInt (by omega)]; omega)⟩
  have : k = 0 ∨ k = 1 ∨ k = 2 ∨ k = 3 ∨ k = 4 ∨ k = 5 ∨ k = 6 ∨ k = 7 ∨ k = 8 ∨ k = 9 ∨ k = 10 ∨ k = 11 ∨ k = 12 ∨ k = 13 ∨ k = 14 ∨ k = 15 ∨ k = 16 ∨ k = 17 ∨ k = 18 ∨ k = 19 := by omega
  clear h1 h2 hk
  rcases this with rfl | rfl | rfl | rfl | rfl | rfl | rfl | rfl | rfl | rfl | rfl | rfl | rfl | rfl | rfl | rfl | rfl | rfl | rfl | rfl
  · exact Or.inl rfl
  · exact Or.inr (Or.inl rfl)
  · exact Or.inr (Or.inr (Or.inl rfl))
  · exact Or.inr (Or.inr (Or.inr (Or.inl rfl)))
  · exact Or.inr (Or.inr (Or.inr (Or.inr (Or.inl rfl))))
  · exact Or.inr (Or.inr (Or.inr (Or.inr (Or.inr (Or.inl rfl)))))
  · exact Or.inr (Or.inr (Or.inr (Or.inr (Or.inr (Or.inr (Or.inl rfl))))))
  · exact Or.inr (Or.inr (Or.inr (Or.inr (Or.inr (Or.inr (Or.inr (Or.inl rfl)))))))
  · exact Or.inr (Or.inr (Or.inr (Or.inr (Or.inr (Or.inr (Or.inr (Or.inr (Or.inl rfl))))))))
  · exact Or.inr (Or.inr (Or.inr (Or.inr (Or.inr (Or.inr (Or.inr (Or.inr (Or.inr (Or.inl rfl)))))))))
  · exact Or.inr (Or.inr (Or.inr (Or.inr (Or.inr (Or.inr (Or.inr (Or.inr (Or.inr (Or.inr (Or.inl rfl))))))))))
  · exact Or.inr (Or.inr (Or.inr (Or.inr (Or.inr (Or.inr (Or.inr (Or.inr (Or.inr (Or.inr (Or.inr (Or.inl rfl)))))))))))
  · exact Or.inr (Or.inr (Or.inr (Or.inr (Or.inr (Or.inr (Or.inr (Or.inr (Or.inr (Or.inr (Or.inr (Or.inr (Or.inl rfl))))))))))))
  · exact Or.inr (Or.inr (Or.inr (Or.inr (Or.inr (Or.inr (Or.inr (Or.inr (Or.inr (Or.inr (Or.inr (Or.inr (Or.inr (Or.inl rfl)))))))))))))
  · exact Or.inr (Or.inr (Or.inr (Or.inr (Or.inr (Or.inr (Or.inr (Or.inr (Or.inr (Or.inr (Or.inr (Or.inr (Or.inr (Or.inr (Or.inl rfl))))))))))))))
  · exact Or.inr (Or.inr (Or.inr (Or.inr (Or.inr (Or.inr (Or.inr (Or.inr (Or.inr (Or.inr (Or.inr (Or.inr (Or.inr (Or.inr (Or.inr (Or.inl rfl)))))))))))))))
  · exact Or.inr (Or.inr (Or.inr (Or.inr (Or.inr (Or.inr (Or.inr (Or.inr (Or.inr (Or.inr (Or.inr (Or.inr (Or.inr (Or.inr (Or.inr (Or.inr (Or.inl rfl))))))))))))))))
  · exact Or.inr (Or.inr (Or.inr (Or.inr (Or.inr (Or.inr (Or.inr (Or.inr (Or.inr (Or.inr (Or.inr (Or.inr (Or.inr (Or.inr (Or.inr (Or.inr (Or.inr (Or.inl rfl)))))))))))))))))
  · exact Or.inr (Or.inr (Or.inr (Or.inr (Or.inr (Or.inr (Or.inr (Or.inr (Or.inr (Or.inr (Or.inr (Or.inr (Or.inr (Or.inr (Or.inr (Or.inr (Or.inr (Or.inr (Or.inl rfl))))))))))))))))))
  · exact Or.inr (Or.inr (Or.inr (Or.inr (Or.inr (Or.inr (Or.inr (Or.inr (Or.inr (Or.inr (Or.inr (Or.inr (Or.inr (Or.inr (Or.inr (Or.inr (Or.inr (Or.inr (Or.inr (rfl)))))))))))))))))))
