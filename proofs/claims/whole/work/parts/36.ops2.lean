/-- what the contents of both sides always are -/
def wf (V : vT) : Prop := ok_ (V 7 0) 20 ∧ ok_ (V 8 0) 40 ∧ ok_ (V 9 0) 60 ∧ ok_ (V 22 0) 20 ∧ (∀ k, ok_ (V 1 k) (nu (V 7 0))) ∧ (∀ k, ok_ (V 2 k) (nu (V 7 0))) ∧ (∀ k, 1 ≤ k → k ≤ nu (V 8 0) → 1 ≤ nu (V 2 k)) ∧ (∀ k, V 5 k = 0 ∨ V 5 k = 1) ∧ (∀ k, V 6 k = 0 ∨ V 6 k = 1) ∧ (∀ k, V 10 k = 0 ∨ V 10 k = 1 ∨ V 10 k = 2) ∧ (∀ k, ok_ (V 13 k) 20) ∧ (∀ k, ok_ (V 16 k) 10) ∧ (∀ k, 1 ≤ k → k ≤ nu (V 8 0) → V 5 k = 0 → V 4 k = 1 ∨ V 4 k = 2 ∨ V 4 k = 3) ∧ (∀ k, nu (V 8 0) < k → V 3 k = 0 ∧ V 5 k = 0 ∧ ∀ j, j ≤ 40 → V 6 (41 * k + j) = 0) ∧ (∀ k, nu (V 9 0) < k → V 13 k = 0 ∧ V 14 k = 0 ∧ V 15 k = 0 ∧ V 16 k = 0) ∧ ∀ g, ∃ n, cn_ V n g = 0
/-- what bears no tag of T stays -/
def sx_ (T : Nat × Nat → Prop) (h : hp_T) (own : oT) (h2 : hp_T) (own2 : oT) : Prop := ∀ q x, h q = some x → ¬ T (own q) → h2 q = some x ∧ own2 q = own q
theorem sx_w {T T2 : Nat × Nat → Prop} {h h2 : hp_T} {own own2 : oT} (k : sx_ T h own h2 own2) (hs : ∀ t, T t → T2 t) : sx_ T2 h own h2 own2 := fun q x hx hq => k q x hx (fun z => hq (hs _ z))
theorem sx_st {L : List Nat} {k : Nat} {h h2 : hp_T} {own own2 : oT} (s : sx_ (fun t => t.2 = k ∧ t.1 ∈ L) h own h2 own2) : st_ L h own h2 own2 := fun q x hx hq => s q x hx (fun z => hq z.2)
theorem sx_t {T : Nat × Nat → Prop} {h h2 h3 : hp_T} {own own2 own3 : oT} (k : sx_ T h own h2 own2) (k2 : sx_ T h2 own2 h3 own3) : sx_ T h own h3 own3 := by
  intro q x hx hq
  obtain ⟨a, b⟩ := k q x hx hq
  obtain ⟨a2, b2⟩ := k2 q x a (by rw [b]; exact hq)
  exact ⟨a2, b2.trans b⟩
theorem sx_u {T : Nat × Nat → Prop} {h : hp_T} {own : oT} {a : Nat} {x : va_E} (ha : T (own a)) : sx_ T h own (hp_up h a x) own := by
  intro q y hy hq
  refine ⟨?_, rfl⟩
  rw [hp_un (fun z => hq (by rw [z]; exact ha))]; exact hy
theorem sx_n {T : Nat × Nat → Prop} {h : hp_T} {own : oT} {q : Nat} {x : va_E} {t : Nat × Nat} (hq : h q = none) : sx_ T h own (hp_up h q x) (ou own q t) := by
  intro r y hy _
  have : r ≠ q := fun z => by rw [z, hq] at hy; cases hy
  exact ⟨by rw [hp_un this]; exact hy, ou_n this⟩
/-- profile k has the same rows in both -/
def qe_ (V V2 : vT) (k : Nat) : Prop := V2 11 k = V 11 k ∧ V2 13 k = V 13 k ∧ V2 14 k = V 14 k ∧ V2 15 k = V 15 k ∧ V2 16 k = V 16 k ∧ (∀ j, j < 20 → V2 12 (20 * k + j) = V 12 (20 * k + j)) ∧ ∀ j, j < 10 → V2 17 (10 * k + j) = V 17 (10 * k + j) ∧ V2 18 (10 * k + j) = V 18 (10 * k + j) ∧ V2 19 (10 * k + j) = V 19 (10 * k + j) ∧ V2 20 (10 * k + j) = V 20 (10 * k + j)
theorem cN_e {D : va_G} {h : hp_T} {own : oT} {t i a n : Nat} {f g : Nat → Int32} (k : cN D h own t i a n f) (e : ∀ j, j < n → g j = f j) : cN D h own t i a n g := by
  obtain ⟨c, ⟨h1, ⟨g0, h2, h3⟩, h4⟩, h5, h6⟩ := k
  refine ⟨c, ⟨?_, ⟨g0, h2, fun j hj => (h3 j hj).trans (e j hj).symm⟩, h4⟩, h5, h6⟩
  rw [nm_s_cg e, nm_a_cg e]; exact h1
theorem cE_e {h : hp_T} {own : oT} {k n : Nat} {eA : Nat → Nat} {V V2 : vT} (k1 : cE h own k n eA V) (e : ∀ j, j < n → V2 17 (10 * k + j) = V 17 (10 * k + j) ∧ V2 18 (10 * k + j) = V 18 (10 * k + j) ∧ V2 19 (10 * k + j) = V 19 (10 * k + j) ∧ V2 20 (10 * k + j) = V 20 (10 * k + j)) : cE h own k n eA V2 := by
  obtain ⟨e1, e2, e3⟩ := k1
  refine ⟨fun j hj => ?_, e2, e3⟩
  obtain ⟨a1, a2, a3, a4⟩ := e j hj
  have h := e1 j hj
  simp only [a1, a2, a3, a4]
  exact h
theorem cQ_e {D : va_G} {h : hp_T} {own : oT} {k pA pn pe : Nat} {eA : Nat → Nat} {V V2 : vT} (q : cQ D h own k pA pn pe eA V) (e : qe_ V V2 k) (hE : nu (V 16 k) ≤ 10) : cQ D h own k pA pn pe eA V2 := by
  obtain ⟨⟨q1, q2⟩, q3, q4, q5⟩ := q
  obtain ⟨e1, e2, e3, e4, e5, e6, e7⟩ := e
  refine ⟨⟨?_, q2⟩, ?_, ?_, ?_⟩
  · rw [e1, e3, e4]; exact q1
  · rw [e2]
    have hl : nu (V 13 k) ≤ 20 := by obtain ⟨c, ⟨-, -, z⟩, -⟩ := q3; exact z
    exact cN_e q3 (fun j hj => e6 j (by omega))
  · rw [e5]; exact q4
  · rw [e5]; exact cE_e q5 (fun j hj => e7 j (by omega))
theorem cQ_x {D : va_G} {h h2 : hp_T} {own own2 : oT} {L : List Nat} {j k pA pn pe : Nat} {eA : Nat → Nat} {V : vT} (hj : j ≠ k) (q : cQ D h own j pA pn pe eA V) (s : sx_ (fun t => t.2 = k ∧ t.1 ∈ L) h own h2 own2) : cQ D h2 own2 j pA pn pe eA V := by
  obtain ⟨⟨q1, q2⟩, ⟨c, ⟨n1, ⟨g, n2, n3⟩, n4⟩, n5, n6⟩, ⟨b, ⟨md, b1, b2⟩, b3, b4⟩, e1, e2, e3⟩ := q
  have S : ∀ a x t, h a = some x → own a = (t, j) → h2 a = some x ∧ own2 a = (t, j) := fun a x t hx ht => by
    obtain ⟨r1, r2⟩ := s a x hx (by rw [ht]; exact fun z => hj z.1)
    exact ⟨r1, r2.trans ht⟩
  obtain ⟨a1, a2⟩ := S _ _ _ q1 q2
  obtain ⟨a3, a4⟩ := S _ _ _ n1 n5
  obtain ⟨a5, a6⟩ := S _ _ _ n2 n6
  obtain ⟨a7, a8⟩ := S _ _ _ b1 b3
  refine ⟨⟨a1, a2⟩, ⟨c, ⟨a3, ⟨g, a5, n3⟩, n4⟩, a4, a6⟩, ?_, fun i hi => (S _ _ _ (e1 i hi) (e2 i hi)).1, fun i hi => (S _ _ _ (e1 i hi) (e2 i hi)).2, e3⟩
  rcases b4 with ⟨z1, z2⟩ | b4
  · exact ⟨b, ⟨md, a7, Or.inl ⟨z1, z2⟩⟩, a8, Or.inl ⟨z1, z2⟩⟩
  · rcases b2 with ⟨z1, z2⟩ | ⟨cap, g2, hb, hr⟩
    · exact ⟨b, ⟨md, a7, Or.inl ⟨z1, z2⟩⟩, a8, Or.inl ⟨z1, z2⟩⟩
    · obtain ⟨a9, a10⟩ := S _ _ _ hb b4
      exact ⟨b, ⟨md, a7, Or.inr ⟨cap, g2, a9, hr⟩⟩, a8, Or.inr a10⟩
/-- profile k changes, the others stay -/
theorem cP_x {D : va_G} {h h2 : hp_T} {own own2 : oT} {L : List Nat} {n k : Nat} {pA pn pe : Nat → Nat} {eA eA2 : Nat → Nat → Nat} {V V2 : vT} (hP : cP D h own n pA pn pe eA V) (s : sx_ (fun t => t.2 = k ∧ t.1 ∈ L) h own h2 own2) (hk : cQ D h2 own2 k (pA k) (pn k) (pe k) (eA2 k) V2) (he : ∀ j, j ≠ k → eA2 j = eA j ∧ qe_ V V2 j) (hE : ∀ j, ok_ (V 16 j) 10) : cP D h2 own2 n pA pn pe eA2 V2 := by
  intro j h1 h3
  by_cases z : j = k
  · subst z; exact hk
  · rw [(he j z).1]; exact cQ_e (cQ_x z (hP j h1 h3) s) (he j z).2 (hE j).2
theorem k_PR_mode_0 : px_dec prog_1_method_8_code [.iload_n 1] 0 = true := by decide +kernel
theorem d_PR_mode_1 : decode prog_1_method_8_code 1 = .ok (.invokestatic 102, 3) := by decide +kernel
theorem k_PR_mode_4 : px_dec prog_1_method_8_code [.iload_n 2] 4 = true := by decide +kernel
theorem d_PR_mode_5 : decode prog_1_method_8_code 5 = .ok (.ifCond .lt 8, 3) := by decide +kernel
theorem d_PR_mode_13 : decode prog_1_method_8_code 13 = .ok (.new 105, 3) := by decide +kernel
theorem d_PR_mode_16 : decode prog_1_method_8_code 16 = .ok (.dup, 1) := by decide +kernel
theorem d_PR_mode_17 : decode prog_1_method_8_code 17 = .ok (.ldc 107, 2) := by decide +kernel
theorem d_PR_mode_19 : decode prog_1_method_8_code 19 = .ok (.invokespecial 109, 3) := by decide +kernel
theorem d_PR_mode_22 : decode prog_1_method_8_code 22 = .ok (.athrow, 1) := by decide +kernel
theorem k_PR_mode_8 : px_dec prog_1_method_8_code [.iload_n 2, .iconst 2] 8 = true := by decide +kernel
theorem d_PR_mode_10 : decode prog_1_method_8_code 10 = .ok (.if_icmp .le 13, 3) := by decide +kernel
theorem k_PR_mode_23 : px_dec prog_1_method_8_code [.aload_n 0] 23 = true := by decide +kernel
theorem d_PR_mode_24 : decode prog_1_method_8_code 24 = .ok (.getfield 22, 3) := by decide +kernel
theorem k_PR_mode_27 : px_dec prog_1_method_8_code [.iload_n 1] 27 = true := by decide +kernel
theorem d_PR_mode_28 : decode prog_1_method_8_code 28 = .ok (.iaload, 1) := by decide +kernel
theorem k_PR_mode_29 : px_dec prog_1_method_8_code [.istore_n 3, .aload_n 0] 29 = true := by decide +kernel
theorem d_PR_mode_31 : decode prog_1_method_8_code 31 = .ok (.getfield 22, 3) := by decide +kernel
theorem k_PR_mode_34 : px_dec prog_1_method_8_code [.iload_n 1, .iload_n 2] 34 = true := by decide +kernel
theorem d_PR_mode_36 : decode prog_1_method_8_code 36 = .ok (.iastore, 1) := by decide +kernel
theorem k_PR_mode_37 : px_dec prog_1_method_8_code [.iload_n 3] 37 = true := by decide +kernel
theorem d_PR_mode_38 : decode prog_1_method_8_code 38 = .ok (.ireturn, 1) := by decide +kernel
set_option maxRecDepth 100000 in
set_option maxHeartbeats 4000000 in
theorem o_mode (l : Launch) (D : va_G) (HB : Heap) (h : hp_T) (hlt : l.stackTraces = false) (own : oT) (V : vT) (x : Nat) (c : Int32) (m : Int32) (hX : cr D h own x V) (hW : wf V) : ct_M l y_PR_mode (.code y_PR_mode prog_1_method_8_code 4 (Option.some Jvm.ClassFile.FieldType.int)) ({ frames := 9, cells := 8, slots := 200, locals := 320 }) D HB [.ref x, .int c, .int m] h (fun o h2 => an2 D h own x (sp_mode V c m) o h2) := by
  refine ct_of (by decide) (Nat.le_of_ble_eq_true rfl) rfl ?_
  intro p_ e_ s_ m_ r_ b_ t_ c_ C hnm
  obtain ⟨gl, ul, pl, mo, aq, tr, gA, uA, pA, pn, pe, eB, sf, hO, hGL, hUL, hPL, hM, hN, hT, hG, hU, hB, hP⟩ := id hX
  obtain ⟨h7, h8, h9, h22, w1, w2, w21, w5, w6, w10, w13, w16, w4, wz, wy, wc⟩ := id hW
  refine wk_run C k_PR_mode_0 (pc2 := 1) (lv2 := [(0, .ref x), (1, .int c), (2, .int m)]) (st2 := [.int c]) rfl ?_
  rcases (Classical.em (¬ (c < 0 ∨ 8 ≤ c))).symm with hc | hc
  ·
    refine wk_callS (rest := []) C (k_testClassN l D HB h hlt c (Classical.not_not.mp hc)) cs_PR_102 kc_PR_testClass ki_PR rfl rfl (Nat.le_of_ble_eq_true rfl) (Nat.le_of_ble_eq_true rfl) (Nat.le_of_ble_eq_true rfl) (Nat.le_of_ble_eq_true rfl) (Nat.le_of_ble_eq_true rfl) d_PR_mode_1 (fun v h2 hq => ?_) (fun E h2 hq => by obtain ⟨e1, e2⟩ := hq; cases e1; replace e2 := e2.symm; subst e2; exact wx_out C (an_t hX (by clear C hX; grind [sp_mode])) (by decide) (by decide))
    exact nomatch hq.1
  refine wk_callS (rest := []) C (k_testClassY l D HB h hlt c hc) cs_PR_102 kc_PR_testClass ki_PR rfl rfl (Nat.le_of_ble_eq_true rfl) (Nat.le_of_ble_eq_true rfl) (Nat.le_of_ble_eq_true rfl) (Nat.le_of_ble_eq_true rfl) (Nat.le_of_ble_eq_true rfl) d_PR_mode_1 (fun v h2 hq => ?_) (fun _ _ z => nomatch z.1)
  obtain ⟨e1, e2⟩ := hq; cases e1; replace e2 := e2.symm; subst e2
  refine wk_run C k_PR_mode_4 (pc2 := 5) (lv2 := [(0, .ref x), (1, .int c), (2, .int m)]) (st2 := [.int m]) rfl ?_
  refine wk_br C d_PR_mode_5 (P := m < 0) (tgt := 13) (rest := []) rfl (by decide) (fun c1 => ?_) (fun c1 => ?_)
  ·
    exact wk_thrA C hlt (text := "no such mode") (is := 107) (by decide) d_PR_mode_13 d_PR_mode_16 d_PR_mode_17 d_PR_mode_19 d_PR_mode_22 (by decide) (Nat.le_of_ble_eq_true rfl) (by decide) (by decide) (by decide) (by decide) (an_t hX (by clear C hX; grind [sp_mode]))
  ·
    refine wk_run C k_PR_mode_8 (pc2 := 10) (lv2 := [(0, .ref x), (1, .int c), (2, .int m)]) (st2 := [.int 2, .int m]) rfl ?_
    refine wk_br C d_PR_mode_10 (P := m ≤ 2) (tgt := 23) (rest := []) rfl (by decide) (fun c2 => ?_) (fun c2 => ?_)
    ·
      refine wk_run C k_PR_mode_23 (pc2 := 24) (lv2 := [(0, .ref x), (1, .int c), (2, .int m)]) (st2 := [.ref x]) rfl ?_
      refine wk_get C fd_PR_22 hO.1 rfl d_PR_mode_24 ?_
      refine wk_run C k_PR_mode_27 (pc2 := 28) (lv2 := [(0, .ref x), (1, .int c), (2, .int m)]) (st2 := [.int c, .ref mo]) rfl ?_
      have hc2 : ¬ c < 0 ∧ c < 8 := by clear C hX; grind
      have kc : vp_in c 8 := vi_k (ok_c hc2.1 hc2.2 (show (8 : Int32) = nI (7 + 1) from rfl) (by decide)) (by decide) (by decide)
      refine wk_iald C hM.1 kc d_PR_mode_28 ?_
      show Wk _ _ _ _ _ _ _ _ _ _ _ _ _ _ _ _ _ _ _ (.int (V 10 (nu c)) :: _)
      refine wk_run C k_PR_mode_29 (pc2 := 31) (lv2 := [(3, .int (V 10 (nu c))), (0, .ref x), (1, .int c), (2, .int m)]) (st2 := [.ref x]) rfl ?_
      refine wk_get C fd_PR_22 hO.1 rfl d_PR_mode_31 ?_
      refine wk_run C k_PR_mode_34 (pc2 := 36) (lv2 := [(3, .int (V 10 (nu c))), (0, .ref x), (1, .int c), (2, .int m)]) (st2 := [.int m, .int c, .ref mo]) rfl ?_
      refine wk_iast C hM.1 kc d_PR_mode_36 ?_
      refine wk_run C k_PR_mode_37 (pc2 := 38) (lv2 := [(3, .int (V 10 (nu c))), (0, .ref x), (1, .int c), (2, .int m)]) (st2 := [.int (V 10 (nu c))]) rfl ?_
      have hr : sp_mode V c m = (0, V 10 (nu c), vs (vc V 0 0) 10 (upd (V 10) (nu c) m)) := by clear C hX; grind [sp_mode]
      have s : st_ [4] h own (hp_up h mo (.inl (D.1 100, 8, .inl (upd (V 10) (nu c) m)))) own := st_u (t := 4) (by rw [hM.2]) (by decide)
      exact wk_iret C (an_o (V2 := vs (vc V 0 0) 10 (upd (V 10) (nu c) m)) ⟨gl, ul, pl, mo, aq, tr, gA, uA, pA, pn, pe, eB, sf, cO_m hO s (by decide), cL_m hGL s (by decide) (by decide), cL_m hUL s (by decide) (by decide), cL_m hPL s (by decide) (by decide), ⟨hp_us, hM.2⟩, cN_m hN s (by decide) (by decide), cT_m hT s (by decide) (by decide), cG_m hG s (by decide), cU_m hU s (by decide), hB, cP_m hP s (by decide) (by decide) (by decide) (by decide) (by decide) (by decide)⟩ (st_so s (by decide)) hr) (by decide) (by decide) d_PR_mode_38
    ·
      exact wk_thrA C hlt (text := "no such mode") (is := 107) (by decide) d_PR_mode_13 d_PR_mode_16 d_PR_mode_17 d_PR_mode_19 d_PR_mode_22 (by decide) (Nat.le_of_ble_eq_true rfl) (by decide) (by decide) (by decide) (by decide) (an_t hX (by clear C hX; grind [sp_mode]))
theorem k_PR_universal_0 : px_dec prog_1_method_11_code [.aload_n 0, .iload_n 1] 0 = true := by decide +kernel
theorem d_PR_universal_2 : decode prog_1_method_11_code 2 = .ok (.invokevirtual 117, 3) := by decide +kernel
theorem k_PR_universal_5 : px_dec prog_1_method_11_code [.astore 4, .iload_n 2, .iconst 0] 5 = true := by decide +kernel
theorem d_PR_universal_9 : decode prog_1_method_11_code 9 = .ok (.invokestatic 142, 3) := by decide +kernel
theorem k_PR_universal_12 : px_dec prog_1_method_11_code [.iload_n 3] 12 = true := by decide +kernel
theorem d_PR_universal_13 : decode prog_1_method_11_code 13 = .ok (.ifCond .lt 9, 3) := by decide +kernel
theorem d_PR_universal_22 : decode prog_1_method_11_code 22 = .ok (.new 105, 3) := by decide +kernel
theorem d_PR_universal_25 : decode prog_1_method_11_code 25 = .ok (.dup, 1) := by decide +kernel
theorem d_PR_universal_26 : decode prog_1_method_11_code 26 = .ok (.ldc 145, 2) := by decide +kernel
theorem d_PR_universal_28 : decode prog_1_method_11_code 28 = .ok (.invokespecial 109, 3) := by decide +kernel
theorem d_PR_universal_31 : decode prog_1_method_11_code 31 = .ok (.athrow, 1) := by decide +kernel
theorem k_PR_universal_16 : px_dec prog_1_method_11_code [.iload_n 3, .bipush 7] 16 = true := by decide +kernel
theorem d_PR_universal_19 : decode prog_1_method_11_code 19 = .ok (.if_icmp .le 13, 3) := by decide +kernel
theorem k_PR_universal_32 : px_dec prog_1_method_11_code [.bipush 8, .aload 4] 32 = true := by decide +kernel
theorem d_PR_universal_36 : decode prog_1_method_11_code 36 = .ok (.getfield 147, 3) := by decide +kernel
theorem k_PR_universal_39 : px_dec prog_1_method_11_code [.imul, .aload 4] 39 = true := by decide +kernel
theorem d_PR_universal_42 : decode prog_1_method_11_code 42 = .ok (.getfield 150, 3) := by decide +kernel
theorem k_PR_universal_45 : px_dec prog_1_method_11_code [.iadd, .istore 5, .aload 4, .iload_n 2] 45 = true := by decide +kernel
theorem d_PR_universal_51 : decode prog_1_method_11_code 51 = .ok (.putfield 147, 3) := by decide +kernel
theorem k_PR_universal_54 : px_dec prog_1_method_11_code [.aload 4, .iload_n 3] 54 = true := by decide +kernel
theorem d_PR_universal_57 : decode prog_1_method_11_code 57 = .ok (.putfield 150, 3) := by decide +kernel
theorem k_PR_universal_60 : px_dec prog_1_method_11_code [.iload 5] 60 = true := by decide +kernel
theorem d_PR_universal_62 : decode prog_1_method_11_code 62 = .ok (.ireturn, 1) := by decide +kernel
set_option maxRecDepth 100000 in
set_option maxHeartbeats 4000000 in
theorem o_universal (l : Launch) (D : va_G) (HB : Heap) (h : hp_T) (hlt : l.stackTraces = false) (own : oT) (V : vT) (x : Nat) (p : Int32) (a : Int32) (m : Int32) (hX : cr D h own x V) (hW : wf V) : ct_M l y_PR_universal (.code y_PR_universal prog_1_method_11_code 6 (Option.some Jvm.ClassFile.FieldType.int)) ({ frames := 9, cells := 8, slots := 200, locals := 320 }) D HB [.ref x, .int p, .int a, .int m] h (fun o h2 => an2 D h own x (sp_universal V p a m) o h2) := by
  refine ct_of (by decide) (Nat.le_of_ble_eq_true rfl) rfl ?_
  intro p_ e_ s_ m_ r_ b_ t_ c_ C hnm
  obtain ⟨gl, ul, pl, mo, aq, tr, gA, uA, pA, pn, pe, eB, sf, hO, hGL, hUL, hPL, hM, hN, hT, hG, hU, hB, hP⟩ := id hX
  obtain ⟨h7, h8, h9, h22, w1, w2, w21, w5, w6, w10, w13, w16, w4, wz, wy, wc⟩ := id hW
  refine wk_run C k_PR_universal_0 (pc2 := 2) (lv2 := [(0, .ref x), (1, .int p), (2, .int a), (3, .int m)]) (st2 := [.int p, .ref x]) rfl ?_
  rcases (Classical.em (¬ p < 1 ∧ p ≤ V 9 0)).symm with hp | hp
  ·
    refine wk_callV (cl := ("ProfileRights", T_PR, 7)) (rest := []) C (k_profileN l D HB h own V x gl ul pl mo aq tr (V 23 0) gA uA pA pn pe eB sf hO hPL h9 hlt p hp) cs_PR_117 kc_PR_profileAt ki_PR hO.1 rfl rfl rfl (Nat.le_of_ble_eq_true rfl) (Nat.le_of_ble_eq_true rfl) (Nat.le_of_ble_eq_true rfl) (Nat.le_of_ble_eq_true rfl) (Nat.le_of_ble_eq_true rfl) d_PR_universal_2 (fun v h2 hq => ?_) (fun E h2 hq => by obtain ⟨e1, e2⟩ := hq; cases e1; replace e2 := e2.symm; subst e2; exact wx_out C (an_t hX (by clear C hX; grind [sp_universal])) (by decide) (by decide))
    exact nomatch hq.1
  refine wk_callV (cl := ("ProfileRights", T_PR, 7)) (rest := []) C (k_profileY l D HB h own V x gl ul pl mo aq tr (V 23 0) gA uA pA pn pe eB sf hO hPL h9 hP p hp) cs_PR_117 kc_PR_profileAt ki_PR hO.1 rfl rfl rfl (Nat.le_of_ble_eq_true rfl) (Nat.le_of_ble_eq_true rfl) (Nat.le_of_ble_eq_true rfl) (Nat.le_of_ble_eq_true rfl) (Nat.le_of_ble_eq_true rfl) d_PR_universal_2 (fun v h2 hq => ?_) (fun _ _ z => nomatch z.1)
  obtain ⟨e1, e2⟩ := hq; cases e1; replace e2 := e2.symm; subst e2
  show Wk _ _ _ _ _ _ _ _ _ _ _ _ _ _ _ _ _ _ _ (.ref (pA (nu p)) :: _)
  have khp : 1 ≤ nu p ∧ nu p ≤ nu (V 9 0) := by have z := ok_u (n := nu (V 9 0)) (by rw [← h9.1]; exact hp) (by have := h9.2; omega); exact ⟨z.1, z.2.1⟩
  have qhp := hP (nu p) khp.1 khp.2
  have ohp := qhp.1.1
  refine wk_run C k_PR_universal_5 (pc2 := 9) (lv2 := [(4, .ref (pA (nu p))), (0, .ref x), (1, .int p), (2, .int a), (3, .int m)]) (st2 := [.int 0, .int a]) rfl ?_
  rcases (Classical.em (¬ (a < 0 ∨ ¬ a ≤ 4))).symm with ha | ha
  ·
    refine wk_callS (rest := []) C (k_testLevelN l D HB h hlt a 0 (Classical.not_not.mp ha)) cs_PR_142 kc_PR_testLevel ki_PR rfl rfl (Nat.le_of_ble_eq_true rfl) (Nat.le_of_ble_eq_true rfl) (Nat.le_of_ble_eq_true rfl) (Nat.le_of_ble_eq_true rfl) (Nat.le_of_ble_eq_true rfl) d_PR_universal_9 (fun v h2 hq => ?_) (fun E h2 hq => by obtain ⟨e1, e2⟩ := hq; cases e1; replace e2 := e2.symm; subst e2; exact wx_out C (an_t hX (by clear C hX; grind [sp_universal])) (by decide) (by decide))
    exact nomatch hq.1
  refine wk_callS (rest := []) C (k_testLevelY l D HB h hlt a 0 ha) cs_PR_142 kc_PR_testLevel ki_PR rfl rfl (Nat.le_of_ble_eq_true rfl) (Nat.le_of_ble_eq_true rfl) (Nat.le_of_ble_eq_true rfl) (Nat.le_of_ble_eq_true rfl) (Nat.le_of_ble_eq_true rfl) d_PR_universal_9 (fun v h2 hq => ?_) (fun _ _ z => nomatch z.1)
  obtain ⟨e1, e2⟩ := hq; cases e1; replace e2 := e2.symm; subst e2
  refine wk_run C k_PR_universal_12 (pc2 := 13) (lv2 := [(4, .ref (pA (nu p))), (0, .ref x), (1, .int p), (2, .int a), (3, .int m)]) (st2 := [.int m]) rfl ?_
  refine wk_br C d_PR_universal_13 (P := m < 0) (tgt := 22) (rest := []) rfl (by decide) (fun c1 => ?_) (fun c1 => ?_)
  ·
    exact wk_thrA C hlt (text := "no such marks") (is := 145) (by decide) d_PR_universal_22 d_PR_universal_25 d_PR_universal_26 d_PR_universal_28 d_PR_universal_31 (by decide) (Nat.le_of_ble_eq_true rfl) (by decide) (by decide) (by decide) (by decide) (an_t hX (by clear C hX; grind [sp_universal]))
  ·
    refine wk_run C k_PR_universal_16 (pc2 := 19) (lv2 := [(4, .ref (pA (nu p))), (0, .ref x), (1, .int p), (2, .int a), (3, .int m)]) (st2 := [.int 7, .int m]) rfl ?_
    refine wk_br C d_PR_universal_19 (P := m ≤ 7) (tgt := 32) (rest := []) rfl (by decide) (fun c2 => ?_) (fun c2 => ?_)
    ·
      refine wk_run C k_PR_universal_32 (pc2 := 36) (lv2 := [(4, .ref (pA (nu p))), (0, .ref x), (1, .int p), (2, .int a), (3, .int m)]) (st2 := [.ref (pA (nu p)), .int 8]) rfl ?_
      refine wk_get C fd_PR_147 ohp rfl d_PR_universal_36 ?_
      refine wk_run C k_PR_universal_39 (pc2 := 42) (lv2 := [(4, .ref (pA (nu p))), (0, .ref x), (1, .int p), (2, .int a), (3, .int m)]) (st2 := [.ref (pA (nu p)), .int (8 * (V 14 (nu p)))]) rfl ?_
      refine wk_get C fd_PR_150 ohp rfl d_PR_universal_42 ?_
      refine wk_run C k_PR_universal_45 (pc2 := 51) (lv2 := [(5, .int ((8 * (V 14 (nu p))) + (V 15 (nu p)))), (4, .ref (pA (nu p))), (0, .ref x), (1, .int p), (2, .int a), (3, .int m)]) (st2 := [.int a, .ref (pA (nu p))]) rfl ?_
      refine wk_put (fs2 := [.int (nI (nu p)), .int (V 11 (nu p)), .ref (pn (nu p)), .ref (pe (nu p)), .int a, .int (V 15 (nu p))]) C fd_PR_147 ohp rfl rfl (Nat.le_of_ble_eq_true rfl) rfl d_PR_universal_51 ?_
      refine wk_run C k_PR_universal_54 (pc2 := 57) (lv2 := [(5, .int ((8 * (V 14 (nu p))) + (V 15 (nu p)))), (4, .ref (pA (nu p))), (0, .ref x), (1, .int p), (2, .int a), (3, .int m)]) (st2 := [.int m, .ref (pA (nu p))]) rfl ?_
      refine wk_put (fs2 := [.int (nI (nu p)), .int (V 11 (nu p)), .ref (pn (nu p)), .ref (pe (nu p)), .int a, .int m]) C fd_PR_150 hp_us rfl rfl (Nat.le_of_ble_eq_true rfl) rfl d_PR_universal_57 ?_
      rw [hp_uu]
      refine wk_run C k_PR_universal_60 (pc2 := 62) (lv2 := [(5, .int ((8 * (V 14 (nu p))) + (V 15 (nu p)))), (4, .ref (pA (nu p))), (0, .ref x), (1, .int p), (2, .int a), (3, .int m)]) (st2 := [.int ((8 * (V 14 (nu p))) + (V 15 (nu p)))]) rfl ?_
      have hr : sp_universal V p a m = (0, 8 * V 14 (nu p) + V 15 (nu p), vs (vs (vc V 0 0) 14 (upd (V 14) (nu p) a)) 15 (upd (V 15) (nu p) m)) := by clear C hX; grind [sp_universal]
      have s0 : sx_ (fun t => t.2 = nu p ∧ t.1 ∈ [22]) h own (hp_up h (pA (nu p)) (.inr (5, [.int (nI (nu p)), .int (V 11 (nu p)), .ref (pn (nu p)), .ref (pe (nu p)), .int a, .int m]))) own := sx_u (by rw [qhp.1.2]; exact ⟨rfl, by simp⟩)
      have s := sx_st s0
      have hP2 : cP D (hp_up h (pA (nu p)) (.inr (5, [.int (nI (nu p)), .int (V 11 (nu p)), .ref (pn (nu p)), .ref (pe (nu p)), .int a, .int m]))) own (nu (V 9 0)) pA pn pe eB (vs (vs (vc V 0 0) 14 (upd (V 14) (nu p) a)) 15 (upd (V 15) (nu p) m)) := cP_x hP s0 ⟨⟨by rw [hp_us, show (vs (vs (vc V 0 0) 14 (upd (V 14) (nu p) a)) 15 (upd (V 15) (nu p) m)) 14 (nu p) = a from upd_s, show (vs (vs (vc V 0 0) 14 (upd (V 14) (nu p) a)) 15 (upd (V 15) (nu p) m)) 15 (nu p) = m from upd_s]; rfl, qhp.1.2⟩, cN_m qhp.2.1 s (by decide) (by decide), cL_m qhp.2.2.1 s (by decide) (by decide), cE_m qhp.2.2.2 s (by decide)⟩ (fun j hj => ⟨rfl, rfl, rfl, upd_n hj, upd_n hj, rfl, fun _ _ => rfl, fun _ _ => ⟨rfl, rfl, rfl, rfl⟩⟩) w16
      exact wk_iret C (an_o (V2 := vs (vs (vc V 0 0) 14 (upd (V 14) (nu p) a)) 15 (upd (V 15) (nu p) m)) ⟨gl, ul, pl, mo, aq, tr, gA, uA, pA, pn, pe, eB, sf, cO_m hO s (by decide), cL_m hGL s (by decide) (by decide), cL_m hUL s (by decide) (by decide), cL_m hPL s (by decide) (by decide), cM_m hM s (by decide), cN_m hN s (by decide) (by decide), cT_m hT s (by decide) (by decide), cG_m hG s (by decide), cU_m hU s (by decide), hB, hP2⟩ (st_so s (by decide)) hr) (by decide) (by decide) d_PR_universal_62
    ·
      exact wk_thrA C hlt (text := "no such marks") (is := 145) (by decide) d_PR_universal_22 d_PR_universal_25 d_PR_universal_26 d_PR_universal_28 d_PR_universal_31 (by decide) (Nat.le_of_ble_eq_true rfl) (by decide) (by decide) (by decide) (by decide) (an_t hX (by clear C hX; grind [sp_universal]))
theorem k_PR_matched_0 : px_dec prog_1_method_16_code [.aload_n 0] 0 = true := by decide +kernel
theorem d_PR_matched_1 : decode prog_1_method_16_code 1 = .ok (.getfield 40, 3) := by decide +kernel
theorem d_PR_matched_4 : decode prog_1_method_16_code 4 = .ok (.ireturn, 1) := by decide +kernel
set_option maxRecDepth 100000 in
set_option maxHeartbeats 4000000 in
theorem o_matched (l : Launch) (D : va_G) (HB : Heap) (h : hp_T) (hlt : l.stackTraces = false) (own : oT) (V : vT) (x : Nat) (hX : cr D h own x V) (hW : wf V) : ct_M l y_PR_matched (.code y_PR_matched prog_1_method_16_code 1 (Option.some Jvm.ClassFile.FieldType.int)) ({ frames := 9, cells := 8, slots := 200, locals := 320 }) D HB [.ref x] h (fun o h2 => an2 D h own x (sp_matched V) o h2) := by
  refine ct_of (by decide) (Nat.le_of_ble_eq_true rfl) rfl ?_
  intro p_ e_ s_ m_ r_ b_ t_ c_ C hnm
  obtain ⟨gl, ul, pl, mo, aq, tr, gA, uA, pA, pn, pe, eB, sf, hO, hGL, hUL, hPL, hM, hN, hT, hG, hU, hB, hP⟩ := id hX
  obtain ⟨h7, h8, h9, h22, w1, w2, w21, w5, w6, w10, w13, w16, w4, wz, wy, wc⟩ := id hW
  refine wk_run C k_PR_matched_0 (pc2 := 1) (lv2 := [(0, .ref x)]) (st2 := [.ref x]) rfl ?_
  refine wk_get C fd_PR_40 hO.1 rfl d_PR_matched_1 ?_
  exact wk_iret C (an_q hX rfl) (by decide) (by decide) d_PR_matched_4
theorem ok_kp {x : Int32} (h : ok_ x 1000000) : ok_ (if x < 200 then x else 200) 200 ∧ nu (if x < 200 then x else 200) = if nu x < 200 then nu x else 200 := by
  have h2 := h.2
  by_cases z : x < 200
  · have k := ok_int h (by decide)
    have : nu x < 200 := by rw [Int32.lt_iff_toInt_lt, k] at z; have e : (200 : Int32).toInt = 200 := by decide
                            rw [e] at z; omega
    rw [if_pos z, if_pos this]; exact ⟨⟨h.1, by omega⟩, rfl⟩
  · have k := ok_int h (by decide)
    have : ¬ nu x < 200 := by rw [Int32.lt_iff_toInt_lt, k] at z; have e : (200 : Int32).toInt = 200 := by decide
                              rw [e] at z; omega
    rw [if_neg z, if_neg this]; exact ⟨ok_nI (m := 200) (by decide) (by decide), rfl⟩
theorem au_e (V : vT) (i w : Int32) : (if ¬ i < 0 ∧ i < (if V 25 0 < 200 then V 25 0 else 200) ∧ ¬ w < 0 ∧ w < 5 then V 24 (5 * nu i + nu w) else -1) = if ¬ i < 0 ∧ i < V 25 0 ∧ i < 200 ∧ ¬ w < 0 ∧ w ≤ 4 then V 24 (5 * nu i + nu w) else -1 := by grind
theorem k_PR_audit_0 : px_dec prog_1_method_17_code [.aload_n 0] 0 = true := by decide +kernel
theorem d_PR_audit_1 : decode prog_1_method_17_code 1 = .ok (.getfield 36, 3) := by decide +kernel
theorem k_PR_audit_4 : px_dec prog_1_method_17_code [.iload_n 1, .iload_n 2] 4 = true := by decide +kernel
theorem d_PR_audit_6 : decode prog_1_method_17_code 6 = .ok (.invokevirtual 197, 3) := by decide +kernel
theorem d_PR_audit_9 : decode prog_1_method_17_code 9 = .ok (.ireturn, 1) := by decide +kernel
set_option maxRecDepth 100000 in
set_option maxHeartbeats 4000000 in
theorem o_audit (l : Launch) (D : va_G) (HB : Heap) (h : hp_T) (hlt : l.stackTraces = false) (own : oT) (V : vT) (x : Nat) (i : Int32) (j : Int32) (hX : cr D h own x V) (hW : wf V) (hR : ok_ (V 25 0) 1000000) : ct_M l y_PR_audit (.code y_PR_audit prog_1_method_17_code 3 (Option.some Jvm.ClassFile.FieldType.int)) ({ frames := 9, cells := 8, slots := 200, locals := 320 }) D HB [.ref x, .int i, .int j] h (fun o h2 => an2 D h own x (sp_audit V i j) o h2) := by
  refine ct_of (by decide) (Nat.le_of_ble_eq_true rfl) rfl ?_
  intro p_ e_ s_ m_ r_ b_ t_ c_ C hnm
  obtain ⟨gl, ul, pl, mo, aq, tr, gA, uA, pA, pn, pe, eB, sf, hO, hGL, hUL, hPL, hM, hN, hT, hG, hU, hB, hP⟩ := id hX
  obtain ⟨h7, h8, h9, h22, w1, w2, w21, w5, w6, w10, w13, w16, w4, wz, wy, wc⟩ := id hW
  obtain ⟨tc, hT1, hT2, hT3, hT4⟩ := id hT
  refine wk_run C k_PR_audit_0 (pc2 := 1) (lv2 := [(0, .ref x), (1, .int i), (2, .int j)]) (st2 := [.ref x]) rfl ?_
  refine wk_get C fd_PR_36 hO.1 rfl d_PR_audit_1 ?_
  refine wk_run C k_PR_audit_4 (pc2 := 6) (lv2 := [(0, .ref x), (1, .int i), (2, .int j)]) (st2 := [.int j, .int i, .ref tr]) rfl ?_
  refine wk_callV (cl := ("ProfileRights$Trail", T_TR, 3)) (rest := []) C (c_TR_read l D HB h tr tc (if V 25 0 < 200 then V 25 0 else 200) (V 25 0) i j (V 24) hT1 hT3 (ok_kp hR).1) cs_PR_197 kc_TR_read ki_TR hT1 rfl rfl rfl (Nat.le_of_ble_eq_true rfl) (Nat.le_of_ble_eq_true rfl) (Nat.le_of_ble_eq_true rfl) (Nat.le_of_ble_eq_true rfl) (Nat.le_of_ble_eq_true rfl) d_PR_audit_6 (fun v h2 hq => ?_) (fun _ _ z => nomatch z.1)
  obtain ⟨e1, e2⟩ := hq; cases e1; replace e2 := e2.symm; subst e2
  rw [au_e]
  exact wk_iret C (an_q hX rfl) (by decide) (by decide) d_PR_audit_9
theorem k_PR_count_0 : px_dec prog_1_method_21_code [.iload_n 1] 0 = true := by decide +kernel
theorem d_PR_count_1 : decode prog_1_method_21_code 1 = .ok (.tableswitch 81 0 5 #[39, 47, 55, 63, 71, 76], 39) := by decide +kernel
theorem k_PR_count_82 : px_dec prog_1_method_21_code [.iconst (-1)] 82 = true := by decide +kernel
theorem d_PR_count_83 : decode prog_1_method_21_code 83 = .ok (.ireturn, 1) := by decide +kernel
theorem k_PR_count_40 : px_dec prog_1_method_21_code [.aload_n 0] 40 = true := by decide +kernel
theorem d_PR_count_41 : decode prog_1_method_21_code 41 = .ok (.getfield 12, 3) := by decide +kernel
theorem d_PR_count_44 : decode prog_1_method_21_code 44 = .ok (.invokevirtual 48, 3) := by decide +kernel
theorem d_PR_count_47 : decode prog_1_method_21_code 47 = .ok (.ireturn, 1) := by decide +kernel
theorem k_PR_count_48 : px_dec prog_1_method_21_code [.aload_n 0] 48 = true := by decide +kernel
theorem d_PR_count_49 : decode prog_1_method_21_code 49 = .ok (.getfield 16, 3) := by decide +kernel
theorem d_PR_count_52 : decode prog_1_method_21_code 52 = .ok (.invokevirtual 48, 3) := by decide +kernel
theorem d_PR_count_55 : decode prog_1_method_21_code 55 = .ok (.ireturn, 1) := by decide +kernel
theorem k_PR_count_56 : px_dec prog_1_method_21_code [.aload_n 0] 56 = true := by decide +kernel
theorem d_PR_count_57 : decode prog_1_method_21_code 57 = .ok (.getfield 19, 3) := by decide +kernel
theorem d_PR_count_60 : decode prog_1_method_21_code 60 = .ok (.invokevirtual 48, 3) := by decide +kernel
theorem d_PR_count_63 : decode prog_1_method_21_code 63 = .ok (.ireturn, 1) := by decide +kernel
theorem k_PR_count_64 : px_dec prog_1_method_21_code [.aload_n 0] 64 = true := by decide +kernel
theorem d_PR_count_65 : decode prog_1_method_21_code 65 = .ok (.getfield 36, 3) := by decide +kernel
theorem d_PR_count_68 : decode prog_1_method_21_code 68 = .ok (.getfield 216, 3) := by decide +kernel
theorem d_PR_count_71 : decode prog_1_method_21_code 71 = .ok (.ireturn, 1) := by decide +kernel
theorem k_PR_count_72 : px_dec prog_1_method_21_code [.aload_n 0] 72 = true := by decide +kernel
theorem d_PR_count_73 : decode prog_1_method_21_code 73 = .ok (.invokevirtual 219, 3) := by decide +kernel
theorem d_PR_count_76 : decode prog_1_method_21_code 76 = .ok (.ireturn, 1) := by decide +kernel
theorem k_PR_count_77 : px_dec prog_1_method_21_code [.aload_n 0] 77 = true := by decide +kernel
theorem d_PR_count_78 : decode prog_1_method_21_code 78 = .ok (.invokevirtual 222, 3) := by decide +kernel
theorem d_PR_count_81 : decode prog_1_method_21_code 81 = .ok (.ireturn, 1) := by decide +kernel
set_option maxRecDepth 100000 in
set_option maxHeartbeats 4000000 in
theorem o_count (l : Launch) (D : va_G) (HB : Heap) (h : hp_T) (hlt : l.stackTraces = false) (own : oT) (V : vT) (x : Nat) (k : Int32) (hX : cr D h own x V) (hW : wf V) : ct_M l y_PR_count (.code y_PR_count prog_1_method_21_code 2 (Option.some Jvm.ClassFile.FieldType.int)) ({ frames := 9, cells := 8, slots := 200, locals := 320 }) D HB [.ref x, .int k] h (fun o h2 => an2 D h own x (sp_count V k) o h2) := by
  refine ct_of (by decide) (Nat.le_of_ble_eq_true rfl) rfl ?_
  intro p_ e_ s_ m_ r_ b_ t_ c_ C hnm
  obtain ⟨gl, ul, pl, mo, aq, tr, gA, uA, pA, pn, pe, eB, sf, hO, hGL, hUL, hPL, hM, hN, hT, hG, hU, hB, hP⟩ := id hX
  obtain ⟨h7, h8, h9, h22, w1, w2, w21, w5, w6, w10, w13, w16, w4, wz, wy, wc⟩ := id hW
  refine wk_run C k_PR_count_0 (pc2 := 1) (lv2 := [(0, .ref x), (1, .int k)]) (st2 := [.int k]) rfl ?_
  by_cases hx : k.toInt < 0 ∨ 5 < k.toInt
  ·
    refine wk_tabO C d_PR_count_1 hx (tgt := 82) (by decide) ?_
    have hne : ¬ k = 0 ∧ ¬ k = 1 ∧ ¬ k = 2 ∧ ¬ k = 3 ∧ ¬ k = 4 ∧ ¬ k = 5 := by refine ⟨?_, ?_, ?_, ?_, ?_, ?_⟩ <;> (intro z; subst z; exact absurd hx (by decide))
    refine wk_run C k_PR_count_82 (pc2 := 83) (lv2 := [(0, .ref x), (1, .int k)]) (st2 := [.int (-1)]) rfl ?_
    exact wk_iret C (an_q hX (by clear C hX; grind [sp_count])) (by decide) (by decide) d_PR_count_83
  ·
    rcases nI_inj0 (fun z => hx (Or.inl z)) (fun z => hx (Or.inr z)) with rfl | rfl | rfl | rfl | rfl | rfl
    ·
      refine wk_tabI C d_PR_count_1 (by decide) (by decide) (off := 39) rfl (tgt := 40) (by decide) ?_
      refine wk_run C k_PR_count_40 (pc2 := 41) (lv2 := [(0, .ref x), (1, .int 0)]) (st2 := [.ref x]) rfl ?_
      refine wk_get C fd_PR_12 hO.1 rfl d_PR_count_41 ?_
      obtain ⟨b, hb, -, -⟩ := hGL
      obtain ⟨md, hl, -⟩ := id hb
      refine wk_callV (cl := ("java/util/ArrayList", T_AL, 3)) (rest := []) C (al_size l HB hb) cs_PR_48 kc_AL_size ki_AL hl rfl rfl rfl (Nat.le_of_ble_eq_true rfl) (Nat.le_of_ble_eq_true rfl) (Nat.le_of_ble_eq_true rfl) (Nat.le_of_ble_eq_true rfl) (Nat.le_of_ble_eq_true rfl) d_PR_count_44 (fun v h2 hq => ?_) (fun _ _ z => nomatch z.1)
      obtain ⟨e1, e2⟩ := hq; cases e1; replace e2 := e2.symm; subst e2
      rw [← h7.1]
      exact wk_iret C (an_q hX rfl) (by decide) (by decide) d_PR_count_47
    ·
      refine wk_tabI C d_PR_count_1 (by decide) (by decide) (off := 47) rfl (tgt := 48) (by decide) ?_
      refine wk_run C k_PR_count_48 (pc2 := 49) (lv2 := [(0, .ref x), (1, .int 1)]) (st2 := [.ref x]) rfl ?_
      refine wk_get C fd_PR_16 hO.1 rfl d_PR_count_49 ?_
      obtain ⟨b, hb, -, -⟩ := hUL
      obtain ⟨md, hl, -⟩ := id hb
      refine wk_callV (cl := ("java/util/ArrayList", T_AL, 3)) (rest := []) C (al_size l HB hb) cs_PR_48 kc_AL_size ki_AL hl rfl rfl rfl (Nat.le_of_ble_eq_true rfl) (Nat.le_of_ble_eq_true rfl) (Nat.le_of_ble_eq_true rfl) (Nat.le_of_ble_eq_true rfl) (Nat.le_of_ble_eq_true rfl) d_PR_count_52 (fun v h2 hq => ?_) (fun _ _ z => nomatch z.1)
      obtain ⟨e1, e2⟩ := hq; cases e1; replace e2 := e2.symm; subst e2
      rw [← h8.1]
      exact wk_iret C (an_q hX rfl) (by decide) (by decide) d_PR_count_55
    ·
      refine wk_tabI C d_PR_count_1 (by decide) (by decide) (off := 55) rfl (tgt := 56) (by decide) ?_
      refine wk_run C k_PR_count_56 (pc2 := 57) (lv2 := [(0, .ref x), (1, .int 2)]) (st2 := [.ref x]) rfl ?_
      refine wk_get C fd_PR_19 hO.1 rfl d_PR_count_57 ?_
      obtain ⟨b, hb, -, -⟩ := hPL
      obtain ⟨md, hl, -⟩ := id hb
      refine wk_callV (cl := ("java/util/ArrayList", T_AL, 3)) (rest := []) C (al_size l HB hb) cs_PR_48 kc_AL_size ki_AL hl rfl rfl rfl (Nat.le_of_ble_eq_true rfl) (Nat.le_of_ble_eq_true rfl) (Nat.le_of_ble_eq_true rfl) (Nat.le_of_ble_eq_true rfl) (Nat.le_of_ble_eq_true rfl) d_PR_count_60 (fun v h2 hq => ?_) (fun _ _ z => nomatch z.1)
      obtain ⟨e1, e2⟩ := hq; cases e1; replace e2 := e2.symm; subst e2
      rw [← h9.1]
      exact wk_iret C (an_q hX rfl) (by decide) (by decide) d_PR_count_63
    ·
      refine wk_tabI C d_PR_count_1 (by decide) (by decide) (off := 63) rfl (tgt := 64) (by decide) ?_
      refine wk_run C k_PR_count_64 (pc2 := 65) (lv2 := [(0, .ref x), (1, .int 3)]) (st2 := [.ref x]) rfl ?_
      refine wk_get C fd_PR_36 hO.1 rfl d_PR_count_65 ?_
      obtain ⟨tc, hT1, -⟩ := id hT
      refine wk_get C fd_PR_216 hT1 rfl d_PR_count_68 ?_
      exact wk_iret C (an_q hX rfl) (by decide) (by decide) d_PR_count_71
    ·
      refine wk_tabI C d_PR_count_1 (by decide) (by decide) (off := 71) rfl (tgt := 72) (by decide) ?_
      refine wk_run C k_PR_count_72 (pc2 := 73) (lv2 := [(0, .ref x), (1, .int 4)]) (st2 := [.ref x]) rfl ?_
      obtain ⟨b, hb, -, -⟩ := hUL
      refine wk_callV (cl := ("ProfileRights", T_PR, 7)) (rest := []) C (c_PR_countRevoked l D HB h x gl ul pl mo aq tr (V 23 0) hO.1 own V b gA uA sf hb hU (by have := h8.2; omega)) cs_PR_219 kc_PR_countRevoked ki_PR hO.1 rfl rfl rfl (Nat.le_of_ble_eq_true rfl) (Nat.le_of_ble_eq_true rfl) (Nat.le_of_ble_eq_true rfl) (Nat.le_of_ble_eq_true rfl) (Nat.le_of_ble_eq_true rfl) d_PR_count_73 (fun v h2 hq => ?_) (fun _ _ z => nomatch z.1)
      obtain ⟨e1, e2⟩ := hq; cases e1; replace e2 := e2.symm; subst e2
      exact wk_iret C (an_q hX rfl) (by decide) (by decide) d_PR_count_76
    ·
      refine wk_tabI C d_PR_count_1 (by decide) (by decide) (off := 76) rfl (tgt := 77) (by decide) ?_
      refine wk_run C k_PR_count_77 (pc2 := 78) (lv2 := [(0, .ref x), (1, .int 5)]) (st2 := [.ref x]) rfl ?_
      obtain ⟨b, hb, -, -⟩ := hPL
      refine wk_callV (cl := ("ProfileRights", T_PR, 7)) (rest := []) C (c_PR_countEntries l D HB h x gl ul pl mo aq tr (V 23 0) hO.1 own V b pA pn pe eB hb hP (by have := h9.2; omega) (fun q _ => w16 q)) cs_PR_222 kc_PR_countEntries ki_PR hO.1 rfl rfl rfl (Nat.le_of_ble_eq_true rfl) (Nat.le_of_ble_eq_true rfl) (Nat.le_of_ble_eq_true rfl) (Nat.le_of_ble_eq_true rfl) (Nat.le_of_ble_eq_true rfl) d_PR_count_78 (fun v h2 hq => ?_) (fun _ _ z => nomatch z.1)
      obtain ⟨e1, e2⟩ := hq; cases e1; replace e2 := e2.symm; subst e2
      exact wk_iret C (an_q hX rfl) (by decide) (by decide) d_PR_count_81
theorem k_PR_who_0 : px_dec prog_1_method_18_code [.aload_n 0, .iload_n 1] 0 = true := by decide +kernel
theorem d_PR_who_2 : decode prog_1_method_18_code 2 = .ok (.invokevirtual 117, 3) := by decide +kernel
theorem d_PR_who_5 : decode prog_1_method_18_code 5 = .ok (.getfield 171, 3) := by decide +kernel
theorem k_PR_who_8 : px_dec prog_1_method_18_code [.astore_n 3, .iload_n 2] 8 = true := by decide +kernel
theorem d_PR_who_10 : decode prog_1_method_18_code 10 = .ok (.ifCond .lt 11, 3) := by decide +kernel
theorem k_PR_who_21 : px_dec prog_1_method_18_code [.iconst 0] 21 = true := by decide +kernel
theorem d_PR_who_22 : decode prog_1_method_18_code 22 = .ok (.goto 14, 3) := by decide +kernel
theorem d_PR_who_36 : decode prog_1_method_18_code 36 = .ok (.ireturn, 1) := by decide +kernel
theorem k_PR_who_13 : px_dec prog_1_method_18_code [.iload_n 2, .aload_n 3] 13 = true := by decide +kernel
theorem d_PR_who_15 : decode prog_1_method_18_code 15 = .ok (.invokevirtual 48, 3) := by decide +kernel
theorem d_PR_who_18 : decode prog_1_method_18_code 18 = .ok (.if_icmp .lt 7, 3) := by decide +kernel
theorem k_PR_who_25 : px_dec prog_1_method_18_code [.aload_n 3, .iload_n 2] 25 = true := by decide +kernel
theorem d_PR_who_27 : decode prog_1_method_18_code 27 = .ok (.invokevirtual 201, 3) := by decide +kernel
theorem d_PR_who_30 : decode prog_1_method_18_code 30 = .ok (.checkcast 161, 3) := by decide +kernel
theorem d_PR_who_33 : decode prog_1_method_18_code 33 = .ok (.getfield 205, 3) := by decide +kernel
set_option maxRecDepth 100000 in
set_option maxHeartbeats 4000000 in
theorem o_who (l : Launch) (D : va_G) (HB : Heap) (h : hp_T) (hlt : l.stackTraces = false) (own : oT) (V : vT) (x : Nat) (p : Int32) (i : Int32) (hX : cr D h own x V) (hW : wf V) : ct_M l y_PR_who (.code y_PR_who prog_1_method_18_code 4 (Option.some Jvm.ClassFile.FieldType.int)) ({ frames := 9, cells := 8, slots := 200, locals := 320 }) D HB [.ref x, .int p, .int i] h (fun o h2 => an2 D h own x (sp_who V p i) o h2) := by
  refine ct_of (by decide) (Nat.le_of_ble_eq_true rfl) rfl ?_
  intro p_ e_ s_ m_ r_ b_ t_ c_ C hnm
  obtain ⟨gl, ul, pl, mo, aq, tr, gA, uA, pA, pn, pe, eB, sf, hO, hGL, hUL, hPL, hM, hN, hT, hG, hU, hB, hP⟩ := id hX
  obtain ⟨h7, h8, h9, h22, w1, w2, w21, w5, w6, w10, w13, w16, w4, wz, wy, wc⟩ := id hW
  refine wk_run C k_PR_who_0 (pc2 := 2) (lv2 := [(0, .ref x), (1, .int p), (2, .int i)]) (st2 := [.int p, .ref x]) rfl ?_
  rcases (Classical.em (¬ p < 1 ∧ p ≤ V 9 0)).symm with hp | hp
  ·
    refine wk_callV (cl := ("ProfileRights", T_PR, 7)) (rest := []) C (k_profileN l D HB h own V x gl ul pl mo aq tr (V 23 0) gA uA pA pn pe eB sf hO hPL h9 hlt p hp) cs_PR_117 kc_PR_profileAt ki_PR hO.1 rfl rfl rfl (Nat.le_of_ble_eq_true rfl) (Nat.le_of_ble_eq_true rfl) (Nat.le_of_ble_eq_true rfl) (Nat.le_of_ble_eq_true rfl) (Nat.le_of_ble_eq_true rfl) d_PR_who_2 (fun v h2 hq => ?_) (fun E h2 hq => by obtain ⟨e1, e2⟩ := hq; cases e1; replace e2 := e2.symm; subst e2; exact wx_out C (an_t hX (by clear C hX; grind [sp_who])) (by decide) (by decide))
    exact nomatch hq.1
  refine wk_callV (cl := ("ProfileRights", T_PR, 7)) (rest := []) C (k_profileY l D HB h own V x gl ul pl mo aq tr (V 23 0) gA uA pA pn pe eB sf hO hPL h9 hP p hp) cs_PR_117 kc_PR_profileAt ki_PR hO.1 rfl rfl rfl (Nat.le_of_ble_eq_true rfl) (Nat.le_of_ble_eq_true rfl) (Nat.le_of_ble_eq_true rfl) (Nat.le_of_ble_eq_true rfl) (Nat.le_of_ble_eq_true rfl) d_PR_who_2 (fun v h2 hq => ?_) (fun _ _ z => nomatch z.1)
  obtain ⟨e1, e2⟩ := hq; cases e1; replace e2 := e2.symm; subst e2
  show Wk _ _ _ _ _ _ _ _ _ _ _ _ _ _ _ _ _ _ _ (.ref (pA (nu p)) :: _)
  have khp : 1 ≤ nu p ∧ nu p ≤ nu (V 9 0) := by have z := ok_u (n := nu (V 9 0)) (by rw [← h9.1]; exact hp) (by have := h9.2; omega); exact ⟨z.1, z.2.1⟩
  have qhp := hP (nu p) khp.1 khp.2
  have ohp := qhp.1.1
  refine wk_get C fd_PR_171 ohp rfl d_PR_who_5 ?_
  refine wk_run C k_PR_who_8 (pc2 := 10) (lv2 := [(3, .ref (pe (nu p))), (0, .ref x), (1, .int p), (2, .int i)]) (st2 := [.int i]) rfl ?_
  obtain ⟨b, hb, -, -⟩ := id qhp.2.2.1
  obtain ⟨md, hl, -⟩ := id hb
  refine wk_br C d_PR_who_10 (P := i < 0) (tgt := 21) (rest := []) rfl (by decide) (fun c1 => ?_) (fun c1 => ?_)
  ·
    refine wk_run C k_PR_who_21 (pc2 := 22) (lv2 := [(3, .ref (pe (nu p))), (0, .ref x), (1, .int p), (2, .int i)]) (st2 := [.int 0]) rfl ?_
    refine wk_goto C d_PR_who_22 (tgt := 36) (by decide) ?_
    exact wk_iret C (an_q hX (by clear C hX; grind [sp_who])) (by decide) (by decide) d_PR_who_36
  ·
    refine wk_run C k_PR_who_13 (pc2 := 15) (lv2 := [(3, .ref (pe (nu p))), (0, .ref x), (1, .int p), (2, .int i)]) (st2 := [.ref (pe (nu p)), .int i]) rfl ?_
    refine wk_callV (cl := ("java/util/ArrayList", T_AL, 3)) (rest := [.int i]) C (al_size l HB hb) cs_PR_48 kc_AL_size ki_AL hl rfl rfl rfl (Nat.le_of_ble_eq_true rfl) (Nat.le_of_ble_eq_true rfl) (Nat.le_of_ble_eq_true rfl) (Nat.le_of_ble_eq_true rfl) (Nat.le_of_ble_eq_true rfl) d_PR_who_15 (fun v h2 hq => ?_) (fun _ _ z => nomatch z.1)
    obtain ⟨e1, e2⟩ := hq; cases e1; replace e2 := e2.symm; subst e2
    rw [← (w16 (nu p)).1]
    refine wk_br C d_PR_who_18 (P := i < (V 16 (nu p))) (tgt := 25) (rest := []) rfl (by decide) (fun c2 => ?_) (fun c2 => ?_)
    ·
      refine wk_run C k_PR_who_25 (pc2 := 27) (lv2 := [(3, .ref (pe (nu p))), (0, .ref x), (1, .int p), (2, .int i)]) (st2 := [.int i, .ref (pe (nu p))]) rfl ?_
      have hi : ¬ i < 0 ∧ i < V 16 (nu p) := by clear C hX; grind
      have ki : i = nI (nu i) ∧ nu i < nu (V 16 (nu p)) := by have z := ok_int (w16 (nu p)) (by decide); have z2 := (w16 (nu p)).2; have z3 := ok_lo (n := 9) hi.1 hi.2 (w16 (nu p)) (by decide); have z4 := ok_int z3 (by decide); have z5 := hi.2; rw [Int32.lt_iff_toInt_lt, z, z4] at z5; exact ⟨z3.1, by omega⟩
      rw [ki.1]
      refine wk_callV (cl := ("java/util/ArrayList", T_AL, 3)) (rest := []) C (al_get (j := nu i) l HB hb ki.2) cs_PR_201 kc_AL_get ki_AL hl rfl rfl rfl (Nat.le_of_ble_eq_true rfl) (Nat.le_of_ble_eq_true rfl) (Nat.le_of_ble_eq_true rfl) (Nat.le_of_ble_eq_true rfl) (Nat.le_of_ble_eq_true rfl) d_PR_who_27 (fun v h2 hq => ?_) (fun _ _ z => nomatch z.1)
      obtain ⟨e1, e2⟩ := hq; cases e1; replace e2 := e2.symm; subst e2
      refine wk_cast C (qhp.2.2.2.1 (nu i) ki.2) rfl cl_PR_161 d_PR_who_30 ?_
      refine wk_get C fd_PR_205 (qhp.2.2.2.1 (nu i) ki.2) rfl d_PR_who_33 ?_
      exact wk_iret C (an_q hX (by clear C hX; grind [sp_who])) (by decide) (by decide) d_PR_who_36
    ·
      refine wk_run C k_PR_who_21 (pc2 := 22) (lv2 := [(3, .ref (pe (nu p))), (0, .ref x), (1, .int p), (2, .int i)]) (st2 := [.int 0]) rfl ?_
      refine wk_goto C d_PR_who_22 (tgt := 36) (by decide) ?_
      exact wk_iret C (an_q hX (by clear C hX; grind [sp_who])) (by decide) (by decide) d_PR_who_36
