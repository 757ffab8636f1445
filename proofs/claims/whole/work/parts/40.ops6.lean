theorem an_n {V : vT} {u c a r p : Int32} : an_ V u c a r p 0 = vc (vc V 23 p) 22 0 := if_pos rfl
theorem an_w {V : vT} {u c a r p : Int32} (hR : ok_ (V 25 0) 1000000) : an_ V u c a r p 1 22 0 = 0 ∧ an_ V u c a r p 1 23 0 = p ∧ an_ V u c a r p 1 24 = (if nu (if V 25 0 < 200 then V 25 0 else 200) < 200 then tw_ (V 24) (nu (if V 25 0 < 200 then V 25 0 else 200)) u c a r p else V 24) ∧ an_ V u c a r p 1 25 0 = V 25 0 + 1 ∧ ∀ j, j ≠ 22 → j ≠ 23 → j ≠ 24 → j ≠ 25 → an_ V u c a r p 1 j = V j := by
  have k := ok_kp hR
  have e := ok_int hR (by decide)
  have e2 : (200 : Int32).toInt = 200 := by decide
  by_cases z : 200 ≤ V 25 0
  · have z2 : ¬ nu (V 25 0) < 200 := by rw [Int32.le_iff_toInt_le, e, e2] at z; omega
    have ea : an_ V u c a r p 1 = vc (vc (vc V 23 p) 22 0) 25 (V 25 0 + 1) := by unfold an_; rw [if_neg (by decide), if_pos z]
    rw [ea, k.2, if_neg z2, if_neg (by decide)]
    exact ⟨rfl, rfl, rfl, rfl, fun j h1 h2 h3 h4 => (vs_n h4).trans ((vs_n h1).trans (vs_n h2))⟩
  · have z2 : nu (V 25 0) < 200 := by rw [Int32.le_iff_toInt_le, e, e2] at z; omega
    have ea : an_ V u c a r p 1 = vc (vs (vs (vs (vs (vs (vc (vc V 23 p) 22 0) 24 (upd (V 24) (5 * nu (V 25 0)) u)) 24 (upd (upd (V 24) (5 * nu (V 25 0)) u) (5 * nu (V 25 0) + 1) c)) 24 (upd (upd (upd (V 24) (5 * nu (V 25 0)) u) (5 * nu (V 25 0) + 1) c) (5 * nu (V 25 0) + 2) a)) 24 (upd (upd (upd (upd (V 24) (5 * nu (V 25 0)) u) (5 * nu (V 25 0) + 1) c) (5 * nu (V 25 0) + 2) a) (5 * nu (V 25 0) + 3) r)) 24 (tw_ (V 24) (nu (V 25 0)) u c a r p)) 25 (V 25 0 + 1) := by unfold an_; rw [if_neg (by decide), if_neg z]; rfl
    rw [ea, k.2, if_pos z2, if_pos z2]
    exact ⟨rfl, rfl, rfl, rfl, fun j h1 h2 h3 h4 => (vs_n h4).trans ((vs_n h3).trans ((vs_n h3).trans ((vs_n h3).trans ((vs_n h3).trans ((vs_n h3).trans ((vs_n h1).trans (vs_n h2)))))))⟩
theorem kp_s {x : Int32} (hR : ok_ x 1000000) : (if nu (if x < 200 then x else 200) < 200 then nI (nu (if x < 200 then x else 200)) + 1 else nI (nu (if x < 200 then x else 200))) = if x + 1 < 200 then x + 1 else 200 := by
  have h2 := hR.2
  have e := ok_int hR (by decide)
  have e2 : (200 : Int32).toInt = 200 := by decide
  have e3 : x + 1 = nI (nu x + 1) := by rw [hR.1, nI_1, ← hR.1]
  have e4 : (x + 1).toInt = (nu x + 1 : Nat) := by rw [e3, nI_toInt (by omega)]
  rw [(ok_kp hR).2]
  by_cases z : nu x < 200
  · rw [if_pos z, if_pos z, nI_1, ← e3]
    by_cases z2 : nu x + 1 < 200
    · rw [if_pos (by rw [Int32.lt_iff_toInt_lt, e4, e2]; omega)]
    · rw [if_neg (by rw [Int32.lt_iff_toInt_lt, e4, e2]; omega), e3, show nu x + 1 = 200 by omega]; rfl
  · rw [if_neg z, if_neg (by decide), if_neg (by rw [Int32.lt_iff_toInt_lt, e4, e2]; omega)]; rfl
theorem k_PR_may_0 : px_dec prog_1_method_15_code [.aload_n 0, .iload_n 1] 0 = true := by decide +kernel
theorem d_PR_may_2 : decode prog_1_method_15_code 2 = .ok (.invokevirtual 84, 3) := by decide +kernel
theorem k_PR_may_5 : px_dec prog_1_method_15_code [.astore 6, .iload_n 2] 5 = true := by decide +kernel
theorem d_PR_may_8 : decode prog_1_method_15_code 8 = .ok (.invokestatic 102, 3) := by decide +kernel
theorem k_PR_may_11 : px_dec prog_1_method_15_code [.iload_n 3, .iconst 1] 11 = true := by decide +kernel
theorem d_PR_may_13 : decode prog_1_method_15_code 13 = .ok (.invokestatic 142, 3) := by decide +kernel
theorem k_PR_may_16 : px_dec prog_1_method_15_code [.lload 4, .lconst 0] 16 = true := by decide +kernel
theorem d_PR_may_19 : decode prog_1_method_15_code 19 = .ok (.lcmp, 1) := by decide +kernel
theorem d_PR_may_20 : decode prog_1_method_15_code 20 = .ok (.ifCond .ge 13, 3) := by decide +kernel
theorem k_PR_may_33 : px_dec prog_1_method_15_code [.lload 4] 33 = true := by decide +kernel
theorem d_PR_may_35 : decode prog_1_method_15_code 35 = .ok (.ldc2_w 185, 3) := by decide +kernel
theorem d_PR_may_38 : decode prog_1_method_15_code 38 = .ok (.ldiv, 1) := by decide +kernel
theorem d_PR_may_39 : decode prog_1_method_15_code 39 = .ok (.ldc2_w 187, 3) := by decide +kernel
theorem d_PR_may_42 : decode prog_1_method_15_code 42 = .ok (.lrem, 1) := by decide +kernel
theorem k_PR_may_43 : px_dec prog_1_method_15_code [.l2i, .istore 7, .aload_n 0, .aload 6, .iload_n 2, .iload_n 3, .iload 7] 43 = true := by decide +kernel
theorem d_PR_may_53 : decode prog_1_method_15_code 53 = .ok (.invokevirtual 189, 3) := by decide +kernel
theorem k_PR_may_56 : px_dec prog_1_method_15_code [.istore 8, .iload 8, .iconst 3] 56 = true := by decide +kernel
theorem d_PR_may_61 : decode prog_1_method_15_code 61 = .ok (.if_icmp .ne 7, 3) := by decide +kernel
theorem k_PR_may_68 : px_dec prog_1_method_15_code [.iload 8, .istore 9, .iload 8, .iconst 1] 68 = true := by decide +kernel
theorem d_PR_may_75 : decode prog_1_method_15_code 75 = .ok (.if_icmp .eq 19, 3) := by decide +kernel
theorem k_PR_may_94 : px_dec prog_1_method_15_code [.aload_n 0] 94 = true := by decide +kernel
theorem d_PR_may_95 : decode prog_1_method_15_code 95 = .ok (.getfield 29, 3) := by decide +kernel
theorem d_PR_may_98 : decode prog_1_method_15_code 98 = .ok (.invokevirtual 180, 3) := by decide +kernel
theorem k_PR_may_101 : px_dec prog_1_method_15_code [.iload 9] 101 = true := by decide +kernel
theorem d_PR_may_103 : decode prog_1_method_15_code 103 = .ok (.ireturn, 1) := by decide +kernel
theorem k_PR_may_78 : px_dec prog_1_method_15_code [.aload_n 0] 78 = true := by decide +kernel
theorem d_PR_may_79 : decode prog_1_method_15_code 79 = .ok (.getfield 36, 3) := by decide +kernel
theorem k_PR_may_82 : px_dec prog_1_method_15_code [.iload_n 1, .iload_n 2, .iload_n 3, .iload 9, .aload_n 0] 82 = true := by decide +kernel
theorem d_PR_may_88 : decode prog_1_method_15_code 88 = .ok (.getfield 40, 3) := by decide +kernel
theorem d_PR_may_91 : decode prog_1_method_15_code 91 = .ok (.invokevirtual 193, 3) := by decide +kernel
theorem k_PR_may_64 : px_dec prog_1_method_15_code [.iconst 1] 64 = true := by decide +kernel
theorem d_PR_may_65 : decode prog_1_method_15_code 65 = .ok (.goto 5, 3) := by decide +kernel
theorem k_PR_may_70 : px_dec prog_1_method_15_code [.istore 9, .iload 8, .iconst 1] 70 = true := by decide +kernel
theorem d_PR_may_23 : decode prog_1_method_15_code 23 = .ok (.new 105, 3) := by decide +kernel
theorem d_PR_may_26 : decode prog_1_method_15_code 26 = .ok (.dup, 1) := by decide +kernel
theorem d_PR_may_27 : decode prog_1_method_15_code 27 = .ok (.ldc 183, 2) := by decide +kernel
theorem d_PR_may_29 : decode prog_1_method_15_code 29 = .ok (.invokespecial 109, 3) := by decide +kernel
theorem d_PR_may_32 : decode prog_1_method_15_code 32 = .ok (.athrow, 1) := by decide +kernel
set_option maxRecDepth 100000 in
set_option maxHeartbeats 4000000 in
theorem o_may (l : Launch) (D : va_G) (HB : Heap) (h : hp_T) (hlt : l.stackTraces = false) (own : oT) (V : vT) (x : Nat) (u : Int32) (c : Int32) (a : Int32) (t : Int64) (hX : cr D h own x V) (hW : wf V) (hR : ok_ (V 25 0) 1000000) : ct_M l y_PR_may (.code y_PR_may prog_1_method_15_code 10 (Option.some Jvm.ClassFile.FieldType.int)) ({ frames := 9, cells := 8, slots := 200, locals := 320 }) D HB [.ref x, .int u, .int c, .int a, .long t] h (fun o h2 => an2 D h own x (sp_may V u c a t) o h2) := by
  refine ct_of (by decide) (Nat.le_of_ble_eq_true rfl) rfl ?_
  intro p_ e_ s_ m_ r_ b_ t_ c_ C hnm
  obtain ⟨gl, ul, pl, mo, aq, tr, gA, uA, pA, pn, pe, eB, sf, hO, hGL, hUL, hPL, hM, hN, hT, hG, hU, hB, hP⟩ := id hX
  obtain ⟨h7, h8, h9, h22, w1, w2, w21, w5, w6, w10, w13, w16, w4, wz, wy, wc⟩ := id hW
  refine wk_run C k_PR_may_0 (pc2 := 2) (lv2 := [(0, .ref x), (1, .int u), (2, .int c), (3, .int a), (4, .long t)]) (st2 := [.int u, .ref x]) rfl ?_
  rcases (Classical.em (¬ u < 1 ∧ u ≤ V 8 0)).symm with hu | hu
  ·
    refine wk_callV (cl := ("ProfileRights", T_PR, 7)) (rest := []) C (k_userN l D HB h own V x gl ul pl mo aq tr (V 23 0) gA uA pA pn pe eB sf hO hUL h8 hlt u hu) cs_PR_84 kc_PR_userAt ki_PR hO.1 rfl rfl rfl (Nat.le_of_ble_eq_true rfl) (Nat.le_of_ble_eq_true rfl) (Nat.le_of_ble_eq_true rfl) (Nat.le_of_ble_eq_true rfl) (Nat.le_of_ble_eq_true rfl) d_PR_may_2 (fun v h2 hq => ?_) (fun E h2 hq => by obtain ⟨e1, e2⟩ := hq; cases e1; replace e2 := e2.symm; subst e2; exact wx_out C (an_t hX (by clear C hX; grind [sp_may])) (by decide) (by decide))
    exact nomatch hq.1
  refine wk_callV (cl := ("ProfileRights", T_PR, 7)) (rest := []) C (k_userY l D HB h own V x gl ul pl mo aq tr (V 23 0) gA uA pA pn pe eB sf hO hUL h8 hU u hu) cs_PR_84 kc_PR_userAt ki_PR hO.1 rfl rfl rfl (Nat.le_of_ble_eq_true rfl) (Nat.le_of_ble_eq_true rfl) (Nat.le_of_ble_eq_true rfl) (Nat.le_of_ble_eq_true rfl) (Nat.le_of_ble_eq_true rfl) d_PR_may_2 (fun v h2 hq => ?_) (fun _ _ z => nomatch z.1)
  obtain ⟨e1, e2⟩ := hq; cases e1; replace e2 := e2.symm; subst e2
  show Wk _ _ _ _ _ _ _ _ _ _ _ _ _ _ _ _ _ _ _ (.ref (uA (nu u)) :: _)
  have khu : 1 ≤ nu u ∧ nu u ≤ nu (V 8 0) := by have z := ok_u (n := nu (V 8 0)) (by rw [← h8.1]; exact hu) (by have := h8.2; omega); exact ⟨z.1, z.2.1⟩
  have ohu := (hU (nu u) khu.1 khu.2).1
  refine wk_run C k_PR_may_5 (pc2 := 8) (lv2 := [(6, .ref (uA (nu u))), (0, .ref x), (1, .int u), (2, .int c), (3, .int a), (4, .long t)]) (st2 := [.int c]) rfl ?_
  rcases (Classical.em (¬ (c < 0 ∨ 8 ≤ c))).symm with hc | hc
  ·
    refine wk_callS (rest := []) C (k_testClassN l D HB h hlt c (Classical.not_not.mp hc)) cs_PR_102 kc_PR_testClass ki_PR rfl rfl (Nat.le_of_ble_eq_true rfl) (Nat.le_of_ble_eq_true rfl) (Nat.le_of_ble_eq_true rfl) (Nat.le_of_ble_eq_true rfl) (Nat.le_of_ble_eq_true rfl) d_PR_may_8 (fun v h2 hq => ?_) (fun E h2 hq => by obtain ⟨e1, e2⟩ := hq; cases e1; replace e2 := e2.symm; subst e2; exact wx_out C (an_t hX (by clear C hX; grind [sp_may])) (by decide) (by decide))
    exact nomatch hq.1
  refine wk_callS (rest := []) C (k_testClassY l D HB h hlt c hc) cs_PR_102 kc_PR_testClass ki_PR rfl rfl (Nat.le_of_ble_eq_true rfl) (Nat.le_of_ble_eq_true rfl) (Nat.le_of_ble_eq_true rfl) (Nat.le_of_ble_eq_true rfl) (Nat.le_of_ble_eq_true rfl) d_PR_may_8 (fun v h2 hq => ?_) (fun _ _ z => nomatch z.1)
  obtain ⟨e1, e2⟩ := hq; cases e1; replace e2 := e2.symm; subst e2
  refine wk_run C k_PR_may_11 (pc2 := 13) (lv2 := [(6, .ref (uA (nu u))), (0, .ref x), (1, .int u), (2, .int c), (3, .int a), (4, .long t)]) (st2 := [.int 1, .int a]) rfl ?_
  rcases (Classical.em (¬ (a < 1 ∨ ¬ a ≤ 4))).symm with ha | ha
  ·
    refine wk_callS (rest := []) C (k_testLevelN l D HB h hlt a 1 (Classical.not_not.mp ha)) cs_PR_142 kc_PR_testLevel ki_PR rfl rfl (Nat.le_of_ble_eq_true rfl) (Nat.le_of_ble_eq_true rfl) (Nat.le_of_ble_eq_true rfl) (Nat.le_of_ble_eq_true rfl) (Nat.le_of_ble_eq_true rfl) d_PR_may_13 (fun v h2 hq => ?_) (fun E h2 hq => by obtain ⟨e1, e2⟩ := hq; cases e1; replace e2 := e2.symm; subst e2; exact wx_out C (an_t hX (by clear C hX; grind [sp_may])) (by decide) (by decide))
    exact nomatch hq.1
  refine wk_callS (rest := []) C (k_testLevelY l D HB h hlt a 1 ha) cs_PR_142 kc_PR_testLevel ki_PR rfl rfl (Nat.le_of_ble_eq_true rfl) (Nat.le_of_ble_eq_true rfl) (Nat.le_of_ble_eq_true rfl) (Nat.le_of_ble_eq_true rfl) (Nat.le_of_ble_eq_true rfl) d_PR_may_13 (fun v h2 hq => ?_) (fun _ _ z => nomatch z.1)
  obtain ⟨e1, e2⟩ := hq; cases e1; replace e2 := e2.symm; subst e2
  refine wk_run C k_PR_may_16 (pc2 := 19) (lv2 := [(6, .ref (uA (nu u))), (0, .ref x), (1, .int u), (2, .int c), (3, .int a), (4, .long t)]) (st2 := [.long 0, .long t]) rfl ?_
  refine wk_lcmp C d_PR_may_19 ?_
  refine wk_br C d_PR_may_20 (P := 0 ≤ (lg_cmp t 0)) (tgt := 33) (rest := []) rfl (by decide) (fun c1 => ?_) (fun c1 => ?_)
  ·
    refine wk_run C k_PR_may_33 (pc2 := 35) (lv2 := [(6, .ref (uA (nu u))), (0, .ref x), (1, .int u), (2, .int c), (3, .int a), (4, .long t)]) (st2 := [.long t]) rfl ?_
    refine wk_ldc2 C kl_PR_185 d_PR_may_35 ?_
    refine wk_ldiv C d_PR_may_38 (by decide) ?_
    refine wk_ldc2 C kl_PR_187 d_PR_may_39 ?_
    refine wk_lrem C d_PR_may_42 (by decide) ?_
    refine wk_run C k_PR_may_43 (pc2 := 53) (lv2 := [(7, .int ((t / 60) - (t / 60) / 24 * 24).toInt32), (6, .ref (uA (nu u))), (0, .ref x), (1, .int u), (2, .int c), (3, .int a), (4, .long t)]) (st2 := [.int ((t / 60) - (t / 60) / 24 * 24).toInt32, .int a, .int c, .ref (uA (nu u)), .ref x]) rfl ?_
    have hc2 : ¬ c < 0 ∧ c < 8 := by clear C hX; grind
    have hcond : (¬ u < 1 ∧ u ≤ V 8 0) ∧ (¬ c < 0 ∧ c < 8) ∧ (¬ a < 1 ∧ ¬ 4 < a) ∧ 0 ≤ lg_cmp t 0 := by clear C hX; grind
    have a0 : ¬ a = 0 := fun z => by rw [z] at ha; exact ha (Or.inl (by decide))
    have eM := dv_may (a := a) (t := t) hcond (w10 (nu c))
    refine wk_callV (cl := ("ProfileRights", T_PR, 7)) (rest := []) C (c_PR_decide l D HB h own V x gl ul pl mo aq tr (V 23 0) gA uA pA pn pe eB sf (nu u) c a t hO hPL hM hN hG hU hP h9.2 h7.2 (fun j _ _ => w1 j) (w2 (nu u)) (w21 (nu u) khu.1 khu.2) (wc _) (fun q _ => (w16 q).2) khu hc2 a0) cs_PR_189 kc_PR_decide ki_PR hO.1 rfl rfl rfl (Nat.le_of_ble_eq_true rfl) (Nat.le_of_ble_eq_true rfl) (Nat.le_of_ble_eq_true rfl) (Nat.le_of_ble_eq_true rfl) (Nat.le_of_ble_eq_true rfl) d_PR_may_53 (fun v h2 hq => ?_) (fun _ _ z => nomatch z.1)
    obtain ⟨e1, e2⟩ := hq; cases e1; replace e2 := e2.symm; subst e2
    obtain ⟨d, hd⟩ : ∃ d, d = dv_ V (nu u) c a t := ⟨_, rfl⟩
    rw [← hd] at eM ⊢
    refine wk_run C k_PR_may_56 (pc2 := 61) (lv2 := [(8, .int d.1), (7, .int ((t / 60) - (t / 60) / 24 * 24).toInt32), (6, .ref (uA (nu u))), (0, .ref x), (1, .int u), (2, .int c), (3, .int a), (4, .long t)]) (st2 := [.int 3, .int d.1]) rfl ?_
    have s1 : st_ [1] h own (hp_up h x (.inr (0, [.ref gl, .ref ul, .ref pl, .ref mo, .ref aq, .ref tr, .int (nI d.2)]))) own := st_u (t := 1) (by rw [hO.2]) (by decide)
    have hN1 := cN_m hN s1 (by decide) (by decide)
    have hT1 := cT_m hT s1 (by decide) (by decide)
    refine wk_br C d_PR_may_61 (P := ¬ d.1 = 3) (tgt := 68) (rest := []) rfl (by decide) (fun c2 => ?_) (fun c2 => ?_)
    ·
      refine wk_run C k_PR_may_68 (pc2 := 75) (lv2 := [(9, .int d.1), (8, .int d.1), (7, .int ((t / 60) - (t / 60) / 24 * 24).toInt32), (6, .ref (uA (nu u))), (0, .ref x), (1, .int u), (2, .int c), (3, .int a), (4, .long t)]) (st2 := [.int 1, .int d.1]) rfl ?_
      refine wk_br C d_PR_may_75 (P := d.1 = 1) (tgt := 94) (rest := []) rfl (by decide) (fun c3 => ?_) (fun c3 => ?_)
      ·
        have hN2 := hN1
        obtain ⟨cc, hn0, on1, on2⟩ := id hN2
        refine wk_run C k_PR_may_94 (pc2 := 95) (lv2 := [(9, .int d.1), (8, .int d.1), (7, .int ((t / 60) - (t / 60) / 24 * 24).toInt32), (6, .ref (uA (nu u))), (0, .ref x), (1, .int u), (2, .int c), (3, .int a), (4, .long t)]) (st2 := [.ref x]) rfl ?_
        refine wk_get C fd_PR_29 hp_us rfl d_PR_may_95 ?_
        refine wk_callV (cl := ("ProfileRights$Name", T_NM, 4)) (rest := []) C (c_NM_clear l D HB _ aq cc _ _ _ hn0.1) cs_PR_180 kc_NM_clear ki_NM hn0.1 rfl rfl rfl (Nat.le_of_ble_eq_true rfl) (Nat.le_of_ble_eq_true rfl) (Nat.le_of_ble_eq_true rfl) (Nat.le_of_ble_eq_true rfl) (Nat.le_of_ble_eq_true rfl) d_PR_may_98 (fun v h3 hq => ?_) (fun _ _ z => nomatch z.1)
        obtain ⟨e1, e2⟩ := hq; cases e1; replace e2 := e2.symm; subst e2
        refine wk_run C k_PR_may_101 (pc2 := 103) (lv2 := [(9, .int d.1), (8, .int d.1), (7, .int ((t / 60) - (t / 60) / 24 * 24).toInt32), (6, .ref (uA (nu u))), (0, .ref x), (1, .int u), (2, .int c), (3, .int a), (4, .long t)]) (st2 := [.int d.1]) rfl ?_
        have s3 : st_ [5] (hp_up h x (.inr (0, [.ref gl, .ref ul, .ref pl, .ref mo, .ref aq, .ref tr, .int (nI d.2)]))) own (hp_up (hp_up h x (.inr (0, [.ref gl, .ref ul, .ref pl, .ref mo, .ref aq, .ref tr, .int (nI d.2)]))) aq (.inr (3, [.ref cc, .int 0, .int 0, .int 0]))) own := st_u (t := 5) (by rw [on1]) (by decide)
        have s : st_ [1, 5] h own (hp_up (hp_up h x (.inr (0, [.ref gl, .ref ul, .ref pl, .ref mo, .ref aq, .ref tr, .int (nI d.2)]))) aq (.inr (3, [.ref cc, .int 0, .int 0, .int 0]))) own := st_t (st_w s1 (by decide)) (st_w s3 (by decide))
        have hr : sp_may V u c a t = (0, d.1, an_ (vc V 0 0) u c a d.1 (nI d.2) 0) := by rw [eM]; rw [if_neg c2, if_pos c3]
        rw [an_n] at hr
        have x3 := (s3 x _ hp_us (by rw [hO.2]; simp)).1
        exact wk_iret C (an_o (V2 := vc (vc (vc V 0 0) 23 (nI d.2)) 22 0) ⟨gl, ul, pl, mo, aq, tr, gA, uA, pA, pn, pe, eB, sf, ⟨x3, hO.2⟩, cL_m hGL s (by decide) (by decide), cL_m hUL s (by decide) (by decide), cL_m hPL s (by decide) (by decide), cM_m hM s (by decide), cN_0 hn0 on1 on2, cT_m hT s (by decide) (by decide), cG_m hG s (by decide), cU_m hU s (by decide), hB, cP_m hP s (by decide) (by decide) (by decide) (by decide) (by decide) (by decide)⟩ (st_so s (by decide)) hr) (by decide) (by decide) d_PR_may_103
      ·
        obtain ⟨tc, q1, q2, q3, q4⟩ := hT1
        rw [(ok_kp hR).1.1] at q1
        refine wk_run C k_PR_may_78 (pc2 := 79) (lv2 := [(9, .int d.1), (8, .int d.1), (7, .int ((t / 60) - (t / 60) / 24 * 24).toInt32), (6, .ref (uA (nu u))), (0, .ref x), (1, .int u), (2, .int c), (3, .int a), (4, .long t)]) (st2 := [.ref x]) rfl ?_
        refine wk_get C fd_PR_36 hp_us rfl d_PR_may_79 ?_
        refine wk_run C k_PR_may_82 (pc2 := 88) (lv2 := [(9, .int d.1), (8, .int d.1), (7, .int ((t / 60) - (t / 60) / 24 * 24).toInt32), (6, .ref (uA (nu u))), (0, .ref x), (1, .int u), (2, .int c), (3, .int a), (4, .long t)]) (st2 := [.ref x, .int d.1, .int a, .int c, .int u, .ref tr]) rfl ?_
        refine wk_get C fd_PR_40 hp_us rfl d_PR_may_88 ?_
        refine wk_callV (cl := ("ProfileRights$Trail", T_TR, 3)) (rest := []) C (c_TR_write l D HB _ tr tc (nu (if V 25 0 < 200 then V 25 0 else 200)) (V 25 0) u c a d.1 (nI d.2) (V 24) q1 q3 (ok_kp hR).1.2) cs_PR_193 kc_TR_write ki_TR q1 rfl rfl rfl (Nat.le_of_ble_eq_true rfl) (Nat.le_of_ble_eq_true rfl) (Nat.le_of_ble_eq_true rfl) (Nat.le_of_ble_eq_true rfl) (Nat.le_of_ble_eq_true rfl) d_PR_may_91 (fun v h2 hq => ?_) (fun _ _ z => nomatch z.1)
        obtain ⟨e1, q5, q6, q7⟩ := hq; cases e1
        have s2 : st_ [7, 107] (hp_up h x (.inr (0, [.ref gl, .ref ul, .ref pl, .ref mo, .ref aq, .ref tr, .int (nI d.2)]))) own h2 own := fun q z hz hq => ⟨by rw [q7 q (fun y => hq (by rw [y, q2]; simp)) (fun y => hq (by rw [y, q4]; simp))]; exact hz, rfl⟩
        have x2 : h2 x = some (.inr (0, [.ref gl, .ref ul, .ref pl, .ref mo, .ref aq, .ref tr, .int (nI d.2)])) := (s2 x _ hp_us (by rw [hO.2]; simp)).1
        have hN2 := cN_m hN1 s2 (by decide) (by decide)
        obtain ⟨cc, hn0, on1, on2⟩ := id hN2
        refine wk_run C k_PR_may_94 (pc2 := 95) (lv2 := [(9, .int d.1), (8, .int d.1), (7, .int ((t / 60) - (t / 60) / 24 * 24).toInt32), (6, .ref (uA (nu u))), (0, .ref x), (1, .int u), (2, .int c), (3, .int a), (4, .long t)]) (st2 := [.ref x]) rfl ?_
        refine wk_get C fd_PR_29 x2 rfl d_PR_may_95 ?_
        refine wk_callV (cl := ("ProfileRights$Name", T_NM, 4)) (rest := []) C (c_NM_clear l D HB _ aq cc _ _ _ hn0.1) cs_PR_180 kc_NM_clear ki_NM hn0.1 rfl rfl rfl (Nat.le_of_ble_eq_true rfl) (Nat.le_of_ble_eq_true rfl) (Nat.le_of_ble_eq_true rfl) (Nat.le_of_ble_eq_true rfl) (Nat.le_of_ble_eq_true rfl) d_PR_may_98 (fun v h3 hq => ?_) (fun _ _ z => nomatch z.1)
        obtain ⟨e1, e2⟩ := hq; cases e1; replace e2 := e2.symm; subst e2
        refine wk_run C k_PR_may_101 (pc2 := 103) (lv2 := [(9, .int d.1), (8, .int d.1), (7, .int ((t / 60) - (t / 60) / 24 * 24).toInt32), (6, .ref (uA (nu u))), (0, .ref x), (1, .int u), (2, .int c), (3, .int a), (4, .long t)]) (st2 := [.int d.1]) rfl ?_
        have s3 : st_ [5] h2 own (hp_up h2 aq (.inr (3, [.ref cc, .int 0, .int 0, .int 0]))) own := st_u (t := 5) (by rw [on1]) (by decide)
        have s : st_ [1, 5, 7, 107] h own (hp_up h2 aq (.inr (3, [.ref cc, .int 0, .int 0, .int 0]))) own := st_t (st_w s1 (by decide)) (st_t (st_w s2 (by decide)) (st_w s3 (by decide)))
        have hr : sp_may V u c a t = (0, d.1, an_ (vc V 0 0) u c a d.1 (nI d.2) 1) := by rw [eM]; rw [if_neg c2, if_neg c3]
        have aw := an_w (V := vc V 0 0) (u := u) (c := c) (a := a) (r := d.1) (p := nI d.2) hR
        obtain ⟨V2, hV2⟩ : ∃ V2 : vT, V2 = an_ (vc V 0 0) u c a d.1 (nI d.2) 1 := ⟨_, rfl⟩
        rw [← hV2] at aw hr
        have aw25 : V2 25 0 = V 25 0 + 1 := aw.2.2.2.1
        have aw24 : V2 24 = (if nu (if V 25 0 < 200 then V 25 0 else 200) < 200 then tw_ (V 24) (nu (if V 25 0 < 200 then V 25 0 else 200)) u c a d.1 (nI d.2) else V 24) := aw.2.2.1
        have x3 := (s3 x _ x2 (by rw [hO.2]; simp)).1
        have hT3 : cT D (hp_up h2 aq (.inr (3, [.ref cc, .int 0, .int 0, .int 0]))) own tr V2 := ⟨tc, by rw [aw25, ← kp_s hR]; exact (s3 tr _ q5 (by rw [q2]; simp)).1, q2, by rw [aw24]; exact (s3 tc _ q6 (by rw [q4]; simp)).1, q4⟩
        have hN3 : cN D (hp_up h2 aq (.inr (3, [.ref cc, .int 0, .int 0, .int 0]))) own 5 0 aq (nu (V2 22 0)) (V2 21) := by rw [aw.1]; exact cN_0 hn0 on1 on2
        have hO3 : cO (hp_up h2 aq (.inr (3, [.ref cc, .int 0, .int 0, .int 0]))) own x gl ul pl mo aq tr (V2 23 0) := ⟨by rw [aw.2.1]; exact x3, hO.2⟩
        have hk : cr D (hp_up h2 aq (.inr (3, [.ref cc, .int 0, .int 0, .int 0]))) own x (vs (vs (vs (vs V 22 (V2 22)) 23 (V2 23)) 24 (V2 24)) 25 (V2 25)) := ⟨gl, ul, pl, mo, aq, tr, gA, uA, pA, pn, pe, eB, sf, hO3, cL_m hGL s (by decide) (by decide), cL_m hUL s (by decide) (by decide), cL_m hPL s (by decide) (by decide), cM_m hM s (by decide), (by rw [aw.2.2.2.2 21 (by decide) (by decide) (by decide) (by decide)] at hN3; exact hN3), hT3, cG_m hG s (by decide), cU_m hU s (by decide), hB, cP_m hP s (by decide) (by decide) (by decide) (by decide) (by decide) (by decide)⟩
        have hk2 : cr D (hp_up h2 aq (.inr (3, [.ref cc, .int 0, .int 0, .int 0]))) own x V2 := cr_e hk (fun j h1 h26 => by by_cases r1 : j = 25; rw [r1]; rfl; by_cases r2 : j = 24; rw [r2]; rfl; by_cases r3 : j = 23; rw [r3]; rfl; by_cases r4 : j = 22; rw [r4]; rfl; rw [vs_n r1, vs_n r2, vs_n r3, vs_n r4, aw.2.2.2.2 j r4 r3 r2 r1]; exact vs_n h1)
        exact wk_iret C (an_o hk2 (st_so s (by decide)) hr) (by decide) (by decide) d_PR_may_103
    ·
      replace c2 : d.1 = 3 := Classical.not_not.mp c2
      refine wk_run C k_PR_may_64 (pc2 := 65) (lv2 := [(8, .int d.1), (7, .int ((t / 60) - (t / 60) / 24 * 24).toInt32), (6, .ref (uA (nu u))), (0, .ref x), (1, .int u), (2, .int c), (3, .int a), (4, .long t)]) (st2 := [.int 1]) rfl ?_
      refine wk_goto C d_PR_may_65 (tgt := 70) (by decide) ?_
      refine wk_run C k_PR_may_70 (pc2 := 75) (lv2 := [(9, .int 1), (8, .int d.1), (7, .int ((t / 60) - (t / 60) / 24 * 24).toInt32), (6, .ref (uA (nu u))), (0, .ref x), (1, .int u), (2, .int c), (3, .int a), (4, .long t)]) (st2 := [.int 1, .int d.1]) rfl ?_
      refine wk_br C d_PR_may_75 (P := d.1 = 1) (tgt := 94) (rest := []) rfl (by decide) (fun c3 => ?_) (fun c3 => ?_)
      ·
        exact absurd (c2.symm.trans c3) (by decide)
      ·
        obtain ⟨tc, q1, q2, q3, q4⟩ := hT1
        rw [(ok_kp hR).1.1] at q1
        refine wk_run C k_PR_may_78 (pc2 := 79) (lv2 := [(9, .int 1), (8, .int d.1), (7, .int ((t / 60) - (t / 60) / 24 * 24).toInt32), (6, .ref (uA (nu u))), (0, .ref x), (1, .int u), (2, .int c), (3, .int a), (4, .long t)]) (st2 := [.ref x]) rfl ?_
        refine wk_get C fd_PR_36 hp_us rfl d_PR_may_79 ?_
        refine wk_run C k_PR_may_82 (pc2 := 88) (lv2 := [(9, .int 1), (8, .int d.1), (7, .int ((t / 60) - (t / 60) / 24 * 24).toInt32), (6, .ref (uA (nu u))), (0, .ref x), (1, .int u), (2, .int c), (3, .int a), (4, .long t)]) (st2 := [.ref x, .int 1, .int a, .int c, .int u, .ref tr]) rfl ?_
        refine wk_get C fd_PR_40 hp_us rfl d_PR_may_88 ?_
        refine wk_callV (cl := ("ProfileRights$Trail", T_TR, 3)) (rest := []) C (c_TR_write l D HB _ tr tc (nu (if V 25 0 < 200 then V 25 0 else 200)) (V 25 0) u c a 1 (nI d.2) (V 24) q1 q3 (ok_kp hR).1.2) cs_PR_193 kc_TR_write ki_TR q1 rfl rfl rfl (Nat.le_of_ble_eq_true rfl) (Nat.le_of_ble_eq_true rfl) (Nat.le_of_ble_eq_true rfl) (Nat.le_of_ble_eq_true rfl) (Nat.le_of_ble_eq_true rfl) d_PR_may_91 (fun v h2 hq => ?_) (fun _ _ z => nomatch z.1)
        obtain ⟨e1, q5, q6, q7⟩ := hq; cases e1
        have s2 : st_ [7, 107] (hp_up h x (.inr (0, [.ref gl, .ref ul, .ref pl, .ref mo, .ref aq, .ref tr, .int (nI d.2)]))) own h2 own := fun q z hz hq => ⟨by rw [q7 q (fun y => hq (by rw [y, q2]; simp)) (fun y => hq (by rw [y, q4]; simp))]; exact hz, rfl⟩
        have x2 : h2 x = some (.inr (0, [.ref gl, .ref ul, .ref pl, .ref mo, .ref aq, .ref tr, .int (nI d.2)])) := (s2 x _ hp_us (by rw [hO.2]; simp)).1
        have hN2 := cN_m hN1 s2 (by decide) (by decide)
        obtain ⟨cc, hn0, on1, on2⟩ := id hN2
        refine wk_run C k_PR_may_94 (pc2 := 95) (lv2 := [(9, .int 1), (8, .int d.1), (7, .int ((t / 60) - (t / 60) / 24 * 24).toInt32), (6, .ref (uA (nu u))), (0, .ref x), (1, .int u), (2, .int c), (3, .int a), (4, .long t)]) (st2 := [.ref x]) rfl ?_
        refine wk_get C fd_PR_29 x2 rfl d_PR_may_95 ?_
        refine wk_callV (cl := ("ProfileRights$Name", T_NM, 4)) (rest := []) C (c_NM_clear l D HB _ aq cc _ _ _ hn0.1) cs_PR_180 kc_NM_clear ki_NM hn0.1 rfl rfl rfl (Nat.le_of_ble_eq_true rfl) (Nat.le_of_ble_eq_true rfl) (Nat.le_of_ble_eq_true rfl) (Nat.le_of_ble_eq_true rfl) (Nat.le_of_ble_eq_true rfl) d_PR_may_98 (fun v h3 hq => ?_) (fun _ _ z => nomatch z.1)
        obtain ⟨e1, e2⟩ := hq; cases e1; replace e2 := e2.symm; subst e2
        refine wk_run C k_PR_may_101 (pc2 := 103) (lv2 := [(9, .int 1), (8, .int d.1), (7, .int ((t / 60) - (t / 60) / 24 * 24).toInt32), (6, .ref (uA (nu u))), (0, .ref x), (1, .int u), (2, .int c), (3, .int a), (4, .long t)]) (st2 := [.int 1]) rfl ?_
        have s3 : st_ [5] h2 own (hp_up h2 aq (.inr (3, [.ref cc, .int 0, .int 0, .int 0]))) own := st_u (t := 5) (by rw [on1]) (by decide)
        have s : st_ [1, 5, 7, 107] h own (hp_up h2 aq (.inr (3, [.ref cc, .int 0, .int 0, .int 0]))) own := st_t (st_w s1 (by decide)) (st_t (st_w s2 (by decide)) (st_w s3 (by decide)))
        have hr : sp_may V u c a t = (0, 1, an_ (vc V 0 0) u c a 1 (nI d.2) 1) := by rw [eM]; rw [if_pos c2, if_neg c3]
        have aw := an_w (V := vc V 0 0) (u := u) (c := c) (a := a) (r := 1) (p := nI d.2) hR
        obtain ⟨V2, hV2⟩ : ∃ V2 : vT, V2 = an_ (vc V 0 0) u c a 1 (nI d.2) 1 := ⟨_, rfl⟩
        rw [← hV2] at aw hr
        have aw25 : V2 25 0 = V 25 0 + 1 := aw.2.2.2.1
        have aw24 : V2 24 = (if nu (if V 25 0 < 200 then V 25 0 else 200) < 200 then tw_ (V 24) (nu (if V 25 0 < 200 then V 25 0 else 200)) u c a 1 (nI d.2) else V 24) := aw.2.2.1
        have x3 := (s3 x _ x2 (by rw [hO.2]; simp)).1
        have hT3 : cT D (hp_up h2 aq (.inr (3, [.ref cc, .int 0, .int 0, .int 0]))) own tr V2 := ⟨tc, by rw [aw25, ← kp_s hR]; exact (s3 tr _ q5 (by rw [q2]; simp)).1, q2, by rw [aw24]; exact (s3 tc _ q6 (by rw [q4]; simp)).1, q4⟩
        have hN3 : cN D (hp_up h2 aq (.inr (3, [.ref cc, .int 0, .int 0, .int 0]))) own 5 0 aq (nu (V2 22 0)) (V2 21) := by rw [aw.1]; exact cN_0 hn0 on1 on2
        have hO3 : cO (hp_up h2 aq (.inr (3, [.ref cc, .int 0, .int 0, .int 0]))) own x gl ul pl mo aq tr (V2 23 0) := ⟨by rw [aw.2.1]; exact x3, hO.2⟩
        have hk : cr D (hp_up h2 aq (.inr (3, [.ref cc, .int 0, .int 0, .int 0]))) own x (vs (vs (vs (vs V 22 (V2 22)) 23 (V2 23)) 24 (V2 24)) 25 (V2 25)) := ⟨gl, ul, pl, mo, aq, tr, gA, uA, pA, pn, pe, eB, sf, hO3, cL_m hGL s (by decide) (by decide), cL_m hUL s (by decide) (by decide), cL_m hPL s (by decide) (by decide), cM_m hM s (by decide), (by rw [aw.2.2.2.2 21 (by decide) (by decide) (by decide) (by decide)] at hN3; exact hN3), hT3, cG_m hG s (by decide), cU_m hU s (by decide), hB, cP_m hP s (by decide) (by decide) (by decide) (by decide) (by decide) (by decide)⟩
        have hk2 : cr D (hp_up h2 aq (.inr (3, [.ref cc, .int 0, .int 0, .int 0]))) own x V2 := cr_e hk (fun j h1 h26 => by by_cases r1 : j = 25; rw [r1]; rfl; by_cases r2 : j = 24; rw [r2]; rfl; by_cases r3 : j = 23; rw [r3]; rfl; by_cases r4 : j = 22; rw [r4]; rfl; rw [vs_n r1, vs_n r2, vs_n r3, vs_n r4, aw.2.2.2.2 j r4 r3 r2 r1]; exact vs_n h1)
        exact wk_iret C (an_o hk2 (st_so s (by decide)) hr) (by decide) (by decide) d_PR_may_103
  ·
    exact wk_thrA C hlt (text := "a time below 0") (is := 183) (by decide) d_PR_may_23 d_PR_may_26 d_PR_may_27 d_PR_may_29 d_PR_may_32 (by decide) (Nat.le_of_ble_eq_true rfl) (by decide) (by decide) (by decide) (by decide) (an_t hX (by clear C hX; grind [sp_may]))
theorem k_PR_init_0 : px_dec prog_1_method_1_code [.aload_n 0] 0 = true := by decide +kernel
theorem d_PR_init_1 : decode prog_1_method_1_code 1 = .ok (.invokespecial 3, 3) := by decide +kernel
theorem k_PR_init_4 : px_dec prog_1_method_1_code [.aload_n 0] 4 = true := by decide +kernel
theorem d_PR_init_5 : decode prog_1_method_1_code 5 = .ok (.new 9, 3) := by decide +kernel
theorem k_PR_init_8 : px_dec prog_1_method_1_code [.dup] 8 = true := by decide +kernel
theorem d_PR_init_9 : decode prog_1_method_1_code 9 = .ok (.invokespecial 11, 3) := by decide +kernel
theorem d_PR_init_12 : decode prog_1_method_1_code 12 = .ok (.putfield 12, 3) := by decide +kernel
theorem k_PR_init_15 : px_dec prog_1_method_1_code [.aload_n 0] 15 = true := by decide +kernel
theorem d_PR_init_16 : decode prog_1_method_1_code 16 = .ok (.new 9, 3) := by decide +kernel
theorem k_PR_init_19 : px_dec prog_1_method_1_code [.dup] 19 = true := by decide +kernel
theorem d_PR_init_20 : decode prog_1_method_1_code 20 = .ok (.invokespecial 11, 3) := by decide +kernel
theorem d_PR_init_23 : decode prog_1_method_1_code 23 = .ok (.putfield 16, 3) := by decide +kernel
theorem k_PR_init_26 : px_dec prog_1_method_1_code [.aload_n 0] 26 = true := by decide +kernel
theorem d_PR_init_27 : decode prog_1_method_1_code 27 = .ok (.new 9, 3) := by decide +kernel
theorem k_PR_init_30 : px_dec prog_1_method_1_code [.dup] 30 = true := by decide +kernel
theorem d_PR_init_31 : decode prog_1_method_1_code 31 = .ok (.invokespecial 11, 3) := by decide +kernel
theorem d_PR_init_34 : decode prog_1_method_1_code 34 = .ok (.putfield 19, 3) := by decide +kernel
theorem k_PR_init_37 : px_dec prog_1_method_1_code [.aload_n 0, .bipush 8] 37 = true := by decide +kernel
theorem d_PR_init_40 : decode prog_1_method_1_code 40 = .ok (.newarray .int, 2) := by decide +kernel
theorem d_PR_init_42 : decode prog_1_method_1_code 42 = .ok (.putfield 22, 3) := by decide +kernel
theorem k_PR_init_45 : px_dec prog_1_method_1_code [.aload_n 0] 45 = true := by decide +kernel
theorem d_PR_init_46 : decode prog_1_method_1_code 46 = .ok (.new 26, 3) := by decide +kernel
theorem k_PR_init_49 : px_dec prog_1_method_1_code [.dup] 49 = true := by decide +kernel
theorem d_PR_init_50 : decode prog_1_method_1_code 50 = .ok (.invokespecial 28, 3) := by decide +kernel
theorem d_PR_init_53 : decode prog_1_method_1_code 53 = .ok (.putfield 29, 3) := by decide +kernel
theorem k_PR_init_56 : px_dec prog_1_method_1_code [.aload_n 0] 56 = true := by decide +kernel
theorem d_PR_init_57 : decode prog_1_method_1_code 57 = .ok (.new 33, 3) := by decide +kernel
theorem k_PR_init_60 : px_dec prog_1_method_1_code [.dup] 60 = true := by decide +kernel
theorem d_PR_init_61 : decode prog_1_method_1_code 61 = .ok (.invokespecial 35, 3) := by decide +kernel
theorem d_PR_init_64 : decode prog_1_method_1_code 64 = .ok (.putfield 36, 3) := by decide +kernel
theorem k_PR_init_67 : px_dec prog_1_method_1_code [.aload_n 0, .iconst 0] 67 = true := by decide +kernel
theorem d_PR_init_69 : decode prog_1_method_1_code 69 = .ok (.putfield 40, 3) := by decide +kernel
theorem d_PR_init_72 : decode prog_1_method_1_code 72 = .ok (.return_, 1) := by decide +kernel
set_option maxRecDepth 100000 in
set_option maxHeartbeats 4000000 in
theorem c_PR_init (l : Launch) (D : va_G) (HB : Heap) (h : hp_T) (x : Nat) (hx : h x = some (.inr (0, [.null, .null, .null, .null, .null, .null, .int 0]))) : ct_M l y_PR_init (.code y_PR_init prog_1_method_1_code 1 (Option.none : Option Jvm.ClassFile.FieldType)) ({ frames := 5, cells := 9, slots := 1100, locals := 100 }) D HB [.ref x] h (fun o h2 => o = .inl none ∧ ∃ own : oT, cr D h2 own x (fun _ _ => 0) ∧ ∀ q z, q ≠ x → h q = some z → h2 q = some z ∧ own q = (0, 0)) := by
  refine ct_of (by decide) (Nat.le_of_ble_eq_true rfl) rfl ?_
  intro p_ e_ s_ m_ r_ b_ t_ c_ C hnm
  refine wk_run C k_PR_init_0 (pc2 := 1) (lv2 := [(0, .ref x)]) (st2 := [.ref x]) rfl ?_
  refine wk_obj C ml_PR_3 kj_in kj_cd (by decide) (by decide) d_PR_init_1 ?_
  refine wk_run C k_PR_init_4 (pc2 := 5) (lv2 := [(0, .ref x)]) (st2 := [.ref x]) rfl ?_
  obtain ⟨o0, ho0⟩ : ∃ o0 : oT, o0 = ou (fun _ => (0, 0)) x (1, 0) := ⟨_, rfl⟩
  have ox0 : o0 x = (1, 0) := by rw [ho0, ou_s]
  have x0 := hx
  have b0 := st_r [1] h o0
  refine wk_new C nw_PR_9 (Nat.le_of_ble_eq_true rfl) (Nat.le_of_ble_eq_true rfl) d_PR_init_5 (fun gl hgl => ?_)
  refine wk_run C k_PR_init_8 (pc2 := 9) (lv2 := [(0, .ref x)]) (st2 := [.ref gl, .ref gl, .ref x]) rfl ?_
  have n1 : x ≠ gl := fun z => by rw [← z, x0] at hgl; cases hgl
  refine wk_callI (rest := [.ref gl, .ref x]) C (c_AL_init l D HB _ gl 0 0 .null hp_us) cs_PR_11 kc_AL_init ki_AL rfl rfl (Nat.le_of_ble_eq_true rfl) (Nat.le_of_ble_eq_true rfl) (Nat.le_of_ble_eq_true rfl) (Nat.le_of_ble_eq_true rfl) (Nat.le_of_ble_eq_true rfl) d_PR_init_9 (fun v h2 hq => ?_) (fun _ _ z => nomatch z.1)
  obtain ⟨e1, e2⟩ := hq; cases e1; rw [hp_uu] at e2; replace e2 := e2.symm; subst e2
  have s1 : st_ [1] h o0 (hp_up h gl (.inr (7, [.int 0, .ref (D.2 200 0), .int 0]))) (ou o0 gl (11, 0)) := st_n hgl
  have x1a : (hp_up h gl (.inr (7, [.int 0, .ref (D.2 200 0), .int 0]))) x = some (.inr (0, [.null, .null, .null, .null, .null, .null, .int 0])) := by rw [hp_un n1]; exact x0
  have ox1a : (ou o0 gl (11, 0)) x = (1, 0) := by rw [ou_n n1]; exact ox0
  have f1 : cL D (hp_up h gl (.inr (7, [.int 0, .ref (D.2 200 0), .int 0]))) (ou o0 gl (11, 0)) 11 0 gl 0 (fun _ => 0) := ⟨D.2 200 0, ⟨0, hp_us, Or.inl ⟨rfl, rfl⟩⟩, ou_s, Or.inl ⟨rfl, rfl⟩⟩
  refine wk_putF (fs2 := [.ref gl, .null, .null, .null, .null, .null, .int 0]) C ff_PR_12 hnm x1a rfl rfl (Nat.le_of_ble_eq_true rfl) rfl d_PR_init_12 ?_
  have t1 : st_ [1] (hp_up h gl (.inr (7, [.int 0, .ref (D.2 200 0), .int 0]))) (ou o0 gl (11, 0)) (hp_up (hp_up h gl (.inr (7, [.int 0, .ref (D.2 200 0), .int 0]))) x (.inr (0, [.ref gl, .null, .null, .null, .null, .null, .int 0]))) (ou o0 gl (11, 0)) := st_u (t := 1) (by rw [ox1a]) (by decide)
  obtain ⟨g1, hg1⟩ : ∃ g : hp_T, g = hp_up (hp_up h gl (.inr (7, [.int 0, .ref (D.2 200 0), .int 0]))) x (.inr (0, [.ref gl, .null, .null, .null, .null, .null, .int 0])) := ⟨_, rfl⟩
  obtain ⟨o1, hw1⟩ : ∃ o : oT, o = ou o0 gl (11, 0) := ⟨_, rfl⟩
  have x1 : g1 x = some (.inr (0, [.ref gl, .null, .null, .null, .null, .null, .int 0])) := by rw [hg1, hp_us]
  rw [← hg1] at t1 ⊢
  rw [← hw1] at s1 t1 ox1a f1
  have ox1 := ox1a
  have u1 := st_t s1 t1
  have b1 := st_t b0 u1
  replace f1 := cL_m f1 t1 (by decide) (by decide)
  clear hg1 hw1 s1 t1 x1a ox1a
  refine wk_run C k_PR_init_15 (pc2 := 16) (lv2 := [(0, .ref x)]) (st2 := [.ref x]) rfl ?_
  refine wk_new C nw_PR_9 (Nat.le_of_ble_eq_true rfl) (Nat.le_of_ble_eq_true rfl) d_PR_init_16 (fun ul hul => ?_)
  refine wk_run C k_PR_init_19 (pc2 := 20) (lv2 := [(0, .ref x)]) (st2 := [.ref ul, .ref ul, .ref x]) rfl ?_
  have n2 : x ≠ ul := fun z => by rw [← z, x1] at hul; cases hul
  refine wk_callI (rest := [.ref ul, .ref x]) C (c_AL_init l D HB _ ul 0 0 .null hp_us) cs_PR_11 kc_AL_init ki_AL rfl rfl (Nat.le_of_ble_eq_true rfl) (Nat.le_of_ble_eq_true rfl) (Nat.le_of_ble_eq_true rfl) (Nat.le_of_ble_eq_true rfl) (Nat.le_of_ble_eq_true rfl) d_PR_init_20 (fun v h2 hq => ?_) (fun _ _ z => nomatch z.1)
  obtain ⟨e1, e2⟩ := hq; cases e1; rw [hp_uu] at e2; replace e2 := e2.symm; subst e2
  have s2 : st_ [1] g1 o1 (hp_up g1 ul (.inr (7, [.int 0, .ref (D.2 200 0), .int 0]))) (ou o1 ul (12, 0)) := st_n hul
  have x2a : (hp_up g1 ul (.inr (7, [.int 0, .ref (D.2 200 0), .int 0]))) x = some (.inr (0, [.ref gl, .null, .null, .null, .null, .null, .int 0])) := by rw [hp_un n2]; exact x1
  have ox2a : (ou o1 ul (12, 0)) x = (1, 0) := by rw [ou_n n2]; exact ox1
  have f2 : cL D (hp_up g1 ul (.inr (7, [.int 0, .ref (D.2 200 0), .int 0]))) (ou o1 ul (12, 0)) 12 0 ul 0 (fun _ => 0) := ⟨D.2 200 0, ⟨0, hp_us, Or.inl ⟨rfl, rfl⟩⟩, ou_s, Or.inl ⟨rfl, rfl⟩⟩
  refine wk_putF (fs2 := [.ref gl, .ref ul, .null, .null, .null, .null, .int 0]) C ff_PR_16 hnm x2a rfl rfl (Nat.le_of_ble_eq_true rfl) rfl d_PR_init_23 ?_
  have t2 : st_ [1] (hp_up g1 ul (.inr (7, [.int 0, .ref (D.2 200 0), .int 0]))) (ou o1 ul (12, 0)) (hp_up (hp_up g1 ul (.inr (7, [.int 0, .ref (D.2 200 0), .int 0]))) x (.inr (0, [.ref gl, .ref ul, .null, .null, .null, .null, .int 0]))) (ou o1 ul (12, 0)) := st_u (t := 1) (by rw [ox2a]) (by decide)
  obtain ⟨g2, hg2⟩ : ∃ g : hp_T, g = hp_up (hp_up g1 ul (.inr (7, [.int 0, .ref (D.2 200 0), .int 0]))) x (.inr (0, [.ref gl, .ref ul, .null, .null, .null, .null, .int 0])) := ⟨_, rfl⟩
  obtain ⟨o2, hw2⟩ : ∃ o : oT, o = ou o1 ul (12, 0) := ⟨_, rfl⟩
  have x2 : g2 x = some (.inr (0, [.ref gl, .ref ul, .null, .null, .null, .null, .int 0])) := by rw [hg2, hp_us]
  rw [← hg2] at t2 ⊢
  rw [← hw2] at s2 t2 ox2a f2
  have ox2 := ox2a
  have u2 := st_t s2 t2
  have b2 := st_t b1 u2
  replace f1 := cL_m f1 u2 (by decide) (by decide)
  replace f2 := cL_m f2 t2 (by decide) (by decide)
  clear hg2 hw2 s2 t2 x2a ox2a
  refine wk_run C k_PR_init_26 (pc2 := 27) (lv2 := [(0, .ref x)]) (st2 := [.ref x]) rfl ?_
  refine wk_new C nw_PR_9 (Nat.le_of_ble_eq_true rfl) (Nat.le_of_ble_eq_true rfl) d_PR_init_27 (fun pl hpl => ?_)
  refine wk_run C k_PR_init_30 (pc2 := 31) (lv2 := [(0, .ref x)]) (st2 := [.ref pl, .ref pl, .ref x]) rfl ?_
  have n3 : x ≠ pl := fun z => by rw [← z, x2] at hpl; cases hpl
  refine wk_callI (rest := [.ref pl, .ref x]) C (c_AL_init l D HB _ pl 0 0 .null hp_us) cs_PR_11 kc_AL_init ki_AL rfl rfl (Nat.le_of_ble_eq_true rfl) (Nat.le_of_ble_eq_true rfl) (Nat.le_of_ble_eq_true rfl) (Nat.le_of_ble_eq_true rfl) (Nat.le_of_ble_eq_true rfl) d_PR_init_31 (fun v h2 hq => ?_) (fun _ _ z => nomatch z.1)
  obtain ⟨e1, e2⟩ := hq; cases e1; rw [hp_uu] at e2; replace e2 := e2.symm; subst e2
  have s3 : st_ [1] g2 o2 (hp_up g2 pl (.inr (7, [.int 0, .ref (D.2 200 0), .int 0]))) (ou o2 pl (13, 0)) := st_n hpl
  have x3a : (hp_up g2 pl (.inr (7, [.int 0, .ref (D.2 200 0), .int 0]))) x = some (.inr (0, [.ref gl, .ref ul, .null, .null, .null, .null, .int 0])) := by rw [hp_un n3]; exact x2
  have ox3a : (ou o2 pl (13, 0)) x = (1, 0) := by rw [ou_n n3]; exact ox2
  have f3 : cL D (hp_up g2 pl (.inr (7, [.int 0, .ref (D.2 200 0), .int 0]))) (ou o2 pl (13, 0)) 13 0 pl 0 (fun _ => 0) := ⟨D.2 200 0, ⟨0, hp_us, Or.inl ⟨rfl, rfl⟩⟩, ou_s, Or.inl ⟨rfl, rfl⟩⟩
  refine wk_putF (fs2 := [.ref gl, .ref ul, .ref pl, .null, .null, .null, .int 0]) C ff_PR_19 hnm x3a rfl rfl (Nat.le_of_ble_eq_true rfl) rfl d_PR_init_34 ?_
  have t3 : st_ [1] (hp_up g2 pl (.inr (7, [.int 0, .ref (D.2 200 0), .int 0]))) (ou o2 pl (13, 0)) (hp_up (hp_up g2 pl (.inr (7, [.int 0, .ref (D.2 200 0), .int 0]))) x (.inr (0, [.ref gl, .ref ul, .ref pl, .null, .null, .null, .int 0]))) (ou o2 pl (13, 0)) := st_u (t := 1) (by rw [ox3a]) (by decide)
  obtain ⟨g3, hg3⟩ : ∃ g : hp_T, g = hp_up (hp_up g2 pl (.inr (7, [.int 0, .ref (D.2 200 0), .int 0]))) x (.inr (0, [.ref gl, .ref ul, .ref pl, .null, .null, .null, .int 0])) := ⟨_, rfl⟩
  obtain ⟨o3, hw3⟩ : ∃ o : oT, o = ou o2 pl (13, 0) := ⟨_, rfl⟩
  have x3 : g3 x = some (.inr (0, [.ref gl, .ref ul, .ref pl, .null, .null, .null, .int 0])) := by rw [hg3, hp_us]
  rw [← hg3] at t3 ⊢
  rw [← hw3] at s3 t3 ox3a f3
  have ox3 := ox3a
  have u3 := st_t s3 t3
  have b3 := st_t b2 u3
  replace f1 := cL_m f1 u3 (by decide) (by decide)
  replace f2 := cL_m f2 u3 (by decide) (by decide)
  replace f3 := cL_m f3 t3 (by decide) (by decide)
  clear hg3 hw3 s3 t3 x3a ox3a
  refine wk_run C k_PR_init_37 (pc2 := 40) (lv2 := [(0, .ref x)]) (st2 := [.int 8, .ref x]) rfl ?_
  refine wk_newi (N := 8) C ka_int rfl (by decide) (Nat.le_of_ble_eq_true rfl) (Nat.le_of_ble_eq_true rfl) d_PR_init_40 (fun mo hmo => ?_)
  have s4 : st_ [1] g3 o3 (hp_up g3 mo (.inl (D.1 100, 8, .inl (fun _ => 0)))) (ou o3 mo (4, 0)) := st_n hmo
  have x4a : (hp_up g3 mo (.inl (D.1 100, 8, .inl (fun _ => 0)))) x = some (.inr (0, [.ref gl, .ref ul, .ref pl, .null, .null, .null, .int 0])) := by rw [hp_un (fun z => by rw [← z, x3] at hmo; cases hmo)]; exact x3
  have ox4a : (ou o3 mo (4, 0)) x = (1, 0) := by rw [ou_n (fun z => by rw [← z, x3] at hmo; cases hmo)]; exact ox3
  have f4 : cM D (hp_up g3 mo (.inl (D.1 100, 8, .inl (fun _ => 0)))) (ou o3 mo (4, 0)) mo (fun _ _ => 0) := ⟨hp_us, ou_s⟩
  refine wk_putF (fs2 := [.ref gl, .ref ul, .ref pl, .ref mo, .null, .null, .int 0]) C ff_PR_22 hnm x4a rfl rfl (Nat.le_of_ble_eq_true rfl) rfl d_PR_init_42 ?_
  have t4 : st_ [1] (hp_up g3 mo (.inl (D.1 100, 8, .inl (fun _ => 0)))) (ou o3 mo (4, 0)) (hp_up (hp_up g3 mo (.inl (D.1 100, 8, .inl (fun _ => 0)))) x (.inr (0, [.ref gl, .ref ul, .ref pl, .ref mo, .null, .null, .int 0]))) (ou o3 mo (4, 0)) := st_u (t := 1) (by rw [ox4a]) (by decide)
  obtain ⟨g4, hg4⟩ : ∃ g : hp_T, g = hp_up (hp_up g3 mo (.inl (D.1 100, 8, .inl (fun _ => 0)))) x (.inr (0, [.ref gl, .ref ul, .ref pl, .ref mo, .null, .null, .int 0])) := ⟨_, rfl⟩
  obtain ⟨o4, hw4⟩ : ∃ o : oT, o = ou o3 mo (4, 0) := ⟨_, rfl⟩
  have x4 : g4 x = some (.inr (0, [.ref gl, .ref ul, .ref pl, .ref mo, .null, .null, .int 0])) := by rw [hg4, hp_us]
  rw [← hg4] at t4 ⊢
  rw [← hw4] at s4 t4 ox4a f4
  have ox4 := ox4a
  have u4 := st_t s4 t4
  have b4 := st_t b3 u4
  replace f1 := cL_m f1 u4 (by decide) (by decide)
  replace f2 := cL_m f2 u4 (by decide) (by decide)
  replace f3 := cL_m f3 u4 (by decide) (by decide)
  replace f4 := cM_m f4 t4 (by decide)
  clear hg4 hw4 s4 t4 x4a ox4a
  refine wk_run C k_PR_init_45 (pc2 := 46) (lv2 := [(0, .ref x)]) (st2 := [.ref x]) rfl ?_
  refine wk_new C nw_PR_26 (Nat.le_of_ble_eq_true rfl) (Nat.le_of_ble_eq_true rfl) d_PR_init_46 (fun aq haq => ?_)
  refine wk_run C k_PR_init_49 (pc2 := 50) (lv2 := [(0, .ref x)]) (st2 := [.ref aq, .ref aq, .ref x]) rfl ?_
  have n5 : x ≠ aq := fun z => by rw [← z, x4] at haq; cases haq
  refine wk_callI (rest := [.ref aq, .ref x]) C (c_NM_init l D HB _ aq 0 0 0 hp_us) cs_PR_28 kc_NM_init ki_NM rfl rfl (Nat.le_of_ble_eq_true rfl) (Nat.le_of_ble_eq_true rfl) (Nat.le_of_ble_eq_true rfl) (Nat.le_of_ble_eq_true rfl) (Nat.le_of_ble_eq_true rfl) d_PR_init_50 (fun v h2 hq => ?_) (fun _ _ z => nomatch z.1)
  obtain ⟨e1, ca, hca, e2⟩ := hq; cases e1; replace e2 := e2.symm; subst e2
  have m5 : ca ≠ aq := fun z => by rw [z, hp_us] at hca; cases hca
  rw [hp_un m5] at hca
  have k5 : x ≠ ca := fun z => by rw [← z, x4] at hca; cases hca
  have s5 : st_ [1] g4 o4 (hp_up (hp_up (hp_up g4 aq (.inr (3, [.null, .int 0, .int 0, .int 0]))) ca (.inl (D.1 100, 20, .inl (fun _ => 0)))) aq (.inr (3, [.ref ca, .int 0, .int 0, .int 0]))) (ou (ou o4 aq (5, 0)) ca (105, 0)) := by
    intro q z hz _
    have r1 : q ≠ aq := fun y => by rw [y, haq] at hz; cases hz
    have r2 : q ≠ ca := fun y => by rw [y, hca] at hz; cases hz
    exact ⟨by rw [hp_un r1, hp_un r2, hp_un r1]; exact hz, by rw [ou_n r2, ou_n r1]⟩
  have x5a : (hp_up (hp_up (hp_up g4 aq (.inr (3, [.null, .int 0, .int 0, .int 0]))) ca (.inl (D.1 100, 20, .inl (fun _ => 0)))) aq (.inr (3, [.ref ca, .int 0, .int 0, .int 0]))) x = some (.inr (0, [.ref gl, .ref ul, .ref pl, .ref mo, .null, .null, .int 0])) := by rw [hp_un n5, hp_un k5, hp_un n5]; exact x4
  have ox5a : (ou (ou o4 aq (5, 0)) ca (105, 0)) x = (1, 0) := by rw [ou_n k5, ou_n n5]; exact ox4
  have f5 : cN D (hp_up (hp_up (hp_up g4 aq (.inr (3, [.null, .int 0, .int 0, .int 0]))) ca (.inl (D.1 100, 20, .inl (fun _ => 0)))) aq (.inr (3, [.ref ca, .int 0, .int 0, .int 0]))) (ou (ou o4 aq (5, 0)) ca (105, 0)) 5 0 aq 0 (fun _ => 0) := ⟨ca, ⟨by rw [hp_us]; rfl, ⟨fun _ => 0, by rw [hp_un m5, hp_us], fun _ _ => rfl⟩, Nat.zero_le _⟩, by rw [ou_n (Ne.symm m5), ou_s], ou_s⟩
  refine wk_putF (fs2 := [.ref gl, .ref ul, .ref pl, .ref mo, .ref aq, .null, .int 0]) C ff_PR_29 hnm x5a rfl rfl (Nat.le_of_ble_eq_true rfl) rfl d_PR_init_53 ?_
  have t5 : st_ [1] (hp_up (hp_up (hp_up g4 aq (.inr (3, [.null, .int 0, .int 0, .int 0]))) ca (.inl (D.1 100, 20, .inl (fun _ => 0)))) aq (.inr (3, [.ref ca, .int 0, .int 0, .int 0]))) (ou (ou o4 aq (5, 0)) ca (105, 0)) (hp_up (hp_up (hp_up (hp_up g4 aq (.inr (3, [.null, .int 0, .int 0, .int 0]))) ca (.inl (D.1 100, 20, .inl (fun _ => 0)))) aq (.inr (3, [.ref ca, .int 0, .int 0, .int 0]))) x (.inr (0, [.ref gl, .ref ul, .ref pl, .ref mo, .ref aq, .null, .int 0]))) (ou (ou o4 aq (5, 0)) ca (105, 0)) := st_u (t := 1) (by rw [ox5a]) (by decide)
  obtain ⟨g5, hg5⟩ : ∃ g : hp_T, g = hp_up (hp_up (hp_up (hp_up g4 aq (.inr (3, [.null, .int 0, .int 0, .int 0]))) ca (.inl (D.1 100, 20, .inl (fun _ => 0)))) aq (.inr (3, [.ref ca, .int 0, .int 0, .int 0]))) x (.inr (0, [.ref gl, .ref ul, .ref pl, .ref mo, .ref aq, .null, .int 0])) := ⟨_, rfl⟩
  obtain ⟨o5, hw5⟩ : ∃ o : oT, o = ou (ou o4 aq (5, 0)) ca (105, 0) := ⟨_, rfl⟩
  have x5 : g5 x = some (.inr (0, [.ref gl, .ref ul, .ref pl, .ref mo, .ref aq, .null, .int 0])) := by rw [hg5, hp_us]
  rw [← hg5] at t5 ⊢
  rw [← hw5] at s5 t5 ox5a f5
  have ox5 := ox5a
  have u5 := st_t s5 t5
  have b5 := st_t b4 u5
  replace f1 := cL_m f1 u5 (by decide) (by decide)
  replace f2 := cL_m f2 u5 (by decide) (by decide)
  replace f3 := cL_m f3 u5 (by decide) (by decide)
  replace f4 := cM_m f4 u5 (by decide)
  replace f5 := cN_m f5 t5 (by decide) (by decide)
  clear hg5 hw5 s5 t5 x5a ox5a
  refine wk_run C k_PR_init_56 (pc2 := 57) (lv2 := [(0, .ref x)]) (st2 := [.ref x]) rfl ?_
  refine wk_new C nw_PR_33 (Nat.le_of_ble_eq_true rfl) (Nat.le_of_ble_eq_true rfl) d_PR_init_57 (fun tr htr => ?_)
  refine wk_run C k_PR_init_60 (pc2 := 61) (lv2 := [(0, .ref x)]) (st2 := [.ref tr, .ref tr, .ref x]) rfl ?_
  have n6 : x ≠ tr := fun z => by rw [← z, x5] at htr; cases htr
  refine wk_callI (rest := [.ref tr, .ref x]) C (c_TR_init l D HB _ tr 0 0 hp_us) cs_PR_35 kc_TR_init ki_TR rfl rfl (Nat.le_of_ble_eq_true rfl) (Nat.le_of_ble_eq_true rfl) (Nat.le_of_ble_eq_true rfl) (Nat.le_of_ble_eq_true rfl) (Nat.le_of_ble_eq_true rfl) d_PR_init_61 (fun v h2 hq => ?_) (fun _ _ z => nomatch z.1)
  obtain ⟨e1, ca, hca, e2⟩ := hq; cases e1; replace e2 := e2.symm; subst e2
  have m6 : ca ≠ tr := fun z => by rw [z, hp_us] at hca; cases hca
  rw [hp_un m6] at hca
  have k6 : x ≠ ca := fun z => by rw [← z, x5] at hca; cases hca
  have s6 : st_ [1] g5 o5 (hp_up (hp_up (hp_up g5 tr (.inr (6, [.null, .int 0, .int 0]))) ca (.inl (D.1 100, 1000, .inl (fun _ => 0)))) tr (.inr (6, [.ref ca, .int 0, .int 0]))) (ou (ou o5 tr (7, 0)) ca (107, 0)) := by
    intro q z hz _
    have r1 : q ≠ tr := fun y => by rw [y, htr] at hz; cases hz
    have r2 : q ≠ ca := fun y => by rw [y, hca] at hz; cases hz
    exact ⟨by rw [hp_un r1, hp_un r2, hp_un r1]; exact hz, by rw [ou_n r2, ou_n r1]⟩
  have x6a : (hp_up (hp_up (hp_up g5 tr (.inr (6, [.null, .int 0, .int 0]))) ca (.inl (D.1 100, 1000, .inl (fun _ => 0)))) tr (.inr (6, [.ref ca, .int 0, .int 0]))) x = some (.inr (0, [.ref gl, .ref ul, .ref pl, .ref mo, .ref aq, .null, .int 0])) := by rw [hp_un n6, hp_un k6, hp_un n6]; exact x5
  have ox6a : (ou (ou o5 tr (7, 0)) ca (107, 0)) x = (1, 0) := by rw [ou_n k6, ou_n n6]; exact ox5
  have f6 : cT D (hp_up (hp_up (hp_up g5 tr (.inr (6, [.null, .int 0, .int 0]))) ca (.inl (D.1 100, 1000, .inl (fun _ => 0)))) tr (.inr (6, [.ref ca, .int 0, .int 0]))) (ou (ou o5 tr (7, 0)) ca (107, 0)) tr (fun _ _ => 0) := ⟨ca, hp_us, by rw [ou_n (Ne.symm m6), ou_s], by rw [hp_un m6, hp_us], ou_s⟩
  refine wk_putF (fs2 := [.ref gl, .ref ul, .ref pl, .ref mo, .ref aq, .ref tr, .int 0]) C ff_PR_36 hnm x6a rfl rfl (Nat.le_of_ble_eq_true rfl) rfl d_PR_init_64 ?_
  have t6 : st_ [1] (hp_up (hp_up (hp_up g5 tr (.inr (6, [.null, .int 0, .int 0]))) ca (.inl (D.1 100, 1000, .inl (fun _ => 0)))) tr (.inr (6, [.ref ca, .int 0, .int 0]))) (ou (ou o5 tr (7, 0)) ca (107, 0)) (hp_up (hp_up (hp_up (hp_up g5 tr (.inr (6, [.null, .int 0, .int 0]))) ca (.inl (D.1 100, 1000, .inl (fun _ => 0)))) tr (.inr (6, [.ref ca, .int 0, .int 0]))) x (.inr (0, [.ref gl, .ref ul, .ref pl, .ref mo, .ref aq, .ref tr, .int 0]))) (ou (ou o5 tr (7, 0)) ca (107, 0)) := st_u (t := 1) (by rw [ox6a]) (by decide)
  obtain ⟨g6, hg6⟩ : ∃ g : hp_T, g = hp_up (hp_up (hp_up (hp_up g5 tr (.inr (6, [.null, .int 0, .int 0]))) ca (.inl (D.1 100, 1000, .inl (fun _ => 0)))) tr (.inr (6, [.ref ca, .int 0, .int 0]))) x (.inr (0, [.ref gl, .ref ul, .ref pl, .ref mo, .ref aq, .ref tr, .int 0])) := ⟨_, rfl⟩
  obtain ⟨o6, hw6⟩ : ∃ o : oT, o = ou (ou o5 tr (7, 0)) ca (107, 0) := ⟨_, rfl⟩
  have x6 : g6 x = some (.inr (0, [.ref gl, .ref ul, .ref pl, .ref mo, .ref aq, .ref tr, .int 0])) := by rw [hg6, hp_us]
  rw [← hg6] at t6 ⊢
  rw [← hw6] at s6 t6 ox6a f6
  have ox6 := ox6a
  have u6 := st_t s6 t6
  have b6 := st_t b5 u6
  replace f1 := cL_m f1 u6 (by decide) (by decide)
  replace f2 := cL_m f2 u6 (by decide) (by decide)
  replace f3 := cL_m f3 u6 (by decide) (by decide)
  replace f4 := cM_m f4 u6 (by decide)
  replace f5 := cN_m f5 u6 (by decide) (by decide)
  replace f6 := cT_m f6 t6 (by decide) (by decide)
  clear hg6 hw6 s6 t6 x6a ox6a
  refine wk_run C k_PR_init_67 (pc2 := 69) (lv2 := [(0, .ref x)]) (st2 := [.int 0, .ref x]) rfl ?_
  refine wk_put (fs2 := [.ref gl, .ref ul, .ref pl, .ref mo, .ref aq, .ref tr, .int 0]) C fd_PR_40 x6 rfl rfl (Nat.le_of_ble_eq_true rfl) rfl d_PR_init_69 ?_
  have t7 : st_ [1] g6 o6 (hp_up g6 x (.inr (0, [.ref gl, .ref ul, .ref pl, .ref mo, .ref aq, .ref tr, .int 0]))) o6 := st_u (t := 1) (by rw [ox6]) (by decide)
  have b7 := st_t b6 t7
  replace f1 := cL_m f1 t7 (by decide) (by decide)
  replace f2 := cL_m f2 t7 (by decide) (by decide)
  replace f3 := cL_m f3 t7 (by decide) (by decide)
  replace f4 := cM_m f4 t7 (by decide)
  replace f5 := cN_m f5 t7 (by decide) (by decide)
  replace f6 := cT_m f6 t7 (by decide) (by decide)
  have z0 : nu 0 = 0 := by decide
  exact wk_vret C ⟨rfl, o6, ⟨gl, ul, pl, mo, aq, tr, fun _ => 0, fun _ => 0, fun _ => 0, fun _ => 0, fun _ => 0, fun _ _ => 0, fun _ => 0, ⟨hp_us, ox6⟩, z0.symm ▸ f1, z0.symm ▸ f2, z0.symm ▸ f3, f4, z0.symm ▸ f5, f6, fun k h1 h2 => by rw [z0] at h2; omega, fun k h1 h2 => by rw [z0] at h2; omega, fun k j h1 h2 => by rw [z0] at h2; omega, fun k h1 h2 => by rw [z0] at h2; omega⟩, fun q z hq hz => by have r := b7 q z hz (by rw [ho0, ou_n hq]; decide); rw [ho0, ou_n hq] at r; exact r⟩ (by decide) (by decide) d_PR_init_72
