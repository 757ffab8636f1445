theorem cE_add {h : hp_T} {own : oT} {k n y : Nat} {eA : Nat → Nat} {V V2 : vT} (hE : cE h own k n eA V) (hy : h y = some (.inr (4, [.int (V2 17 (10 * k + n)), .int (V2 18 (10 * k + n)), .int (V2 19 (10 * k + n)), .int (V2 20 (10 * k + n))]))) (ho : own y = (27, k)) (hne : ∀ j, j < n → eA j ≠ y) (hV : ∀ j, j < n → V2 17 (10 * k + j) = V 17 (10 * k + j) ∧ V2 18 (10 * k + j) = V 18 (10 * k + j) ∧ V2 19 (10 * k + j) = V 19 (10 * k + j) ∧ V2 20 (10 * k + j) = V 20 (10 * k + j)) : cE h own k (n + 1) (al_cat eA n y) V2 := by
  obtain ⟨e1, e2, e3⟩ := cE_e hE hV
  refine ⟨fun j hj => ?_, fun j hj => ?_, fun i j hi hj z => ?_⟩
  · by_cases z : j = n
    · subst z; rw [al_cat_n]; exact hy
    · rw [al_cat_lt (by omega)]; exact e1 j (by omega)
  · by_cases z : j = n
    · subst z; rw [al_cat_n]; exact ho
    · rw [al_cat_lt (by omega)]; exact e2 j (by omega)
  · by_cases z1 : i = n
    · by_cases z2 : j = n
      · rw [z1, z2]
      · rw [z1, al_cat_n, al_cat_lt (by omega)] at z
        exact absurd z.symm (hne j (by omega))
    · by_cases z2 : j = n
      · rw [z2, al_cat_n, al_cat_lt (by omega)] at z
        exact absurd z (hne i (by omega))
      · rw [al_cat_lt (by omega), al_cat_lt (by omega)] at z
        exact e3 i j (by omega) (by omega) z
theorem al_del_lt {f : Nat → Nat} {i j : Nat} (h : j < i) : al_del f i j = f j := if_pos h
theorem al_del_ge {f : Nat → Nat} {i j : Nat} (h : ¬ j < i) : al_del f i j = f (j + 1) := if_neg h
theorem sh_in {f : Nat → Int32} {a e j : Nat} (h : a ≤ j ∧ j < e) : sh_ f a e j = f (j + 1) := if_pos h
theorem sh_out {f : Nat → Int32} {a e j : Nat} (h : ¬ (a ≤ j ∧ j < e)) : sh_ f a e j = f j := if_neg h
theorem cE_del {h : hp_T} {own : oT} {k n i : Nat} {eA : Nat → Nat} {V V2 : vT} (hE : cE h own k n eA V) (hi : i < n) (h17 : V2 17 = sh_ (V 17) (10 * k + i) (10 * k + (n - 1))) (h18 : V2 18 = sh_ (V 18) (10 * k + i) (10 * k + (n - 1))) (h19 : V2 19 = sh_ (V 19) (10 * k + i) (10 * k + (n - 1))) (h20 : V2 20 = sh_ (V 20) (10 * k + i) (10 * k + (n - 1))) : cE h own k (n - 1) (al_del eA i) V2 := by
  obtain ⟨e1, e2, e3⟩ := hE
  refine ⟨fun j hj => ?_, fun j hj => ?_, fun a b ha hb z => ?_⟩
  · rw [h17, h18, h19, h20]
    show h (al_del eA i j) = some (.inr (4, [.int (sh_ (V 17) (10 * k + i) (10 * k + (n - 1)) (10 * k + j)), .int (sh_ (V 18) (10 * k + i) (10 * k + (n - 1)) (10 * k + j)), .int (sh_ (V 19) (10 * k + i) (10 * k + (n - 1)) (10 * k + j)), .int (sh_ (V 20) (10 * k + i) (10 * k + (n - 1)) (10 * k + j))]))
    by_cases z : j < i
    · have s1 : ∀ f, sh_ f (10 * k + i) (10 * k + (n - 1)) (10 * k + j) = f (10 * k + j) := fun f => sh_out (by omega)
      rw [al_del_lt z, s1, s1, s1, s1]; exact e1 j (by omega)
    · have s1 : ∀ f, sh_ f (10 * k + i) (10 * k + (n - 1)) (10 * k + j) = f (10 * k + (j + 1)) := fun f => sh_in (by omega)
      rw [al_del_ge z, s1, s1, s1, s1]; exact e1 (j + 1) (by omega)
  · by_cases z : j < i
    · rw [al_del_lt z]; exact e2 j (by omega)
    · rw [al_del_ge z]; exact e2 (j + 1) (by omega)
  · by_cases z1 : a < i
    · by_cases z2 : b < i
      · rw [al_del_lt z1, al_del_lt z2] at z; exact e3 a b (by omega) (by omega) z
      · rw [al_del_lt z1, al_del_ge z2] at z
        have := e3 a (b + 1) (by omega) (by omega) z
        omega
    · by_cases z2 : b < i
      · rw [al_del_ge z1, al_del_lt z2] at z
        have := e3 (a + 1) b (by omega) (by omega) z
        omega
      · rw [al_del_ge z1, al_del_ge z2] at z
        have := e3 (a + 1) (b + 1) (by omega) (by omega) z
        omega
theorem k_PR_permit_0 : px_dec prog_1_method_12_code [.aload_n 0, .iload_n 1] 0 = true := by decide +kernel
theorem d_PR_permit_2 : decode prog_1_method_12_code 2 = .ok (.invokevirtual 117, 3) := by decide +kernel
theorem k_PR_permit_5 : px_dec prog_1_method_12_code [.astore 4, .aload_n 0, .iload_n 2] 5 = true := by decide +kernel
theorem d_PR_permit_9 : decode prog_1_method_12_code 9 = .ok (.invokevirtual 153, 3) := by decide +kernel
theorem k_PR_permit_12 : px_dec prog_1_method_12_code [.iload_n 3, .iconst (-1)] 12 = true := by decide +kernel
theorem d_PR_permit_14 : decode prog_1_method_12_code 14 = .ok (.invokestatic 142, 3) := by decide +kernel
theorem k_PR_permit_17 : px_dec prog_1_method_12_code [.aload 4, .iload_n 2] 17 = true := by decide +kernel
theorem d_PR_permit_20 : decode prog_1_method_12_code 20 = .ok (.invokevirtual 156, 3) := by decide +kernel
theorem k_PR_permit_23 : px_dec prog_1_method_12_code [.astore 5, .aload 5] 23 = true := by decide +kernel
theorem d_PR_permit_27 : decode prog_1_method_12_code 27 = .ok (.ifnonnull 7, 3) := by decide +kernel
theorem k_PR_permit_30 : px_dec prog_1_method_12_code [.iconst (-1)] 30 = true := by decide +kernel
theorem d_PR_permit_31 : decode prog_1_method_12_code 31 = .ok (.goto 8, 3) := by decide +kernel
theorem k_PR_permit_39 : px_dec prog_1_method_12_code [.istore 6, .iload_n 3, .iconst (-1)] 39 = true := by decide +kernel
theorem d_PR_permit_43 : decode prog_1_method_12_code 43 = .ok (.if_icmp .ne 12, 3) := by decide +kernel
theorem k_PR_permit_55 : px_dec prog_1_method_12_code [.aload 5] 55 = true := by decide +kernel
theorem d_PR_permit_57 : decode prog_1_method_12_code 57 = .ok (.ifnull 12, 3) := by decide +kernel
theorem k_PR_permit_69 : px_dec prog_1_method_12_code [.aload 4] 69 = true := by decide +kernel
theorem d_PR_permit_71 : decode prog_1_method_12_code 71 = .ok (.invokevirtual 168, 3) := by decide +kernel
theorem d_PR_permit_74 : decode prog_1_method_12_code 74 = .ok (.ifCond .eq 13, 3) := by decide +kernel
theorem k_PR_permit_87 : px_dec prog_1_method_12_code [.aload 4] 87 = true := by decide +kernel
theorem d_PR_permit_89 : decode prog_1_method_12_code 89 = .ok (.getfield 171, 3) := by decide +kernel
theorem d_PR_permit_92 : decode prog_1_method_12_code 92 = .ok (.new 161, 3) := by decide +kernel
theorem k_PR_permit_95 : px_dec prog_1_method_12_code [.dup, .iload_n 2, .iload_n 3] 95 = true := by decide +kernel
theorem d_PR_permit_98 : decode prog_1_method_12_code 98 = .ok (.invokespecial 174, 3) := by decide +kernel
theorem d_PR_permit_101 : decode prog_1_method_12_code 101 = .ok (.invokevirtual 64, 3) := by decide +kernel
theorem k_PR_permit_104 : px_dec prog_1_method_12_code [.pop, .iload 6] 104 = true := by decide +kernel
theorem d_PR_permit_107 : decode prog_1_method_12_code 107 = .ok (.ireturn, 1) := by decide +kernel
theorem d_PR_permit_77 : decode prog_1_method_12_code 77 = .ok (.new 52, 3) := by decide +kernel
theorem d_PR_permit_80 : decode prog_1_method_12_code 80 = .ok (.dup, 1) := by decide +kernel
theorem d_PR_permit_81 : decode prog_1_method_12_code 81 = .ok (.ldc 169, 2) := by decide +kernel
theorem d_PR_permit_83 : decode prog_1_method_12_code 83 = .ok (.invokespecial 56, 3) := by decide +kernel
theorem d_PR_permit_86 : decode prog_1_method_12_code 86 = .ok (.athrow, 1) := by decide +kernel
theorem k_PR_permit_46 : px_dec prog_1_method_12_code [.aload 4, .iload_n 2] 46 = true := by decide +kernel
theorem d_PR_permit_49 : decode prog_1_method_12_code 49 = .ok (.invokevirtual 165, 3) := by decide +kernel
theorem d_PR_permit_52 : decode prog_1_method_12_code 52 = .ok (.goto 53, 3) := by decide +kernel
theorem k_PR_permit_105 : px_dec prog_1_method_12_code [.iload 6] 105 = true := by decide +kernel
theorem k_PR_permit_34 : px_dec prog_1_method_12_code [.aload 5] 34 = true := by decide +kernel
theorem d_PR_permit_36 : decode prog_1_method_12_code 36 = .ok (.getfield 160, 3) := by decide +kernel
theorem k_PR_permit_60 : px_dec prog_1_method_12_code [.aload 5, .iload_n 3] 60 = true := by decide +kernel
theorem d_PR_permit_63 : decode prog_1_method_12_code 63 = .ok (.putfield 160, 3) := by decide +kernel
theorem d_PR_permit_66 : decode prog_1_method_12_code 66 = .ok (.goto 39, 3) := by decide +kernel
set_option maxRecDepth 100000 in
set_option maxHeartbeats 4000000 in
theorem o_permit (l : Launch) (D : va_G) (HB : Heap) (h : hp_T) (hlt : l.stackTraces = false) (own : oT) (V : vT) (x : Nat) (p : Int32) (q : Int32) (a : Int32) (hX : cr D h own x V) (hW : wf V) : ct_M l y_PR_permit (.code y_PR_permit prog_1_method_12_code 7 (Option.some Jvm.ClassFile.FieldType.int)) ({ frames := 9, cells := 8, slots := 200, locals := 320 }) D HB [.ref x, .int p, .int q, .int a] h (fun o h2 => an2 D h own x (sp_permit V p q a) o h2) := by
  refine ct_of (by decide) (Nat.le_of_ble_eq_true rfl) rfl ?_
  intro p_ e_ s_ m_ r_ b_ t_ c_ C hnm
  obtain ⟨gl, ul, pl, mo, aq, tr, gA, uA, pA, pn, pe, eB, sf, hO, hGL, hUL, hPL, hM, hN, hT, hG, hU, hB, hP⟩ := id hX
  obtain ⟨h7, h8, h9, h22, w1, w2, w21, w5, w6, w10, w13, w16, w4, wz, wy, wc⟩ := id hW
  refine wk_run C k_PR_permit_0 (pc2 := 2) (lv2 := [(0, .ref x), (1, .int p), (2, .int q), (3, .int a)]) (st2 := [.int p, .ref x]) rfl ?_
  rcases (Classical.em (¬ p < 1 ∧ p ≤ V 9 0)).symm with hp | hp
  ·
    refine wk_callV (cl := ("ProfileRights", T_PR, 7)) (rest := []) C (k_profileN l D HB h own V x gl ul pl mo aq tr (V 23 0) gA uA pA pn pe eB sf hO hPL h9 hlt p hp) cs_PR_117 kc_PR_profileAt ki_PR hO.1 rfl rfl rfl (Nat.le_of_ble_eq_true rfl) (Nat.le_of_ble_eq_true rfl) (Nat.le_of_ble_eq_true rfl) (Nat.le_of_ble_eq_true rfl) (Nat.le_of_ble_eq_true rfl) d_PR_permit_2 (fun v h2 hq => ?_) (fun E h2 hq => by obtain ⟨e1, e2⟩ := hq; cases e1; replace e2 := e2.symm; subst e2; exact wx_out C (an_t hX (by clear C hX; grind [sp_permit])) (by decide) (by decide))
    exact nomatch hq.1
  refine wk_callV (cl := ("ProfileRights", T_PR, 7)) (rest := []) C (k_profileY l D HB h own V x gl ul pl mo aq tr (V 23 0) gA uA pA pn pe eB sf hO hPL h9 hP p hp) cs_PR_117 kc_PR_profileAt ki_PR hO.1 rfl rfl rfl (Nat.le_of_ble_eq_true rfl) (Nat.le_of_ble_eq_true rfl) (Nat.le_of_ble_eq_true rfl) (Nat.le_of_ble_eq_true rfl) (Nat.le_of_ble_eq_true rfl) d_PR_permit_2 (fun v h2 hq => ?_) (fun _ _ z => nomatch z.1)
  obtain ⟨e1, e2⟩ := hq; cases e1; replace e2 := e2.symm; subst e2
  show Wk _ _ _ _ _ _ _ _ _ _ _ _ _ _ _ _ _ _ _ (.ref (pA (nu p)) :: _)
  have khp : 1 ≤ nu p ∧ nu p ≤ nu (V 9 0) := by have z := ok_u (n := nu (V 9 0)) (by rw [← h9.1]; exact hp) (by have := h9.2; omega); exact ⟨z.1, z.2.1⟩
  have qhp := hP (nu p) khp.1 khp.2
  have ohp := qhp.1.1
  refine wk_run C k_PR_permit_5 (pc2 := 9) (lv2 := [(4, .ref (pA (nu p))), (0, .ref x), (1, .int p), (2, .int q), (3, .int a)]) (st2 := [.int q, .ref x]) rfl ?_
  rcases (Classical.em (ho_ V q)).symm with hh | hh
  ·
    refine wk_callV (cl := ("ProfileRights", T_PR, 7)) (rest := []) C (k_holN l D HB h own V x gl ul pl mo aq tr (V 23 0) gA uA pA pn pe eB sf hO hGL hUL h7 h8 hlt q hh) cs_PR_153 kc_PR_testHolder ki_PR hO.1 rfl rfl rfl (Nat.le_of_ble_eq_true rfl) (Nat.le_of_ble_eq_true rfl) (Nat.le_of_ble_eq_true rfl) (Nat.le_of_ble_eq_true rfl) (Nat.le_of_ble_eq_true rfl) d_PR_permit_9 (fun v h2 hq => ?_) (fun E h2 hq => by obtain ⟨e1, e2⟩ := hq; cases e1; replace e2 := e2.symm; subst e2; exact wx_out C (an_t hX (by clear C hX; grind [sp_permit])) (by decide) (by decide))
    exact nomatch hq.1
  refine wk_callV (cl := ("ProfileRights", T_PR, 7)) (rest := []) C (k_holY l D HB h own V x gl ul pl mo aq tr (V 23 0) gA uA pA pn pe eB sf hO hGL hUL h7 h8 hG hU q hh) cs_PR_153 kc_PR_testHolder ki_PR hO.1 rfl rfl rfl (Nat.le_of_ble_eq_true rfl) (Nat.le_of_ble_eq_true rfl) (Nat.le_of_ble_eq_true rfl) (Nat.le_of_ble_eq_true rfl) (Nat.le_of_ble_eq_true rfl) d_PR_permit_9 (fun v h2 hq => ?_) (fun _ _ z => nomatch z.1)
  obtain ⟨e1, e2⟩ := hq; cases e1; replace e2 := e2.symm; subst e2
  refine wk_run C k_PR_permit_12 (pc2 := 14) (lv2 := [(4, .ref (pA (nu p))), (0, .ref x), (1, .int p), (2, .int q), (3, .int a)]) (st2 := [.int (-1), .int a]) rfl ?_
  rcases (Classical.em (¬ (a < -1 ∨ ¬ a ≤ 4))).symm with ha | ha
  ·
    refine wk_callS (rest := []) C (k_testLevelN l D HB h hlt a (-1) (Classical.not_not.mp ha)) cs_PR_142 kc_PR_testLevel ki_PR rfl rfl (Nat.le_of_ble_eq_true rfl) (Nat.le_of_ble_eq_true rfl) (Nat.le_of_ble_eq_true rfl) (Nat.le_of_ble_eq_true rfl) (Nat.le_of_ble_eq_true rfl) d_PR_permit_14 (fun v h2 hq => ?_) (fun E h2 hq => by obtain ⟨e1, e2⟩ := hq; cases e1; replace e2 := e2.symm; subst e2; exact wx_out C (an_t hX (by clear C hX; grind [sp_permit])) (by decide) (by decide))
    exact nomatch hq.1
  refine wk_callS (rest := []) C (k_testLevelY l D HB h hlt a (-1) ha) cs_PR_142 kc_PR_testLevel ki_PR rfl rfl (Nat.le_of_ble_eq_true rfl) (Nat.le_of_ble_eq_true rfl) (Nat.le_of_ble_eq_true rfl) (Nat.le_of_ble_eq_true rfl) (Nat.le_of_ble_eq_true rfl) d_PR_permit_14 (fun v h2 hq => ?_) (fun _ _ z => nomatch z.1)
  obtain ⟨e1, e2⟩ := hq; cases e1; replace e2 := e2.symm; subst e2
  refine wk_run C k_PR_permit_17 (pc2 := 20) (lv2 := [(4, .ref (pA (nu p))), (0, .ref x), (1, .int p), (2, .int q), (3, .int a)]) (st2 := [.int q, .ref (pA (nu p))]) rfl ?_
  obtain ⟨b0, hb, ob1, ob2⟩ := id qhp.2.2.1
  have h10 := (w16 (nu p)).2
  cases hf : fe_ V (nu p) q with
  | none =>
    have hfs : fs_ (fun j => V 17 (10 * nu p + j)) q (nu (V 16 (nu p))) none := hf ▸ fe_s V (nu p) q
    refine wk_callV (cl := ("ProfileRights$Profile", T_PF, 6)) (rest := []) C (c_PF_entryOf l D HB h (pA (nu p)) (pn (nu p)) (pe (nu p)) b0 (nu (V 16 (nu p))) _ _ _ _ (eB (nu p)) _ _ _ _ ohp hb qhp.2.2.2.1 h10 q none hfs) cs_PR_156 kc_PF_entryOf ki_PF ohp rfl rfl rfl (Nat.le_of_ble_eq_true rfl) (Nat.le_of_ble_eq_true rfl) (Nat.le_of_ble_eq_true rfl) (Nat.le_of_ble_eq_true rfl) (Nat.le_of_ble_eq_true rfl) d_PR_permit_20 (fun v h2 hq => ?_) (fun _ _ z => nomatch z.1)
    obtain ⟨e1, e2⟩ := hq; cases e1; replace e2 := e2.symm; subst e2
    show Wk _ _ _ _ _ _ _ _ _ _ _ _ _ _ _ _ _ _ _ (.null :: _)
    refine wk_run C k_PR_permit_23 (pc2 := 27) (lv2 := [(5, .null), (4, .ref (pA (nu p))), (0, .ref x), (1, .int p), (2, .int q), (3, .int a)]) (st2 := [.null]) rfl ?_
    refine wk_nnN C d_PR_permit_27 ?_
    refine wk_run C k_PR_permit_30 (pc2 := 31) (lv2 := [(5, .null), (4, .ref (pA (nu p))), (0, .ref x), (1, .int p), (2, .int q), (3, .int a)]) (st2 := [.int (-1)]) rfl ?_
    refine wk_goto C d_PR_permit_31 (tgt := 39) (by decide) ?_
    refine wk_run C k_PR_permit_39 (pc2 := 43) (lv2 := [(6, .int (-1)), (5, .null), (4, .ref (pA (nu p))), (0, .ref x), (1, .int p), (2, .int q), (3, .int a)]) (st2 := [.int (-1), .int a]) rfl ?_
    refine wk_br C d_PR_permit_43 (P := ¬ a = (-1)) (tgt := 55) (rest := []) rfl (by decide) (fun c1 => ?_) (fun c1 => ?_)
    ·
      refine wk_run C k_PR_permit_55 (pc2 := 57) (lv2 := [(6, .int (-1)), (5, .null), (4, .ref (pA (nu p))), (0, .ref x), (1, .int p), (2, .int q), (3, .int a)]) (st2 := [.null]) rfl ?_
      refine wk_nlN C d_PR_permit_57 (tgt := 69) (by decide) ?_
      refine wk_run C k_PR_permit_69 (pc2 := 71) (lv2 := [(6, .int (-1)), (5, .null), (4, .ref (pA (nu p))), (0, .ref x), (1, .int p), (2, .int q), (3, .int a)]) (st2 := [.ref (pA (nu p))]) rfl ?_
      refine wk_callV (cl := ("ProfileRights$Profile", T_PF, 6)) (rest := []) C (c_PF_isFull l D HB h (pA (nu p)) (pn (nu p)) (pe (nu p)) _ _ _ _ ohp b0 (nu (V 16 (nu p))) (eB (nu p)) hb (by omega)) cs_PR_168 kc_PF_isFull ki_PF ohp rfl rfl rfl (Nat.le_of_ble_eq_true rfl) (Nat.le_of_ble_eq_true rfl) (Nat.le_of_ble_eq_true rfl) (Nat.le_of_ble_eq_true rfl) (Nat.le_of_ble_eq_true rfl) d_PR_permit_71 (fun v h2 hq => ?_) (fun _ _ z => nomatch z.1)
      obtain ⟨e1, e2⟩ := hq; cases e1; replace e2 := e2.symm; subst e2
      rcases (Classical.em (V 16 (nu p) = 10)).symm with hf0 | hf0
      ·
        have k9 := (ok_n10 (w16 (nu p)) hf0).2
        rw [if_pos (by omega)]
        refine wk_br C d_PR_permit_74 (P := 0 = 0) (tgt := 87) (rest := []) rfl (by decide) (fun c2 => ?_) (fun c2 => ?_)
        ·
          refine wk_run C k_PR_permit_87 (pc2 := 89) (lv2 := [(6, .int (-1)), (5, .null), (4, .ref (pA (nu p))), (0, .ref x), (1, .int p), (2, .int q), (3, .int a)]) (st2 := [.ref (pA (nu p))]) rfl ?_
          refine wk_get C fd_PR_171 ohp rfl d_PR_permit_89 ?_
          refine wk_new C nw_PR_161 (Nat.le_of_ble_eq_true rfl) (Nat.le_of_ble_eq_true rfl) d_PR_permit_92 (fun y hy => ?_)
          refine wk_run C k_PR_permit_95 (pc2 := 98) (lv2 := [(6, .int (-1)), (5, .null), (4, .ref (pA (nu p))), (0, .ref x), (1, .int p), (2, .int q), (3, .int a)]) (st2 := [.int a, .int q, .ref y, .ref y, .ref (pe (nu p))]) rfl ?_
          refine wk_callI (rest := [.ref y, .ref (pe (nu p))]) C (c_EN_init l D HB _ y 0 0 0 0 q a hp_us) cs_PR_174 kc_EN_init ki_EN rfl rfl (Nat.le_of_ble_eq_true rfl) (Nat.le_of_ble_eq_true rfl) (Nat.le_of_ble_eq_true rfl) (Nat.le_of_ble_eq_true rfl) (Nat.le_of_ble_eq_true rfl) d_PR_permit_98 (fun v h2 hq => ?_) (fun _ _ z => nomatch z.1)
          obtain ⟨e1, e2⟩ := hq; cases e1; rw [hp_uu] at e2; replace e2 := e2.symm; subst e2
          have s2 := st_n (L := []) (own := own) (x := .inr (4, [.int q, .int a, .int 0, .int 16777215])) (t := (27, nu p)) hy
          have hy2 : hp_up h y (.inr (4, [.int q, .int a, .int 0, .int 16777215])) y = some (.inr (4, [.int q, .int a, .int 0, .int 16777215])) := hp_us
          have hE1 := cE_m qhp.2.2.2 s2 (by decide)
          have hL2 := cL_m qhp.2.2.1 s2 (by decide) (by decide)
          obtain ⟨b2, hb2, ob21, ob22⟩ := id hL2
          obtain ⟨md2, hl2, -⟩ := id hb2
          refine wk_nb C (fun nb => ?_)
          refine wk_callV (cl := ("java/util/ArrayList", T_AL, 3)) (rest := []) C (c_AL_add_0 l D HB _ (pe (nu p)) b2 (nu (V 16 (nu p))) y _ hb2 (by omega) (fun i hi => kx_ob 4 (by decide) (hE1.1 i hi)) (kx_ob 4 (by decide) hy2)) cs_PR_64 kc_AL_add_0 ki_AL hl2 rfl rfl rfl (Nat.le_of_ble_eq_true rfl) (Nat.le_of_ble_eq_true rfl) (Nat.le_of_ble_eq_true rfl) (Nat.le_of_ble_eq_true rfl) (Nat.le_of_ble_eq_true rfl) d_PR_permit_101 (fun v h3 hq => ?_) (fun _ _ z => nomatch z.1)
          obtain ⟨e1, b3, kl, kb, kf⟩ := hq; cases e1
          refine wk_nb C (fun nb3 => ?_)
          obtain ⟨own3, hL3, s3⟩ := cL_add hb2 ob21 ob22 nb nb3 kl kb kf
          have t3 := sx_st s3
          have s0 : sx_ (fun t => t.2 = nu p ∧ t.1 ∈ [25, 25 + 100]) h own h3 own3 := sx_t (sx_n hy) s3
          have s := sx_st s0
          refine wk_run C k_PR_permit_104 (pc2 := 107) (lv2 := [(6, .int (-1)), (5, .null), (4, .ref (pA (nu p))), (0, .ref x), (1, .int p), (2, .int q), (3, .int a)]) (st2 := [.int (-1)]) rfl ?_
          obtain ⟨V2, hV2⟩ : ∃ V2 : vT, V2 = vs (vs (vs (vs (vs (vc V 0 0) 17 (upd (V 17) (10 * nu p + nu (V 16 (nu p))) q)) 18 (upd (V 18) (10 * nu p + nu (V 16 (nu p))) a)) 19 (upd (V 19) (10 * nu p + nu (V 16 (nu p))) 0)) 20 (upd (V 20) (10 * nu p + nu (V 16 (nu p))) 16777215)) 16 (upd (V 16) (nu p) (V 16 (nu p) + 1)) := ⟨_, rfl⟩
          have hr : sp_permit V p q a = (0, -1, V2) := by clear C hX; grind [sp_permit]
          have ev17 : V2 17 = upd (V 17) (10 * nu p + nu (V 16 (nu p))) q := by rw [hV2]; rfl
          have ev18 : V2 18 = upd (V 18) (10 * nu p + nu (V 16 (nu p))) a := by rw [hV2]; rfl
          have ev19 : V2 19 = upd (V 19) (10 * nu p + nu (V 16 (nu p))) 0 := by rw [hV2]; rfl
          have ev20 : V2 20 = upd (V 20) (10 * nu p + nu (V 16 (nu p))) 16777215 := by rw [hV2]; rfl
          have ev16 : V2 16 = upd (V 16) (nu p) (V 16 (nu p) + 1) := by rw [hV2]; rfl
          have kp := ok_p (w16 (nu p)) hf0 (by decide)
          have eN : nu (V2 16 (nu p)) = nu (V 16 (nu p)) + 1 := by rw [ev16, upd_s]; exact kp.2
          have y3 := t3 y _ hy2 (by rw [ou_s]; simp)
          have hE3 : cE h3 own3 (nu p) (nu (V 16 (nu p)) + 1) (al_cat (eB (nu p)) (nu (V 16 (nu p))) y) V2 := cE_add (cE_m hE1 t3 (by decide)) (by rw [ev17, ev18, ev19, ev20, upd_s, upd_s, upd_s, upd_s]; exact y3.1) (by rw [y3.2, ou_s]) (fun j hj z => by have := qhp.2.2.2.1 j hj; rw [z, hy] at this; cases this) (fun j hj => by rw [ev17, ev18, ev19, ev20, upd_n (by omega), upd_n (by omega), upd_n (by omega), upd_n (by omega)]; exact ⟨rfl, rfl, rfl, rfl⟩)
          have hq2 : cQ D h3 own3 (nu p) (pA (nu p)) (pn (nu p)) (pe (nu p)) (up2 eB (nu p) (al_cat (eB (nu p)) (nu (V 16 (nu p))) y) (nu p)) V2 := by
            have so := s _ _ ohp (by rw [qhp.1.2]; simp)
            rw [up2_s]
            refine ⟨⟨?_, so.2.trans qhp.1.2⟩, ?_, ?_, ?_⟩
            · rw [hV2]; exact so.1
            · rw [hV2]; exact cN_m qhp.2.1 s (by decide) (by decide)
            · rw [eN]; exact hL3
            · rw [eN]; exact hE3
          have hP2 : cP D h3 own3 (nu (V2 9 0)) pA pn pe (up2 eB (nu p) (al_cat (eB (nu p)) (nu (V 16 (nu p))) y)) V2 := by rw [show V2 9 0 = V 9 0 by rw [hV2]; rfl]; exact cP_x hP s0 hq2 (fun j hj => ⟨up2_n hj, by rw [qe_, ev16, ev17, ev18, ev19, ev20, hV2]; exact ⟨rfl, rfl, rfl, rfl, upd_n hj, fun _ _ => rfl, fun i hi => ⟨upd_n (by omega), upd_n (by omega), upd_n (by omega), upd_n (by omega)⟩⟩⟩) w16
          subst hV2
          exact wk_iret C (an_o (V2 := vs (vs (vs (vs (vs (vc V 0 0) 17 (upd (V 17) (10 * nu p + nu (V 16 (nu p))) q)) 18 (upd (V 18) (10 * nu p + nu (V 16 (nu p))) a)) 19 (upd (V 19) (10 * nu p + nu (V 16 (nu p))) 0)) 20 (upd (V 20) (10 * nu p + nu (V 16 (nu p))) 16777215)) 16 (upd (V 16) (nu p) (V 16 (nu p) + 1))) ⟨gl, ul, pl, mo, aq, tr, gA, uA, pA, pn, pe, up2 eB (nu p) (al_cat (eB (nu p)) (nu (V 16 (nu p))) y), sf, cO_m hO s (by decide), cL_m hGL s (by decide) (by decide), cL_m hUL s (by decide) (by decide), cL_m hPL s (by decide) (by decide), cM_m hM s (by decide), cN_m hN s (by decide) (by decide), cT_m hT s (by decide) (by decide), cG_m hG s (by decide), cU_m hU s (by decide), hB, hP2⟩ (st_so s (by decide)) hr) (by decide) (by decide) d_PR_permit_107
        ·
          exact absurd rfl c2
      ·
        rw [if_neg (by rw [hf0]; decide)]
        refine wk_br C d_PR_permit_74 (P := 1 = 0) (tgt := 87) (rest := []) rfl (by decide) (fun c2 => ?_) (fun c2 => ?_)
        ·
          exact absurd c2 (by decide)
        ·
          exact wk_thrS C hlt (text := "the list is full") (is := 169) (by decide) d_PR_permit_77 d_PR_permit_80 d_PR_permit_81 d_PR_permit_83 d_PR_permit_86 (by decide) (Nat.le_of_ble_eq_true rfl) (by decide) (by decide) (by decide) (by decide) (an_s hX (by clear C hX; grind [sp_permit]))
    ·
      have ca : a = -1 := Classical.not_not.mp c1
      refine wk_run C k_PR_permit_46 (pc2 := 49) (lv2 := [(6, .int (-1)), (5, .null), (4, .ref (pA (nu p))), (0, .ref x), (1, .int p), (2, .int q), (3, .int a)]) (st2 := [.int q, .ref (pA (nu p))]) rfl ?_
      refine wk_callV (cl := ("ProfileRights$Profile", T_PF, 6)) (rest := []) C (c_PF_dropEntry l D HB h (pA (nu p)) (pn (nu p)) (pe (nu p)) b0 (nu (V 16 (nu p))) _ _ _ _ (eB (nu p)) _ _ _ _ ohp hb qhp.2.2.2.1 h10 q none hfs) cs_PR_165 kc_PF_dropEntry ki_PF ohp rfl rfl rfl (Nat.le_of_ble_eq_true rfl) (Nat.le_of_ble_eq_true rfl) (Nat.le_of_ble_eq_true rfl) (Nat.le_of_ble_eq_true rfl) (Nat.le_of_ble_eq_true rfl) d_PR_permit_49 (fun v h2 hq => ?_) (fun _ _ z => nomatch z.1)
      obtain ⟨e1, e2⟩ := hq; cases e1; replace e2 : h = h2 := Eq.symm e2; subst e2
      refine wk_goto C d_PR_permit_52 (tgt := 105) (by decide) ?_
      refine wk_run C k_PR_permit_105 (pc2 := 107) (lv2 := [(6, .int (-1)), (5, .null), (4, .ref (pA (nu p))), (0, .ref x), (1, .int p), (2, .int q), (3, .int a)]) (st2 := [.int (-1)]) rfl ?_
      exact wk_iret C (an_q hX (by clear C hX; grind [sp_permit])) (by decide) (by decide) d_PR_permit_107
  | some k =>
    have hfs : fs_ (fun j => V 17 (10 * nu p + j)) q (nu (V 16 (nu p))) (some k) := hf ▸ fe_s V (nu p) q
    refine wk_callV (cl := ("ProfileRights$Profile", T_PF, 6)) (rest := []) C (c_PF_entryOf l D HB h (pA (nu p)) (pn (nu p)) (pe (nu p)) b0 (nu (V 16 (nu p))) _ _ _ _ (eB (nu p)) _ _ _ _ ohp hb qhp.2.2.2.1 h10 q (some k) hfs) cs_PR_156 kc_PF_entryOf ki_PF ohp rfl rfl rfl (Nat.le_of_ble_eq_true rfl) (Nat.le_of_ble_eq_true rfl) (Nat.le_of_ble_eq_true rfl) (Nat.le_of_ble_eq_true rfl) (Nat.le_of_ble_eq_true rfl) d_PR_permit_20 (fun v h2 hq => ?_) (fun _ _ z => nomatch z.1)
    obtain ⟨e1, e2⟩ := hq; cases e1; replace e2 := e2.symm; subst e2
    show Wk _ _ _ _ _ _ _ _ _ _ _ _ _ _ _ _ _ _ _ (.ref (eB (nu p) k) :: _)
    have hk := hfs.1
    have oe : h (eB (nu p) k) = some (.inr (4, [.int (V 17 (10 * nu p + k)), .int (V 18 (10 * nu p + k)), .int (V 19 (10 * nu p + k)), .int (V 20 (10 * nu p + k))])) := qhp.2.2.2.1 k hk
    have oo : own (eB (nu p) k) = (27, nu p) := qhp.2.2.2.2.1 k hk
    refine wk_run C k_PR_permit_23 (pc2 := 27) (lv2 := [(5, .ref (eB (nu p) k)), (4, .ref (pA (nu p))), (0, .ref x), (1, .int p), (2, .int q), (3, .int a)]) (st2 := [.ref (eB (nu p) k)]) rfl ?_
    refine wk_nnR C d_PR_permit_27 (tgt := 34) (by decide) ?_
    refine wk_run C k_PR_permit_34 (pc2 := 36) (lv2 := [(5, .ref (eB (nu p) k)), (4, .ref (pA (nu p))), (0, .ref x), (1, .int p), (2, .int q), (3, .int a)]) (st2 := [.ref (eB (nu p) k)]) rfl ?_
    refine wk_get C fd_PR_160 oe rfl d_PR_permit_36 ?_
    refine wk_run C k_PR_permit_39 (pc2 := 43) (lv2 := [(6, .int (V 18 (10 * nu p + k))), (5, .ref (eB (nu p) k)), (4, .ref (pA (nu p))), (0, .ref x), (1, .int p), (2, .int q), (3, .int a)]) (st2 := [.int (-1), .int a]) rfl ?_
    refine wk_br C d_PR_permit_43 (P := ¬ a = (-1)) (tgt := 55) (rest := []) rfl (by decide) (fun c1 => ?_) (fun c1 => ?_)
    ·
      refine wk_run C k_PR_permit_55 (pc2 := 57) (lv2 := [(6, .int (V 18 (10 * nu p + k))), (5, .ref (eB (nu p) k)), (4, .ref (pA (nu p))), (0, .ref x), (1, .int p), (2, .int q), (3, .int a)]) (st2 := [.ref (eB (nu p) k)]) rfl ?_
      refine wk_nlR C d_PR_permit_57 ?_
      refine wk_run C k_PR_permit_60 (pc2 := 63) (lv2 := [(6, .int (V 18 (10 * nu p + k))), (5, .ref (eB (nu p) k)), (4, .ref (pA (nu p))), (0, .ref x), (1, .int p), (2, .int q), (3, .int a)]) (st2 := [.int a, .ref (eB (nu p) k)]) rfl ?_
      refine wk_put (fs2 := [.int (V 17 (10 * nu p + k)), .int a, .int (V 19 (10 * nu p + k)), .int (V 20 (10 * nu p + k))]) C fd_PR_160 oe rfl rfl (Nat.le_of_ble_eq_true rfl) rfl d_PR_permit_63 ?_
      refine wk_goto C d_PR_permit_66 (tgt := 105) (by decide) ?_
      refine wk_run C k_PR_permit_105 (pc2 := 107) (lv2 := [(6, .int (V 18 (10 * nu p + k))), (5, .ref (eB (nu p) k)), (4, .ref (pA (nu p))), (0, .ref x), (1, .int p), (2, .int q), (3, .int a)]) (st2 := [.int (V 18 (10 * nu p + k))]) rfl ?_
      have hr : sp_permit V p q a = (0, V 18 (10 * nu p + k), vs (vc V 0 0) 18 (upd (V 18) (10 * nu p + k) a)) := by clear C hX; grind [sp_permit]
      have s0 : sx_ (fun t => t.2 = nu p ∧ t.1 ∈ [27]) h own (hp_up h (eB (nu p) k) (.inr (4, [.int (V 17 (10 * nu p + k)), .int a, .int (V 19 (10 * nu p + k)), .int (V 20 (10 * nu p + k))]))) own := sx_u (by rw [oo]; exact ⟨rfl, by simp⟩)
      have s := sx_st s0
      have hE2 : cE (hp_up h (eB (nu p) k) (.inr (4, [.int (V 17 (10 * nu p + k)), .int a, .int (V 19 (10 * nu p + k)), .int (V 20 (10 * nu p + k))]))) own (nu p) (nu (V 16 (nu p))) (eB (nu p)) (vs (vc V 0 0) 18 (upd (V 18) (10 * nu p + k) a)) := cE_u qhp.2.2.2 hk (vs (vc V 0 0) 18 (upd (V 18) (10 * nu p + k) a)) (by rw [show (vs (vc V 0 0) 18 (upd (V 18) (10 * nu p + k) a)) 18 (10 * nu p + k) = a from upd_s]; rfl) (fun j hj => ⟨rfl, upd_n (by omega), rfl, rfl⟩)
      have hP2 : cP D (hp_up h (eB (nu p) k) (.inr (4, [.int (V 17 (10 * nu p + k)), .int a, .int (V 19 (10 * nu p + k)), .int (V 20 (10 * nu p + k))]))) own (nu (V 9 0)) pA pn pe eB (vs (vc V 0 0) 18 (upd (V 18) (10 * nu p + k) a)) := cP_x hP s0 ⟨⟨(s _ _ ohp (by rw [qhp.1.2]; simp)).1, qhp.1.2⟩, cN_m qhp.2.1 s (by decide) (by decide), cL_m qhp.2.2.1 s (by decide) (by decide), hE2⟩ (fun j hj => ⟨rfl, rfl, rfl, rfl, rfl, rfl, fun _ _ => rfl, fun i hi => ⟨rfl, upd_n (by omega), rfl, rfl⟩⟩) w16
      exact wk_iret C (an_o (V2 := vs (vc V 0 0) 18 (upd (V 18) (10 * nu p + k) a)) ⟨gl, ul, pl, mo, aq, tr, gA, uA, pA, pn, pe, eB, sf, cO_m hO s (by decide), cL_m hGL s (by decide) (by decide), cL_m hUL s (by decide) (by decide), cL_m hPL s (by decide) (by decide), cM_m hM s (by decide), cN_m hN s (by decide) (by decide), cT_m hT s (by decide) (by decide), cG_m hG s (by decide), cU_m hU s (by decide), hB, hP2⟩ (st_so s (by decide)) hr) (by decide) (by decide) d_PR_permit_107
    ·
      have ca : a = -1 := Classical.not_not.mp c1
      refine wk_run C k_PR_permit_46 (pc2 := 49) (lv2 := [(6, .int (V 18 (10 * nu p + k))), (5, .ref (eB (nu p) k)), (4, .ref (pA (nu p))), (0, .ref x), (1, .int p), (2, .int q), (3, .int a)]) (st2 := [.int q, .ref (pA (nu p))]) rfl ?_
      refine wk_callV (cl := ("ProfileRights$Profile", T_PF, 6)) (rest := []) C (c_PF_dropEntry l D HB h (pA (nu p)) (pn (nu p)) (pe (nu p)) b0 (nu (V 16 (nu p))) _ _ _ _ (eB (nu p)) _ _ _ _ ohp hb qhp.2.2.2.1 h10 q (some k) hfs) cs_PR_165 kc_PF_dropEntry ki_PF ohp rfl rfl rfl (Nat.le_of_ble_eq_true rfl) (Nat.le_of_ble_eq_true rfl) (Nat.le_of_ble_eq_true rfl) (Nat.le_of_ble_eq_true rfl) (Nat.le_of_ble_eq_true rfl) d_PR_permit_49 (fun v h2 hq => ?_) (fun _ _ z => nomatch z.1)
      obtain ⟨e1, kl, kf⟩ := hq; cases e1
      refine wk_goto C d_PR_permit_52 (tgt := 105) (by decide) ?_
      refine wk_run C k_PR_permit_105 (pc2 := 107) (lv2 := [(6, .int (V 18 (10 * nu p + k))), (5, .ref (eB (nu p) k)), (4, .ref (pA (nu p))), (0, .ref x), (1, .int p), (2, .int q), (3, .int a)]) (st2 := [.int (V 18 (10 * nu p + k))]) rfl ?_
      have ob3 := ob2.resolve_left (fun z => by omega)
      have s0 : sx_ (fun t => t.2 = nu p ∧ t.1 ∈ [25, 25 + 100]) h own h2 own := sx_f kf (by rw [ob1]; exact ⟨rfl, by simp⟩) (by rw [ob3]; exact ⟨rfl, by simp⟩)
      have s := sx_st s0
      obtain ⟨V2, hV2⟩ : ∃ V2 : vT, V2 = rm_ (vs (vc V 0 0) 16 (upd (V 16) (nu p) (V 16 (nu p) - 1))) (10 * nu p + k) (10 * nu p + nu (V 16 (nu p) - 1)) := ⟨_, rfl⟩
      have hr : sp_permit V p q a = (0, V 18 (10 * nu p + k), V2) := by clear C hX; grind [sp_permit]
      have kd := ok_dec (w16 (nu p)) (by omega) (by decide)
      have ev17 : V2 17 = sh_ (V 17) (10 * nu p + k) (10 * nu p + (nu (V 16 (nu p)) - 1)) := by rw [hV2, ← kd.2]; rfl
      have ev18 : V2 18 = sh_ (V 18) (10 * nu p + k) (10 * nu p + (nu (V 16 (nu p)) - 1)) := by rw [hV2, ← kd.2]; rfl
      have ev19 : V2 19 = sh_ (V 19) (10 * nu p + k) (10 * nu p + (nu (V 16 (nu p)) - 1)) := by rw [hV2, ← kd.2]; rfl
      have ev20 : V2 20 = sh_ (V 20) (10 * nu p + k) (10 * nu p + (nu (V 16 (nu p)) - 1)) := by rw [hV2, ← kd.2]; rfl
      have ev16 : V2 16 = upd (V 16) (nu p) (V 16 (nu p) - 1) := by rw [hV2]; rfl
      have eN : nu (V2 16 (nu p)) = nu (V 16 (nu p)) - 1 := by rw [ev16, upd_s]; exact kd.2
      have hE3 : cE h2 own (nu p) (nu (V 16 (nu p)) - 1) (al_del (eB (nu p)) k) V2 := cE_del (cE_m qhp.2.2.2 s (by decide)) hk ev17 ev18 ev19 ev20
      have hq2 : cQ D h2 own (nu p) (pA (nu p)) (pn (nu p)) (pe (nu p)) (up2 eB (nu p) (al_del (eB (nu p)) k) (nu p)) V2 := by
        have so := s _ _ ohp (by rw [qhp.1.2]; simp)
        rw [up2_s]
        refine ⟨⟨?_, qhp.1.2⟩, ?_, ?_, ?_⟩
        · rw [hV2]; exact so.1
        · rw [hV2]; exact cN_m qhp.2.1 s (by decide) (by decide)
        · rw [eN]; exact ⟨b0, kl, ob1, Or.inr ob3⟩
        · rw [eN]; exact hE3
      have hP2 : cP D h2 own (nu (V2 9 0)) pA pn pe (up2 eB (nu p) (al_del (eB (nu p)) k)) V2 := by rw [show V2 9 0 = V 9 0 by rw [hV2]; rfl]; exact cP_x hP s0 hq2 (fun j hj => ⟨up2_n hj, by rw [qe_, ev16, ev17, ev18, ev19, ev20, hV2]; exact ⟨rfl, rfl, rfl, rfl, upd_n hj, fun _ _ => rfl, fun i hi => ⟨sh_out (by omega), sh_out (by omega), sh_out (by omega), sh_out (by omega)⟩⟩⟩) w16
      subst hV2
      exact wk_iret C (an_o (V2 := rm_ (vs (vc V 0 0) 16 (upd (V 16) (nu p) (V 16 (nu p) - 1))) (10 * nu p + k) (10 * nu p + nu (V 16 (nu p) - 1))) ⟨gl, ul, pl, mo, aq, tr, gA, uA, pA, pn, pe, up2 eB (nu p) (al_del (eB (nu p)) k), sf, cO_m hO s (by decide), cL_m hGL s (by decide) (by decide), cL_m hUL s (by decide) (by decide), cL_m hPL s (by decide) (by decide), cM_m hM s (by decide), cN_m hN s (by decide) (by decide), cT_m hT s (by decide) (by decide), cG_m hG s (by decide), cU_m hU s (by decide), hB, hP2⟩ (st_so s (by decide)) hr) (by decide) (by decide) d_PR_permit_107
theorem cG_u {h : hp_T} {own : oT} {n : Nat} {gA : Nat → Nat} {V : vT} (hG : cG h own n gA V) {k : Nat} (hk : 1 ≤ k ∧ k ≤ n) (V2 : vT) {e : va_E} (he : e = .inr (1, [.int (nI k), pv_ gA (V2 1 k)])) (ho : ∀ j, j ≠ k → V2 1 j = V 1 j) : cG (hp_up h (gA k) e) own n gA V2 := by
  intro j h1 h2
  by_cases z : j = k
  · subst z; exact ⟨by rw [hp_us, he], (hG j h1 h2).2⟩
  · have ne : gA j ≠ gA k := fun y => z (by
      have h3 := (hG j h1 h2).2
      rw [y, (hG k hk.1 hk.2).2] at h3
      exact (congrArg Prod.snd h3).symm)
    rw [hp_un ne, ho j z]
    exact hG j h1 h2
theorem k_PR_move_0 : px_dec prog_1_method_3_code [.aload_n 0, .iload_n 1] 0 = true := by decide +kernel
theorem d_PR_move_2 : decode prog_1_method_3_code 2 = .ok (.invokevirtual 68, 3) := by decide +kernel
theorem k_PR_move_5 : px_dec prog_1_method_3_code [.astore_n 3, .aload_n 0, .iload_n 2] 5 = true := by decide +kernel
theorem d_PR_move_8 : decode prog_1_method_3_code 8 = .ok (.invokevirtual 44, 3) := by decide +kernel
theorem k_PR_move_11 : px_dec prog_1_method_3_code [.astore 4, .aload 4, .aload_n 3] 11 = true := by decide +kernel
theorem d_PR_move_16 : decode prog_1_method_3_code 16 = .ok (.invokestatic 71, 3) := by decide +kernel
theorem d_PR_move_19 : decode prog_1_method_3_code 19 = .ok (.ifCond .eq 5, 3) := by decide +kernel
theorem k_PR_move_22 : px_dec prog_1_method_3_code [.iconst 0] 22 = true := by decide +kernel
theorem d_PR_move_23 : decode prog_1_method_3_code 23 = .ok (.ireturn, 1) := by decide +kernel
theorem k_PR_move_24 : px_dec prog_1_method_3_code [.aload_n 3, .aload 4] 24 = true := by decide +kernel
theorem d_PR_move_27 : decode prog_1_method_3_code 27 = .ok (.putfield 75, 3) := by decide +kernel
theorem k_PR_move_30 : px_dec prog_1_method_3_code [.iconst 1] 30 = true := by decide +kernel
theorem d_PR_move_31 : decode prog_1_method_3_code 31 = .ok (.ireturn, 1) := by decide +kernel
set_option maxRecDepth 100000 in
set_option maxHeartbeats 4000000 in
theorem o_move (l : Launch) (D : va_G) (HB : Heap) (h : hp_T) (hlt : l.stackTraces = false) (own : oT) (V : vT) (x : Nat) (y : Int32) (g : Int32) (hX : cr D h own x V) (hW : wf V) : ct_M l y_PR_move (.code y_PR_move prog_1_method_3_code 5 (Option.some Jvm.ClassFile.FieldType.int)) ({ frames := 9, cells := 8, slots := 200, locals := 320 }) D HB [.ref x, .int y, .int g] h (fun o h2 => an2 D h own x (sp_move V y g) o h2) := by
  refine ct_of (by decide) (Nat.le_of_ble_eq_true rfl) rfl ?_
  intro p_ e_ s_ m_ r_ b_ t_ c_ C hnm
  obtain ⟨gl, ul, pl, mo, aq, tr, gA, uA, pA, pn, pe, eB, sf, hO, hGL, hUL, hPL, hM, hN, hT, hG, hU, hB, hP⟩ := id hX
  obtain ⟨h7, h8, h9, h22, w1, w2, w21, w5, w6, w10, w13, w16, w4, wz, wy, wc⟩ := id hW
  refine wk_run C k_PR_move_0 (pc2 := 2) (lv2 := [(0, .ref x), (1, .int y), (2, .int g)]) (st2 := [.int y, .ref x]) rfl ?_
  rcases (Classical.em (¬ y < 1 ∧ y ≤ V 7 0)).symm with hy | hy
  ·
    refine wk_callV (cl := ("ProfileRights", T_PR, 7)) (rest := []) C (k_groupN l D HB h own V x gl ul pl mo aq tr (V 23 0) gA uA pA pn pe eB sf hO hGL h7 hlt y hy) cs_PR_68 kc_PR_groupAt ki_PR hO.1 rfl rfl rfl (Nat.le_of_ble_eq_true rfl) (Nat.le_of_ble_eq_true rfl) (Nat.le_of_ble_eq_true rfl) (Nat.le_of_ble_eq_true rfl) (Nat.le_of_ble_eq_true rfl) d_PR_move_2 (fun v h2 hq => ?_) (fun E h2 hq => by obtain ⟨e1, e2⟩ := hq; cases e1; replace e2 := e2.symm; subst e2; exact wx_out C (an_t hX (by clear C hX; grind [sp_move])) (by decide) (by decide))
    exact nomatch hq.1
  refine wk_callV (cl := ("ProfileRights", T_PR, 7)) (rest := []) C (k_groupY l D HB h own V x gl ul pl mo aq tr (V 23 0) gA uA pA pn pe eB sf hO hGL h7 hG y hy) cs_PR_68 kc_PR_groupAt ki_PR hO.1 rfl rfl rfl (Nat.le_of_ble_eq_true rfl) (Nat.le_of_ble_eq_true rfl) (Nat.le_of_ble_eq_true rfl) (Nat.le_of_ble_eq_true rfl) (Nat.le_of_ble_eq_true rfl) d_PR_move_2 (fun v h2 hq => ?_) (fun _ _ z => nomatch z.1)
  obtain ⟨e1, e2⟩ := hq; cases e1; replace e2 := e2.symm; subst e2
  show Wk _ _ _ _ _ _ _ _ _ _ _ _ _ _ _ _ _ _ _ (.ref (gA (nu y)) :: _)
  refine wk_run C k_PR_move_5 (pc2 := 8) (lv2 := [(3, .ref (gA (nu y))), (0, .ref x), (1, .int y), (2, .int g)]) (st2 := [.int g, .ref x]) rfl ?_
  rcases (Classical.em (g = 0 ∨ ¬ g < 1 ∧ g ≤ V 7 0)).symm with hg | hg
  ·
    refine wk_callV (cl := ("ProfileRights", T_PR, 7)) (rest := []) C (k_gonN l D HB h own V x gl ul pl mo aq tr (V 23 0) gA uA pA pn pe eB sf hO hGL h7 hlt g hg) cs_PR_44 kc_PR_groupOrNone ki_PR hO.1 rfl rfl rfl (Nat.le_of_ble_eq_true rfl) (Nat.le_of_ble_eq_true rfl) (Nat.le_of_ble_eq_true rfl) (Nat.le_of_ble_eq_true rfl) (Nat.le_of_ble_eq_true rfl) d_PR_move_8 (fun v h2 hq => ?_) (fun E h2 hq => by obtain ⟨e1, e2⟩ := hq; cases e1; replace e2 := e2.symm; subst e2; exact wx_out C (an_t hX (by clear C hX; grind [sp_move])) (by decide) (by decide))
    exact nomatch hq.1
  refine wk_callV (cl := ("ProfileRights", T_PR, 7)) (rest := []) C (k_gonY l D HB h own V x gl ul pl mo aq tr (V 23 0) gA uA pA pn pe eB sf hO hGL h7 hG g hg) cs_PR_44 kc_PR_groupOrNone ki_PR hO.1 rfl rfl rfl (Nat.le_of_ble_eq_true rfl) (Nat.le_of_ble_eq_true rfl) (Nat.le_of_ble_eq_true rfl) (Nat.le_of_ble_eq_true rfl) (Nat.le_of_ble_eq_true rfl) d_PR_move_8 (fun v h2 hq => ?_) (fun _ _ z => nomatch z.1)
  obtain ⟨e1, e2⟩ := hq; cases e1; replace e2 := e2.symm; subst e2
  have kg : ok_ g (nu (V 7 0)) := ok_0n h7 hg
  have ky : 1 ≤ nu y ∧ nu y ≤ nu (V 7 0) := by have z := ok_u (n := nu (V 7 0)) (by rw [← h7.1]; exact hy) (by have := h7.2; omega); exact ⟨z.1, z.2.1⟩
  have og := hG (nu y) ky.1 ky.2
  have kw := c_PR_isWithin l D HB h own (nu (V 7 0)) gA V g (nu y) hG h7.2 (fun k _ _ => w1 k) kg ky (wc (nu g))
  rcases Classical.em (g = 0) with hz | hz
  ·
    rw [pv_0 hz] at kw ⊢
    refine wk_run C k_PR_move_11 (pc2 := 16) (lv2 := [(4, .null), (3, .ref (gA (nu y))), (0, .ref x), (1, .int y), (2, .int g)]) (st2 := [.ref (gA (nu y)), .null]) rfl ?_
    refine wk_callS (rest := []) C (kw) cs_PR_71 kc_PR_isWithin ki_PR rfl rfl (Nat.le_of_ble_eq_true rfl) (Nat.le_of_ble_eq_true rfl) (Nat.le_of_ble_eq_true rfl) (Nat.le_of_ble_eq_true rfl) (Nat.le_of_ble_eq_true rfl) d_PR_move_16 (fun v h2 hq => ?_) (fun _ _ z => nomatch z.1)
    obtain ⟨e1, e2⟩ := hq; cases e1; replace e2 := e2.symm; subst e2
    rcases Classical.em (mv_ V (nu y) (nu g)) with hm | hm
    ·
      rw [z_p hm]
      refine wk_br C d_PR_move_19 (P := 1 = 0) (tgt := 24) (rest := []) rfl (by decide) (fun c1 => ?_) (fun c1 => ?_)
      ·
        exact absurd c1 (by decide)
      ·
        refine wk_run C k_PR_move_22 (pc2 := 23) (lv2 := [(4, .null), (3, .ref (gA (nu y))), (0, .ref x), (1, .int y), (2, .int g)]) (st2 := [.int 0]) rfl ?_
        exact wk_iret C (an_q hX (sp_m1 ⟨hy, hg⟩ hm)) (by decide) (by decide) d_PR_move_23
    ·
      rw [z_n hm]
      refine wk_br C d_PR_move_19 (P := 0 = 0) (tgt := 24) (rest := []) rfl (by decide) (fun c1 => ?_) (fun c1 => ?_)
      ·
        refine wk_run C k_PR_move_24 (pc2 := 27) (lv2 := [(4, .null), (3, .ref (gA (nu y))), (0, .ref x), (1, .int y), (2, .int g)]) (st2 := [.null, .ref (gA (nu y))]) rfl ?_
        refine wk_put (fs2 := [.int (nI (nu y)), .null]) C fd_PR_75 og.1 rfl rfl (Nat.le_of_ble_eq_true rfl) rfl d_PR_move_27 ?_
        refine wk_run C k_PR_move_30 (pc2 := 31) (lv2 := [(4, .null), (3, .ref (gA (nu y))), (0, .ref x), (1, .int y), (2, .int g)]) (st2 := [.int 1]) rfl ?_
        have s : st_ [20] h own (hp_up h (gA (nu y)) (.inr (1, [.int (nI (nu y)), .null]))) own := st_u (t := 20) (by rw [og.2]) (by decide)
        have hG2 : cG (hp_up h (gA (nu y)) (.inr (1, [.int (nI (nu y)), .null]))) own (nu (V 7 0)) gA (vs (vc V 0 0) 1 (upd (V 1) (nu y) g)) := cG_u hG ky (vs (vc V 0 0) 1 (upd (V 1) (nu y) g)) (by rw [show (vs (vc V 0 0) 1 (upd (V 1) (nu y) g)) 1 (nu y) = g from upd_s, pv_0 hz]) (fun j hj => upd_n hj)
        exact wk_iret C (an_o (V2 := vs (vc V 0 0) 1 (upd (V 1) (nu y) g)) ⟨gl, ul, pl, mo, aq, tr, gA, uA, pA, pn, pe, eB, sf, cO_m hO s (by decide), cL_m hGL s (by decide) (by decide), cL_m hUL s (by decide) (by decide), cL_m hPL s (by decide) (by decide), cM_m hM s (by decide), cN_m hN s (by decide) (by decide), cT_m hT s (by decide) (by decide), hG2, cU_m hU s (by decide), hB, cP_m hP s (by decide) (by decide) (by decide) (by decide) (by decide) (by decide)⟩ (st_so s (by decide)) (sp_m2 ⟨hy, hg⟩ hm)) (by decide) (by decide) d_PR_move_31
      ·
        exact absurd rfl c1
  ·
    rw [pv_n hz] at kw ⊢
    refine wk_run C k_PR_move_11 (pc2 := 16) (lv2 := [(4, .ref (gA (nu g))), (3, .ref (gA (nu y))), (0, .ref x), (1, .int y), (2, .int g)]) (st2 := [.ref (gA (nu y)), .ref (gA (nu g))]) rfl ?_
    refine wk_callS (rest := []) C (kw) cs_PR_71 kc_PR_isWithin ki_PR rfl rfl (Nat.le_of_ble_eq_true rfl) (Nat.le_of_ble_eq_true rfl) (Nat.le_of_ble_eq_true rfl) (Nat.le_of_ble_eq_true rfl) (Nat.le_of_ble_eq_true rfl) d_PR_move_16 (fun v h2 hq => ?_) (fun _ _ z => nomatch z.1)
    obtain ⟨e1, e2⟩ := hq; cases e1; replace e2 := e2.symm; subst e2
    rcases Classical.em (mv_ V (nu y) (nu g)) with hm | hm
    ·
      rw [z_p hm]
      refine wk_br C d_PR_move_19 (P := 1 = 0) (tgt := 24) (rest := []) rfl (by decide) (fun c1 => ?_) (fun c1 => ?_)
      ·
        exact absurd c1 (by decide)
      ·
        refine wk_run C k_PR_move_22 (pc2 := 23) (lv2 := [(4, .ref (gA (nu g))), (3, .ref (gA (nu y))), (0, .ref x), (1, .int y), (2, .int g)]) (st2 := [.int 0]) rfl ?_
        exact wk_iret C (an_q hX (sp_m1 ⟨hy, hg⟩ hm)) (by decide) (by decide) d_PR_move_23
    ·
      rw [z_n hm]
      refine wk_br C d_PR_move_19 (P := 0 = 0) (tgt := 24) (rest := []) rfl (by decide) (fun c1 => ?_) (fun c1 => ?_)
      ·
        refine wk_run C k_PR_move_24 (pc2 := 27) (lv2 := [(4, .ref (gA (nu g))), (3, .ref (gA (nu y))), (0, .ref x), (1, .int y), (2, .int g)]) (st2 := [.ref (gA (nu g)), .ref (gA (nu y))]) rfl ?_
        refine wk_put (fs2 := [.int (nI (nu y)), .ref (gA (nu g))]) C fd_PR_75 og.1 rfl rfl (Nat.le_of_ble_eq_true rfl) rfl d_PR_move_27 ?_
        refine wk_run C k_PR_move_30 (pc2 := 31) (lv2 := [(4, .ref (gA (nu g))), (3, .ref (gA (nu y))), (0, .ref x), (1, .int y), (2, .int g)]) (st2 := [.int 1]) rfl ?_
        have s : st_ [20] h own (hp_up h (gA (nu y)) (.inr (1, [.int (nI (nu y)), .ref (gA (nu g))]))) own := st_u (t := 20) (by rw [og.2]) (by decide)
        have hG2 : cG (hp_up h (gA (nu y)) (.inr (1, [.int (nI (nu y)), .ref (gA (nu g))]))) own (nu (V 7 0)) gA (vs (vc V 0 0) 1 (upd (V 1) (nu y) g)) := cG_u hG ky (vs (vc V 0 0) 1 (upd (V 1) (nu y) g)) (by rw [show (vs (vc V 0 0) 1 (upd (V 1) (nu y) g)) 1 (nu y) = g from upd_s, pv_n hz]) (fun j hj => upd_n hj)
        exact wk_iret C (an_o (V2 := vs (vc V 0 0) 1 (upd (V 1) (nu y) g)) ⟨gl, ul, pl, mo, aq, tr, gA, uA, pA, pn, pe, eB, sf, cO_m hO s (by decide), cL_m hGL s (by decide) (by decide), cL_m hUL s (by decide) (by decide), cL_m hPL s (by decide) (by decide), cM_m hM s (by decide), cN_m hN s (by decide) (by decide), cT_m hT s (by decide) (by decide), hG2, cU_m hU s (by decide), hB, cP_m hP s (by decide) (by decide) (by decide) (by decide) (by decide) (by decide)⟩ (st_so s (by decide)) (sp_m2 ⟨hy, hg⟩ hm)) (by decide) (by decide) d_PR_move_31
      ·
        exact absurd rfl c1
