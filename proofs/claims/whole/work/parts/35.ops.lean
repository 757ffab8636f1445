theorem upd_n {f : Nat → Int32} {j k : Nat} {x : Int32} (h : k ≠ j) : upd f j x k = f k := if_neg h
theorem cU_i {h : hp_T} {own : oT} {n : Nat} {gA uA : Nat → Nat} {sf : Nat → Int64} {V : vT} (k : cU h own n gA uA sf V) {i j : Nat} (hi : 1 ≤ i ∧ i ≤ n) (hj : 1 ≤ j ∧ j ≤ n) (e : uA i = uA j) : i = j := by
  have h1 := (k i hi.1 hi.2).2
  rw [e, (k j hj.1 hj.2).2] at h1
  exact (congrArg Prod.snd h1).symm
theorem cU_u {h : hp_T} {own : oT} {n : Nat} {gA uA : Nat → Nat} {sf : Nat → Int64} {V : vT} (hU : cU h own n gA uA sf V) {k : Nat} (hk : 1 ≤ k ∧ k ≤ n) (V2 : vT) (sf2 : Nat → Int64) {e : va_E} (he : e = .inr (2, [.int (nI k), .ref (gA (nu (V2 2 k))), .int (V2 3 k), .int (V2 4 k), .int (V2 5 k), .long (sf2 k)]))
    (ho : ∀ j, j ≠ k → V2 2 j = V 2 j ∧ V2 3 j = V 3 j ∧ V2 4 j = V 4 j ∧ V2 5 j = V 5 j ∧ sf2 j = sf j) : cU (hp_up h (uA k) e) own n gA uA sf2 V2 := by
  intro j h1 h2
  by_cases z : j = k
  · subst z; exact ⟨by rw [hp_us, he], (hU j h1 h2).2⟩
  · obtain ⟨a1, a2, a3, a4, a5⟩ := ho j z
    rw [hp_un (fun y => z (cU_i hU ⟨h1, h2⟩ hk y)), a1, a2, a3, a4, a5]
    exact hU j h1 h2
theorem k_PR_terminal_0 : px_dec prog_1_method_5_code [.aload_n 0, .iload_n 1] 0 = true := by decide +kernel
theorem d_PR_terminal_2 : decode prog_1_method_5_code 2 = .ok (.invokevirtual 84, 3) := by decide +kernel
theorem k_PR_terminal_5 : px_dec prog_1_method_5_code [.astore_n 3, .iload_n 2] 5 = true := by decide +kernel
theorem d_PR_terminal_7 : decode prog_1_method_5_code 7 = .ok (.invokestatic 88, 3) := by decide +kernel
theorem k_PR_terminal_10 : px_dec prog_1_method_5_code [.aload_n 3] 10 = true := by decide +kernel
theorem d_PR_terminal_11 : decode prog_1_method_5_code 11 = .ok (.getfield 92, 3) := by decide +kernel
theorem k_PR_terminal_14 : px_dec prog_1_method_5_code [.istore 4, .aload_n 3, .iload_n 2] 14 = true := by decide +kernel
theorem d_PR_terminal_18 : decode prog_1_method_5_code 18 = .ok (.putfield 92, 3) := by decide +kernel
theorem k_PR_terminal_21 : px_dec prog_1_method_5_code [.iload 4] 21 = true := by decide +kernel
theorem d_PR_terminal_23 : decode prog_1_method_5_code 23 = .ok (.ireturn, 1) := by decide +kernel
set_option maxRecDepth 100000 in
set_option maxHeartbeats 4000000 in
theorem o_terminal (l : Launch) (D : va_G) (HB : Heap) (h : hp_T) (hlt : l.stackTraces = false) (own : oT) (V : vT) (x : Nat) (u : Int32) (t : Int32) (hX : cr D h own x V) (h8 : ok_ (V 8 0) 40) : ct_M l y_PR_terminal (.code y_PR_terminal prog_1_method_5_code 5 (Option.some Jvm.ClassFile.FieldType.int)) ({ frames := 9, cells := 6, slots := 200, locals := 320 }) D HB [.ref x, .int u, .int t] h (fun o h2 => an2 D h own x (sp_terminal V u t) o h2) := by
  refine ct_of (by decide) (Nat.le_of_ble_eq_true rfl) rfl ?_
  intro p_ e_ s_ m_ r_ b_ t_ c_ C hnm
  obtain ⟨gl, ul, pl, mo, aq, tr, gA, uA, pA, pn, pe, eB, sf, hO, hGL, hUL, hPL, hM, hN, hT, hG, hU, hB, hP⟩ := id hX
  refine wk_run C k_PR_terminal_0 (pc2 := 2) (lv2 := [(0, .ref x), (1, .int u), (2, .int t)]) (st2 := [.int u, .ref x]) rfl ?_
  rcases (Classical.em (¬ u < 1 ∧ u ≤ V 8 0)).symm with hu | hu
  ·
    refine wk_callV (cl := ("ProfileRights", T_PR, 7)) (rest := []) C (k_userN l D HB h own V x gl ul pl mo aq tr (V 23 0) gA uA pA pn pe eB sf hO hUL h8 hlt u hu) cs_PR_84 kc_PR_userAt ki_PR hO.1 rfl rfl rfl (Nat.le_of_ble_eq_true rfl) (Nat.le_of_ble_eq_true rfl) (Nat.le_of_ble_eq_true rfl) (Nat.le_of_ble_eq_true rfl) (Nat.le_of_ble_eq_true rfl) d_PR_terminal_2 (fun v h2 hq => ?_) (fun E h2 hq => by obtain ⟨e1, e2⟩ := hq; cases e1; replace e2 := e2.symm; subst e2; exact wx_out C (an_t hX (by clear C hX; grind [sp_terminal])) (by decide) (by decide))
    exact nomatch hq.1
  refine wk_callV (cl := ("ProfileRights", T_PR, 7)) (rest := []) C (k_userY l D HB h own V x gl ul pl mo aq tr (V 23 0) gA uA pA pn pe eB sf hO hUL h8 hU u hu) cs_PR_84 kc_PR_userAt ki_PR hO.1 rfl rfl rfl (Nat.le_of_ble_eq_true rfl) (Nat.le_of_ble_eq_true rfl) (Nat.le_of_ble_eq_true rfl) (Nat.le_of_ble_eq_true rfl) (Nat.le_of_ble_eq_true rfl) d_PR_terminal_2 (fun v h2 hq => ?_) (fun _ _ z => nomatch z.1)
  obtain ⟨e1, e2⟩ := hq; cases e1; replace e2 := e2.symm; subst e2
  show Wk _ _ _ _ _ _ _ _ _ _ _ _ _ _ _ _ _ _ _ (.ref (uA (nu u)) :: _)
  have khu : 1 ≤ nu u ∧ nu u ≤ nu (V 8 0) := by have z := ok_u (n := nu (V 8 0)) (by rw [← h8.1]; exact hu) (by have := h8.2; omega); exact ⟨z.1, z.2.1⟩
  have ohu := (hU (nu u) khu.1 khu.2).1
  refine wk_run C k_PR_terminal_5 (pc2 := 7) (lv2 := [(3, .ref (uA (nu u))), (0, .ref x), (1, .int u), (2, .int t)]) (st2 := [.int t]) rfl ?_
  rcases (Classical.em (¬ (t < 0 ∨ ¬ t ≤ 99))).symm with ht | ht
  ·
    refine wk_callS (rest := []) C (k_testTerminalN l D HB h hlt t (Classical.not_not.mp ht)) cs_PR_88 kc_PR_testTerminal ki_PR rfl rfl (Nat.le_of_ble_eq_true rfl) (Nat.le_of_ble_eq_true rfl) (Nat.le_of_ble_eq_true rfl) (Nat.le_of_ble_eq_true rfl) (Nat.le_of_ble_eq_true rfl) d_PR_terminal_7 (fun v h2 hq => ?_) (fun E h2 hq => by obtain ⟨e1, e2⟩ := hq; cases e1; replace e2 := e2.symm; subst e2; exact wx_out C (an_t hX (by clear C hX; grind [sp_terminal])) (by decide) (by decide))
    exact nomatch hq.1
  refine wk_callS (rest := []) C (k_testTerminalY l D HB h hlt t ht) cs_PR_88 kc_PR_testTerminal ki_PR rfl rfl (Nat.le_of_ble_eq_true rfl) (Nat.le_of_ble_eq_true rfl) (Nat.le_of_ble_eq_true rfl) (Nat.le_of_ble_eq_true rfl) (Nat.le_of_ble_eq_true rfl) d_PR_terminal_7 (fun v h2 hq => ?_) (fun _ _ z => nomatch z.1)
  obtain ⟨e1, e2⟩ := hq; cases e1; replace e2 := e2.symm; subst e2
  refine wk_run C k_PR_terminal_10 (pc2 := 11) (lv2 := [(3, .ref (uA (nu u))), (0, .ref x), (1, .int u), (2, .int t)]) (st2 := [.ref (uA (nu u))]) rfl ?_
  refine wk_get C fd_PR_92 ohu rfl d_PR_terminal_11 ?_
  refine wk_run C k_PR_terminal_14 (pc2 := 18) (lv2 := [(4, .int (V 3 (nu u))), (3, .ref (uA (nu u))), (0, .ref x), (1, .int u), (2, .int t)]) (st2 := [.int t, .ref (uA (nu u))]) rfl ?_
  refine wk_put (fs2 := [.int (nI (nu u)), .ref (gA (nu (V 2 (nu u)))), .int t, .int (V 4 (nu u)), .int (V 5 (nu u)), .long (sf (nu u))]) C fd_PR_92 ohu rfl rfl (Nat.le_of_ble_eq_true rfl) rfl d_PR_terminal_18 ?_
  refine wk_run C k_PR_terminal_21 (pc2 := 23) (lv2 := [(4, .int (V 3 (nu u))), (3, .ref (uA (nu u))), (0, .ref x), (1, .int u), (2, .int t)]) (st2 := [.int (V 3 (nu u))]) rfl ?_
  have s : st_ [21] h own (hp_up h (uA (nu u)) (.inr (2, [.int (nI (nu u)), .ref (gA (nu (V 2 (nu u)))), .int t, .int (V 4 (nu u)), .int (V 5 (nu u)), .long (sf (nu u))]))) own := st_u (t := 21) (by rw [(hU (nu u) khu.1 khu.2).2]) (by decide)
  have hr : sp_terminal V u t = (0, V 3 (nu u), vs (vc V 0 0) 3 (upd (V 3) (nu u) t)) := by clear C hX s; grind [sp_terminal]
  have hU2 : cU (hp_up h (uA (nu u)) (.inr (2, [.int (nI (nu u)), .ref (gA (nu (V 2 (nu u)))), .int t, .int (V 4 (nu u)), .int (V 5 (nu u)), .long (sf (nu u))]))) own (nu (V 8 0)) gA uA sf (vs (vc V 0 0) 3 (upd (V 3) (nu u) t)) := cU_u hU khu _ sf (by show _ = Sum.inr (2, [_, _, .int (upd (V 3) (nu u) t (nu u)), _, _, _]); rw [upd_s]; rfl) (fun j hj => ⟨rfl, upd_n hj, rfl, rfl, rfl⟩)
  exact wk_iret C (an_o (V2 := vs (vc V 0 0) 3 (upd (V 3) (nu u) t)) ⟨gl, ul, pl, mo, aq, tr, gA, uA, pA, pn, pe, eB, sf, cO_m hO s (by decide), cL_m hGL s (by decide) (by decide), cL_m hUL s (by decide) (by decide), cL_m hPL s (by decide) (by decide), cM_m hM s (by decide), cN_m hN s (by decide) (by decide), cT_m hT s (by decide) (by decide), cG_m hG s (by decide), hU2, hB, cP_m hP s (by decide) (by decide) (by decide) (by decide) (by decide) (by decide)⟩ (st_so s (by decide)) hr) (by decide) (by decide) d_PR_terminal_23
