theorem upd_n {f : Nat → Int32} {j k : Nat} {x : Int32} (h : k ≠ j) : upd f j x k = f k := if_neg h
theorem cU_i {h : hp_T} {own : oT} {n : Nat} {gA uA : Nat → Nat} {sf : Nat → Int64} {V : vT} (k : cU h own n gA uA sf V) {i j : Nat} (hi : 1 ≤ i ∧ i ≤ n) (hj : 1 ≤ j ∧ j ≤ n) (e : uA i = uA j) : i = j := by
  have h1 := (k i hi.1 hi.2).2
  rw [e, (k j hj.1 hj.2).2] at h1
  exact (congrArg Prod.snd h1).symm
theorem cU_u {h : hp_T} {own : oT} {n : Nat} {gA uA : Nat → Nat} {sf : Nat → Int64} {V : vT} (hU : cU h own n gA uA sf V) {k : Nat} (hk : 1 ≤ k ∧ k ≤ n) (V2 : vT) (sf2 : Nat → Int64) {e : va_E} (he : e = .inr (2, [.int (nI k), .ref (gA (nu (V2 2 k))), .int (V2 3 k), .int (V2 4 k), .int (V2 5 k), .long (sf2 k)]))
    (ho : ∀ j, j ≠ k → V2 2 j = V 2 j ∧ V2 3 j = V 3 j ∧ V2 4 j = V 4 j ∧ V2 5 j = V 5 j ∧ sf2 j = sf j) : cU (hp_up h (uA k) e) own n gA uA sf2 V2 := by
  intro j h1 h2
  by_cases z : j = k
  · subst z; exact ⟨by rw [hp_us, he], (hU j h1 h2).2⟩
  · obtain ⟨a1, a2, a3, a4, a5⟩ := ho j z
    rw [hp_un (fun y => z (cU_i hU ⟨h1, h2⟩ hk y)), a1, a2, a3, a4, a5]
    exact hU j h1 h2
theorem k_PR_terminal_0 : px_dec prog_1_method_5_code [.aload_n 0, .iload_n 1] 0 = true := by decide +kernel
theorem d_PR_terminal_2 : decode prog_1_method_5_code 2 = .ok (.invokevirtual 84, 3) := by decide +kernel
theorem k_PR_terminal_5 : px_dec prog_1_method_5_code [.astore_n 3, .iload_n 2] 5 = true := by decide +kernel
theorem d_PR_terminal_7 : decode prog_1_method_5_code 7 = .ok (.invokestatic 88, 3) := by decide +kernel
theorem k_PR_terminal_10 : px_dec prog_1_method_5_code [.aload_n 3] 10 = true := by decide +kernel
theorem d_PR_terminal_11 : decode prog_1_method_5_code 11 = .ok (.getfield 92, 3) := by decide +kernel
theorem k_PR_terminal_14 : px_dec prog_1_method_5_code [.istore 4, .aload_n 3, .iload_n 2] 14 = true := by decide +kernel
theorem d_PR_terminal_18 : decode prog_1_method_5_code 18 = .ok (.putfield 92, 3) := by decide +kernel
theorem k_PR_terminal_21 : px_dec prog_1_method_5_code [.iload 4] 21 = true := by decide +kernel
theorem d_PR_terminal_23 : decode prog_1_method_5_code 23 = .ok (.ireturn, 1) := by decide +kernel
set_option maxRecDepth 100000 in
set_option maxHeartbeats 4000000 in
theorem o_terminal (l : Launch) (D : va_G) (HB : Heap) (h : hp_T) (hlt : l.stackTraces = false) (own : oT) (V : vT) (x : Nat) (u : Int32) (t : Int32) (hX : cr D h own x V) (h8 : ok_ (V 8 0) 40) : ct_M l y_PR_terminal (.code y_PR_terminal prog_1_method_5_code 5 (Option.some Jvm.ClassFile.FieldType.int)) ({ frames := 9, cells := 8, slots := 200, locals := 320 }) D HB [.ref x, .int u, .int t] h (fun o h2 => an2 D h own x (sp_terminal V u t) o h2) := by
  refine ct_of (by decide) (Nat.le_of_ble_eq_true rfl) rfl ?_
  intro p_ e_ s_ m_ r_ b_ t_ c_ C hnm
  obtain ⟨gl, ul, pl, mo, aq, tr, gA, uA, pA, pn, pe, eB, sf, hO, hGL, hUL, hPL, hM, hN, hT, hG, hU, hB, hP⟩ := id hX
  refine wk_run C k_PR_terminal_0 (pc2 := 2) (lv2 := [(0, .ref x), (1, .int u), (2, .int t)]) (st2 := [.int u, .ref x]) rfl ?_
  rcases (Classical.em (¬ u < 1 ∧ u ≤ V 8 0)).symm with hu | hu
  ·
    refine wk_callV (cl := ("ProfileRights", T_PR, 7)) (rest := []) C (k_userN l D HB h own V x gl ul pl mo aq tr (V 23 0) gA uA pA pn pe eB sf hO hUL h8 hlt u hu) cs_PR_84 kc_PR_userAt ki_PR hO.1 rfl rfl rfl (Nat.le_of_ble_eq_true rfl) (Nat.le_of_ble_eq_true rfl) (Nat.le_of_ble_eq_true rfl) (Nat.le_of_ble_eq_true rfl) (Nat.le_of_ble_eq_true rfl) d_PR_terminal_2 (fun v h2 hq => ?_) (fun E h2 hq => by obtain ⟨e1, e2⟩ := hq; cases e1; replace e2 := e2.symm; subst e2; exact wx_out C (an_t hX (by clear C hX; grind [sp_terminal])) (by decide) (by decide))
    exact nomatch hq.1
  refine wk_callV (cl := ("ProfileRights", T_PR, 7)) (rest := []) C (k_userY l D HB h own V x gl ul pl mo aq tr (V 23 0) gA uA pA pn pe eB sf hO hUL h8 hU u hu) cs_PR_84 kc_PR_userAt ki_PR hO.1 rfl rfl rfl (Nat.le_of_ble_eq_true rfl) (Nat.le_of_ble_eq_true rfl) (Nat.le_of_ble_eq_true rfl) (Nat.le_of_ble_eq_true rfl) (Nat.le_of_ble_eq_true rfl) d_PR_terminal_2 (fun v h2 hq => ?_) (fun _ _ z => nomatch z.1)
  obtain ⟨e1, e2⟩ := hq; cases e1; replace e2 := e2.symm; subst e2
  show Wk _ _ _ _ _ _ _ _ _ _ _ _ _ _ _ _ _ _ _ (.ref (uA (nu u)) :: _)
  have khu : 1 ≤ nu u ∧ nu u ≤ nu (V 8 0) := by have z := ok_u (n := nu (V 8 0)) (by rw [← h8.1]; exact hu) (by have := h8.2; omega); exact ⟨z.1, z.2.1⟩
  have ohu := (hU (nu u) khu.1 khu.2).1
  refine wk_run C k_PR_terminal_5 (pc2 := 7) (lv2 := [(3, .ref (uA (nu u))), (0, .ref x), (1, .int u), (2, .int t)]) (st2 := [.int t]) rfl ?_
  rcases (Classical.em (¬ (t < 0 ∨ ¬ t ≤ 99))).symm with ht | ht
  ·
    refine wk_callS (rest := []) C (k_testTerminalN l D HB h hlt t (Classical.not_not.mp ht)) cs_PR_88 kc_PR_testTerminal ki_PR rfl rfl (Nat.le_of_ble_eq_true rfl) (Nat.le_of_ble_eq_true rfl) (Nat.le_of_ble_eq_true rfl) (Nat.le_of_ble_eq_true rfl) (Nat.le_of_ble_eq_true rfl) d_PR_terminal_7 (fun v h2 hq => ?_) (fun E h2 hq => by obtain ⟨e1, e2⟩ := hq; cases e1; replace e2 := e2.symm; subst e2; exact wx_out C (an_t hX (by clear C hX; grind [sp_terminal])) (by decide) (by decide))
    exact nomatch hq.1
  refine wk_callS (rest := []) C (k_testTerminalY l D HB h hlt t ht) cs_PR_88 kc_PR_testTerminal ki_PR rfl rfl (Nat.le_of_ble_eq_true rfl) (Nat.le_of_ble_eq_true rfl) (Nat.le_of_ble_eq_true rfl) (Nat.le_of_ble_eq_true rfl) (Nat.le_of_ble_eq_true rfl) d_PR_terminal_7 (fun v h2 hq => ?_) (fun _ _ z => nomatch z.1)
  obtain ⟨e1, e2⟩ := hq; cases e1; replace e2 := e2.symm; subst e2
  refine wk_run C k_PR_terminal_10 (pc2 := 11) (lv2 := [(3, .ref (uA (nu u))), (0, .ref x), (1, .int u), (2, .int t)]) (st2 := [.ref (uA (nu u))]) rfl ?_
  refine wk_get C fd_PR_92 ohu rfl d_PR_terminal_11 ?_
  refine wk_run C k_PR_terminal_14 (pc2 := 18) (lv2 := [(4, .int (V 3 (nu u))), (3, .ref (uA (nu u))), (0, .ref x), (1, .int u), (2, .int t)]) (st2 := [.int t, .ref (uA (nu u))]) rfl ?_
  refine wk_put (fs2 := [.int (nI (nu u)), .ref (gA (nu (V 2 (nu u)))), .int t, .int (V 4 (nu u)), .int (V 5 (nu u)), .long (sf (nu u))]) C fd_PR_92 ohu rfl rfl (Nat.le_of_ble_eq_true rfl) rfl d_PR_terminal_18 ?_
  refine wk_run C k_PR_terminal_21 (pc2 := 23) (lv2 := [(4, .int (V 3 (nu u))), (3, .ref (uA (nu u))), (0, .ref x), (1, .int u), (2, .int t)]) (st2 := [.int (V 3 (nu u))]) rfl ?_
  have s : st_ [21] h own (hp_up h (uA (nu u)) (.inr (2, [.int (nI (nu u)), .ref (gA (nu (V 2 (nu u)))), .int t, .int (V 4 (nu u)), .int (V 5 (nu u)), .long (sf (nu u))]))) own := st_u (t := 21) (by rw [(hU (nu u) khu.1 khu.2).2]) (by decide)
  have hr : sp_terminal V u t = (0, V 3 (nu u), vs (vc V 0 0) 3 (upd (V 3) (nu u) t)) := by clear C hX s; grind [sp_terminal]
  have hU2 : cU (hp_up h (uA (nu u)) (.inr (2, [.int (nI (nu u)), .ref (gA (nu (V 2 (nu u)))), .int t, .int (V 4 (nu u)), .int (V 5 (nu u)), .long (sf (nu u))]))) own (nu (V 8 0)) gA uA sf (vs (vc V 0 0) 3 (upd (V 3) (nu u) t)) := cU_u hU khu (vs (vc V 0 0) 3 (upd (V 3) (nu u) t)) sf (by rw [show (vs (vc V 0 0) 3 (upd (V 3) (nu u) t)) 3 (nu u) = t from upd_s]; rfl) (fun j hj => ⟨rfl, upd_n hj, rfl, rfl, rfl⟩)
  exact wk_iret C (an_o (V2 := vs (vc V 0 0) 3 (upd (V 3) (nu u) t)) ⟨gl, ul, pl, mo, aq, tr, gA, uA, pA, pn, pe, eB, sf, cO_m hO s (by decide), cL_m hGL s (by decide) (by decide), cL_m hUL s (by decide) (by decide), cL_m hPL s (by decide) (by decide), cM_m hM s (by decide), cN_m hN s (by decide) (by decide), cT_m hT s (by decide) (by decide), cG_m hG s (by decide), hU2, hB, cP_m hP s (by decide) (by decide) (by decide) (by decide) (by decide) (by decide)⟩ (st_so s (by decide)) hr) (by decide) (by decide) d_PR_terminal_23
theorem k_PR_revoke_0 : px_dec prog_1_method_6_code [.aload_n 0, .iload_n 1] 0 = true := by decide +kernel
theorem d_PR_revoke_2 : decode prog_1_method_6_code 2 = .ok (.invokevirtual 84, 3) := by decide +kernel
theorem k_PR_revoke_5 : px_dec prog_1_method_6_code [.astore_n 3, .aload_n 3] 5 = true := by decide +kernel
theorem d_PR_revoke_7 : decode prog_1_method_6_code 7 = .ok (.getfield 95, 3) := by decide +kernel
theorem k_PR_revoke_10 : px_dec prog_1_method_6_code [.iload_n 2] 10 = true := by decide +kernel
theorem d_PR_revoke_11 : decode prog_1_method_6_code 11 = .ok (.if_icmp .ne 5, 3) := by decide +kernel
theorem k_PR_revoke_16 : px_dec prog_1_method_6_code [.aload_n 3, .iload_n 2] 16 = true := by decide +kernel
theorem d_PR_revoke_18 : decode prog_1_method_6_code 18 = .ok (.putfield 95, 3) := by decide +kernel
theorem k_PR_revoke_21 : px_dec prog_1_method_6_code [.iload_n 2] 21 = true := by decide +kernel
theorem d_PR_revoke_22 : decode prog_1_method_6_code 22 = .ok (.ifCond .ne 8, 3) := by decide +kernel
theorem k_PR_revoke_30 : px_dec prog_1_method_6_code [.iconst 1] 30 = true := by decide +kernel
theorem d_PR_revoke_31 : decode prog_1_method_6_code 31 = .ok (.ireturn, 1) := by decide +kernel
theorem k_PR_revoke_25 : px_dec prog_1_method_6_code [.aload_n 3, .iconst 3] 25 = true := by decide +kernel
theorem d_PR_revoke_27 : decode prog_1_method_6_code 27 = .ok (.putfield 99, 3) := by decide +kernel
theorem k_PR_revoke_14 : px_dec prog_1_method_6_code [.iconst 0] 14 = true := by decide +kernel
theorem d_PR_revoke_15 : decode prog_1_method_6_code 15 = .ok (.ireturn, 1) := by decide +kernel
set_option maxRecDepth 100000 in
set_option maxHeartbeats 4000000 in
theorem o_revoke (l : Launch) (D : va_G) (HB : Heap) (h : hp_T) (hlt : l.stackTraces = false) (own : oT) (V : vT) (x : Nat) (u : Int32) (b : Int32) (hX : cr D h own x V) (h8 : ok_ (V 8 0) 40) (hb : b = 0 ∨ b = 1) : ct_M l y_PR_revoke (.code y_PR_revoke prog_1_method_6_code 4 (Option.some Jvm.ClassFile.FieldType.int)) ({ frames := 9, cells := 8, slots := 200, locals := 320 }) D HB [.ref x, .int u, .int b] h (fun o h2 => an2 D h own x (sp_revoke V u b) o h2) := by
  refine ct_of (by decide) (Nat.le_of_ble_eq_true rfl) rfl ?_
  intro p_ e_ s_ m_ r_ b_ t_ c_ C hnm
  obtain ⟨gl, ul, pl, mo, aq, tr, gA, uA, pA, pn, pe, eB, sf, hO, hGL, hUL, hPL, hM, hN, hT, hG, hU, hB, hP⟩ := id hX
  refine wk_run C k_PR_revoke_0 (pc2 := 2) (lv2 := [(0, .ref x), (1, .int u), (2, .int b)]) (st2 := [.int u, .ref x]) rfl ?_
  rcases (Classical.em (¬ u < 1 ∧ u ≤ V 8 0)).symm with hu | hu
  ·
    refine wk_callV (cl := ("ProfileRights", T_PR, 7)) (rest := []) C (k_userN l D HB h own V x gl ul pl mo aq tr (V 23 0) gA uA pA pn pe eB sf hO hUL h8 hlt u hu) cs_PR_84 kc_PR_userAt ki_PR hO.1 rfl rfl rfl (Nat.le_of_ble_eq_true rfl) (Nat.le_of_ble_eq_true rfl) (Nat.le_of_ble_eq_true rfl) (Nat.le_of_ble_eq_true rfl) (Nat.le_of_ble_eq_true rfl) d_PR_revoke_2 (fun v h2 hq => ?_) (fun E h2 hq => by obtain ⟨e1, e2⟩ := hq; cases e1; replace e2 := e2.symm; subst e2; exact wx_out C (an_t hX (by clear C hX; grind [sp_revoke])) (by decide) (by decide))
    exact nomatch hq.1
  refine wk_callV (cl := ("ProfileRights", T_PR, 7)) (rest := []) C (k_userY l D HB h own V x gl ul pl mo aq tr (V 23 0) gA uA pA pn pe eB sf hO hUL h8 hU u hu) cs_PR_84 kc_PR_userAt ki_PR hO.1 rfl rfl rfl (Nat.le_of_ble_eq_true rfl) (Nat.le_of_ble_eq_true rfl) (Nat.le_of_ble_eq_true rfl) (Nat.le_of_ble_eq_true rfl) (Nat.le_of_ble_eq_true rfl) d_PR_revoke_2 (fun v h2 hq => ?_) (fun _ _ z => nomatch z.1)
  obtain ⟨e1, e2⟩ := hq; cases e1; replace e2 := e2.symm; subst e2
  show Wk _ _ _ _ _ _ _ _ _ _ _ _ _ _ _ _ _ _ _ (.ref (uA (nu u)) :: _)
  have khu : 1 ≤ nu u ∧ nu u ≤ nu (V 8 0) := by have z := ok_u (n := nu (V 8 0)) (by rw [← h8.1]; exact hu) (by have := h8.2; omega); exact ⟨z.1, z.2.1⟩
  have ohu := (hU (nu u) khu.1 khu.2).1
  refine wk_run C k_PR_revoke_5 (pc2 := 7) (lv2 := [(3, .ref (uA (nu u))), (0, .ref x), (1, .int u), (2, .int b)]) (st2 := [.ref (uA (nu u))]) rfl ?_
  refine wk_get C fd_PR_95 ohu rfl d_PR_revoke_7 ?_
  refine wk_run C k_PR_revoke_10 (pc2 := 11) (lv2 := [(3, .ref (uA (nu u))), (0, .ref x), (1, .int u), (2, .int b)]) (st2 := [.int b, .int (V 5 (nu u))]) rfl ?_
  refine wk_br C d_PR_revoke_11 (P := ¬ (V 5 (nu u)) = b) (tgt := 16) (rest := []) rfl (by decide) (fun c1 => ?_) (fun c1 => ?_)
  ·
    refine wk_run C k_PR_revoke_16 (pc2 := 18) (lv2 := [(3, .ref (uA (nu u))), (0, .ref x), (1, .int u), (2, .int b)]) (st2 := [.int b, .ref (uA (nu u))]) rfl ?_
    refine wk_put (fs2 := [.int (nI (nu u)), .ref (gA (nu (V 2 (nu u)))), .int (V 3 (nu u)), .int (V 4 (nu u)), .int b, .long (sf (nu u))]) C fd_PR_95 ohu (nb_z hb) (by rcases hb with z | z <;> rw [z] <;> rfl) (Nat.le_of_ble_eq_true rfl) rfl d_PR_revoke_18 ?_
    refine wk_run C k_PR_revoke_21 (pc2 := 22) (lv2 := [(3, .ref (uA (nu u))), (0, .ref x), (1, .int u), (2, .int b)]) (st2 := [.int b]) rfl ?_
    refine wk_br C d_PR_revoke_22 (P := ¬ b = 0) (tgt := 30) (rest := []) rfl (by decide) (fun c2 => ?_) (fun c2 => ?_)
    ·
      refine wk_run C k_PR_revoke_30 (pc2 := 31) (lv2 := [(3, .ref (uA (nu u))), (0, .ref x), (1, .int u), (2, .int b)]) (st2 := [.int 1]) rfl ?_
      have s : st_ [21] h own (hp_up h (uA (nu u)) (.inr (2, [.int (nI (nu u)), .ref (gA (nu (V 2 (nu u)))), .int (V 3 (nu u)), .int (V 4 (nu u)), .int b, .long (sf (nu u))]))) own := st_u (t := 21) (by rw [(hU (nu u) khu.1 khu.2).2]) (by decide)
      have hr : sp_revoke V u b = (0, 1, vs (vs (vc V 0 0) 5 (upd (V 5) (nu u) b)) 4 (upd (V 4) (nu u) (if b = 0 then 3 else V 4 (nu u)))) := by clear C hX s; grind [sp_revoke]
      have hU2 : cU (hp_up h (uA (nu u)) (.inr (2, [.int (nI (nu u)), .ref (gA (nu (V 2 (nu u)))), .int (V 3 (nu u)), .int (V 4 (nu u)), .int b, .long (sf (nu u))]))) own (nu (V 8 0)) gA uA sf (vs (vs (vc V 0 0) 5 (upd (V 5) (nu u) b)) 4 (upd (V 4) (nu u) (if b = 0 then 3 else V 4 (nu u)))) := cU_u hU khu (vs (vs (vc V 0 0) 5 (upd (V 5) (nu u) b)) 4 (upd (V 4) (nu u) (if b = 0 then 3 else V 4 (nu u)))) sf (by rw [show (vs (vs (vc V 0 0) 5 (upd (V 5) (nu u) b)) 4 (upd (V 4) (nu u) (if b = 0 then 3 else V 4 (nu u)))) 5 (nu u) = b from upd_s, show (vs (vs (vc V 0 0) 5 (upd (V 5) (nu u) b)) 4 (upd (V 4) (nu u) (if b = 0 then 3 else V 4 (nu u)))) 4 (nu u) = V 4 (nu u) from upd_s.trans (if_neg c2)]; rfl) (fun j hj => ⟨rfl, rfl, upd_n hj, upd_n hj, rfl⟩)
      exact wk_iret C (an_o (V2 := vs (vs (vc V 0 0) 5 (upd (V 5) (nu u) b)) 4 (upd (V 4) (nu u) (if b = 0 then 3 else V 4 (nu u)))) ⟨gl, ul, pl, mo, aq, tr, gA, uA, pA, pn, pe, eB, sf, cO_m hO s (by decide), cL_m hGL s (by decide) (by decide), cL_m hUL s (by decide) (by decide), cL_m hPL s (by decide) (by decide), cM_m hM s (by decide), cN_m hN s (by decide) (by decide), cT_m hT s (by decide) (by decide), cG_m hG s (by decide), hU2, hB, cP_m hP s (by decide) (by decide) (by decide) (by decide) (by decide) (by decide)⟩ (st_so s (by decide)) hr) (by decide) (by decide) d_PR_revoke_31
    ·
      refine wk_run C k_PR_revoke_25 (pc2 := 27) (lv2 := [(3, .ref (uA (nu u))), (0, .ref x), (1, .int u), (2, .int b)]) (st2 := [.int 3, .ref (uA (nu u))]) rfl ?_
      refine wk_put (fs2 := [.int (nI (nu u)), .ref (gA (nu (V 2 (nu u)))), .int (V 3 (nu u)), .int 3, .int b, .long (sf (nu u))]) C fd_PR_99 hp_us rfl rfl (Nat.le_of_ble_eq_true rfl) rfl d_PR_revoke_27 ?_
      rw [hp_uu]
      refine wk_run C k_PR_revoke_30 (pc2 := 31) (lv2 := [(3, .ref (uA (nu u))), (0, .ref x), (1, .int u), (2, .int b)]) (st2 := [.int 1]) rfl ?_
      have s : st_ [21] h own (hp_up h (uA (nu u)) (.inr (2, [.int (nI (nu u)), .ref (gA (nu (V 2 (nu u)))), .int (V 3 (nu u)), .int 3, .int b, .long (sf (nu u))]))) own := st_u (t := 21) (by rw [(hU (nu u) khu.1 khu.2).2]) (by decide)
      have hr : sp_revoke V u b = (0, 1, vs (vs (vc V 0 0) 5 (upd (V 5) (nu u) b)) 4 (upd (V 4) (nu u) (if b = 0 then 3 else V 4 (nu u)))) := by clear C hX s; grind [sp_revoke]
      have hU2 : cU (hp_up h (uA (nu u)) (.inr (2, [.int (nI (nu u)), .ref (gA (nu (V 2 (nu u)))), .int (V 3 (nu u)), .int 3, .int b, .long (sf (nu u))]))) own (nu (V 8 0)) gA uA sf (vs (vs (vc V 0 0) 5 (upd (V 5) (nu u) b)) 4 (upd (V 4) (nu u) (if b = 0 then 3 else V 4 (nu u)))) := cU_u hU khu (vs (vs (vc V 0 0) 5 (upd (V 5) (nu u) b)) 4 (upd (V 4) (nu u) (if b = 0 then 3 else V 4 (nu u)))) sf (by rw [show (vs (vs (vc V 0 0) 5 (upd (V 5) (nu u) b)) 4 (upd (V 4) (nu u) (if b = 0 then 3 else V 4 (nu u)))) 5 (nu u) = b from upd_s, show (vs (vs (vc V 0 0) 5 (upd (V 5) (nu u) b)) 4 (upd (V 4) (nu u) (if b = 0 then 3 else V 4 (nu u)))) 4 (nu u) = 3 from upd_s.trans (if_pos (Classical.not_not.mp c2))]; rfl) (fun j hj => ⟨rfl, rfl, upd_n hj, upd_n hj, rfl⟩)
      exact wk_iret C (an_o (V2 := vs (vs (vc V 0 0) 5 (upd (V 5) (nu u) b)) 4 (upd (V 4) (nu u) (if b = 0 then 3 else V 4 (nu u)))) ⟨gl, ul, pl, mo, aq, tr, gA, uA, pA, pn, pe, eB, sf, cO_m hO s (by decide), cL_m hGL s (by decide) (by decide), cL_m hUL s (by decide) (by decide), cL_m hPL s (by decide) (by decide), cM_m hM s (by decide), cN_m hN s (by decide) (by decide), cT_m hT s (by decide) (by decide), cG_m hG s (by decide), hU2, hB, cP_m hP s (by decide) (by decide) (by decide) (by decide) (by decide) (by decide)⟩ (st_so s (by decide)) hr) (by decide) (by decide) d_PR_revoke_31
  ·
    refine wk_run C k_PR_revoke_14 (pc2 := 15) (lv2 := [(3, .ref (uA (nu u))), (0, .ref x), (1, .int u), (2, .int b)]) (st2 := [.int 0]) rfl ?_
    exact wk_iret C (an_q hX (by clear C hX; grind [sp_revoke])) (by decide) (by decide) d_PR_revoke_15
theorem k_PR_pass_0 : px_dec prog_1_method_7_code [.aload_n 0, .iload_n 1] 0 = true := by decide +kernel
theorem d_PR_pass_2 : decode prog_1_method_7_code 2 = .ok (.invokevirtual 84, 3) := by decide +kernel
theorem k_PR_pass_5 : px_dec prog_1_method_7_code [.astore_n 3, .aload_n 3] 5 = true := by decide +kernel
theorem d_PR_pass_7 : decode prog_1_method_7_code 7 = .ok (.getfield 95, 3) := by decide +kernel
theorem d_PR_pass_10 : decode prog_1_method_7_code 10 = .ok (.ifCond .eq 5, 3) := by decide +kernel
theorem k_PR_pass_15 : px_dec prog_1_method_7_code [.aload_n 3, .iload_n 2] 15 = true := by decide +kernel
theorem d_PR_pass_17 : decode prog_1_method_7_code 17 = .ok (.ifCond .eq 7, 3) := by decide +kernel
theorem k_PR_pass_24 : px_dec prog_1_method_7_code [.aload_n 3] 24 = true := by decide +kernel
theorem d_PR_pass_25 : decode prog_1_method_7_code 25 = .ok (.getfield 99, 3) := by decide +kernel
theorem k_PR_pass_28 : px_dec prog_1_method_7_code [.iconst 1, .isub] 28 = true := by decide +kernel
theorem d_PR_pass_30 : decode prog_1_method_7_code 30 = .ok (.putfield 99, 3) := by decide +kernel
theorem k_PR_pass_33 : px_dec prog_1_method_7_code [.aload_n 3, .aload_n 3] 33 = true := by decide +kernel
theorem d_PR_pass_35 : decode prog_1_method_7_code 35 = .ok (.getfield 99, 3) := by decide +kernel
theorem d_PR_pass_38 : decode prog_1_method_7_code 38 = .ok (.ifCond .gt 7, 3) := by decide +kernel
theorem k_PR_pass_45 : px_dec prog_1_method_7_code [.iconst 0] 45 = true := by decide +kernel
theorem d_PR_pass_46 : decode prog_1_method_7_code 46 = .ok (.putfield 95, 3) := by decide +kernel
theorem k_PR_pass_49 : px_dec prog_1_method_7_code [.aload_n 3] 49 = true := by decide +kernel
theorem d_PR_pass_50 : decode prog_1_method_7_code 50 = .ok (.getfield 99, 3) := by decide +kernel
theorem d_PR_pass_53 : decode prog_1_method_7_code 53 = .ok (.ireturn, 1) := by decide +kernel
theorem k_PR_pass_41 : px_dec prog_1_method_7_code [.iconst 1] 41 = true := by decide +kernel
theorem d_PR_pass_42 : decode prog_1_method_7_code 42 = .ok (.goto 4, 3) := by decide +kernel
theorem k_PR_pass_20 : px_dec prog_1_method_7_code [.iconst 3] 20 = true := by decide +kernel
theorem d_PR_pass_21 : decode prog_1_method_7_code 21 = .ok (.goto 9, 3) := by decide +kernel
theorem k_PR_pass_13 : px_dec prog_1_method_7_code [.iconst (-1)] 13 = true := by decide +kernel
theorem d_PR_pass_14 : decode prog_1_method_7_code 14 = .ok (.ireturn, 1) := by decide +kernel
set_option maxRecDepth 100000 in
set_option maxHeartbeats 4000000 in
theorem o_pass (l : Launch) (D : va_G) (HB : Heap) (h : hp_T) (hlt : l.stackTraces = false) (own : oT) (V : vT) (x : Nat) (u : Int32) (b : Int32) (hX : cr D h own x V) (h8 : ok_ (V 8 0) 40) (hb : b = 0 ∨ b = 1) (ht : ¬ u < 1 ∧ u ≤ V 8 0 → V 5 (nu u) = 0 → V 4 (nu u) = 1 ∨ V 4 (nu u) = 2 ∨ V 4 (nu u) = 3) : ct_M l y_PR_pass (.code y_PR_pass prog_1_method_7_code 4 (Option.some Jvm.ClassFile.FieldType.int)) ({ frames := 9, cells := 8, slots := 200, locals := 320 }) D HB [.ref x, .int u, .int b] h (fun o h2 => an2 D h own x (sp_pass V u b) o h2) := by
  refine ct_of (by decide) (Nat.le_of_ble_eq_true rfl) rfl ?_
  intro p_ e_ s_ m_ r_ b_ t_ c_ C hnm
  obtain ⟨gl, ul, pl, mo, aq, tr, gA, uA, pA, pn, pe, eB, sf, hO, hGL, hUL, hPL, hM, hN, hT, hG, hU, hB, hP⟩ := id hX
  refine wk_run C k_PR_pass_0 (pc2 := 2) (lv2 := [(0, .ref x), (1, .int u), (2, .int b)]) (st2 := [.int u, .ref x]) rfl ?_
  rcases (Classical.em (¬ u < 1 ∧ u ≤ V 8 0)).symm with hu | hu
  ·
    refine wk_callV (cl := ("ProfileRights", T_PR, 7)) (rest := []) C (k_userN l D HB h own V x gl ul pl mo aq tr (V 23 0) gA uA pA pn pe eB sf hO hUL h8 hlt u hu) cs_PR_84 kc_PR_userAt ki_PR hO.1 rfl rfl rfl (Nat.le_of_ble_eq_true rfl) (Nat.le_of_ble_eq_true rfl) (Nat.le_of_ble_eq_true rfl) (Nat.le_of_ble_eq_true rfl) (Nat.le_of_ble_eq_true rfl) d_PR_pass_2 (fun v h2 hq => ?_) (fun E h2 hq => by obtain ⟨e1, e2⟩ := hq; cases e1; replace e2 := e2.symm; subst e2; exact wx_out C (an_t hX (by clear C hX; grind [sp_pass])) (by decide) (by decide))
    exact nomatch hq.1
  refine wk_callV (cl := ("ProfileRights", T_PR, 7)) (rest := []) C (k_userY l D HB h own V x gl ul pl mo aq tr (V 23 0) gA uA pA pn pe eB sf hO hUL h8 hU u hu) cs_PR_84 kc_PR_userAt ki_PR hO.1 rfl rfl rfl (Nat.le_of_ble_eq_true rfl) (Nat.le_of_ble_eq_true rfl) (Nat.le_of_ble_eq_true rfl) (Nat.le_of_ble_eq_true rfl) (Nat.le_of_ble_eq_true rfl) d_PR_pass_2 (fun v h2 hq => ?_) (fun _ _ z => nomatch z.1)
  obtain ⟨e1, e2⟩ := hq; cases e1; replace e2 := e2.symm; subst e2
  show Wk _ _ _ _ _ _ _ _ _ _ _ _ _ _ _ _ _ _ _ (.ref (uA (nu u)) :: _)
  have khu : 1 ≤ nu u ∧ nu u ≤ nu (V 8 0) := by have z := ok_u (n := nu (V 8 0)) (by rw [← h8.1]; exact hu) (by have := h8.2; omega); exact ⟨z.1, z.2.1⟩
  have ohu := (hU (nu u) khu.1 khu.2).1
  refine wk_run C k_PR_pass_5 (pc2 := 7) (lv2 := [(3, .ref (uA (nu u))), (0, .ref x), (1, .int u), (2, .int b)]) (st2 := [.ref (uA (nu u))]) rfl ?_
  refine wk_get C fd_PR_95 ohu rfl d_PR_pass_7 ?_
  refine wk_br C d_PR_pass_10 (P := (V 5 (nu u)) = 0) (tgt := 15) (rest := []) rfl (by decide) (fun c1 => ?_) (fun c1 => ?_)
  ·
    refine wk_run C k_PR_pass_15 (pc2 := 17) (lv2 := [(3, .ref (uA (nu u))), (0, .ref x), (1, .int u), (2, .int b)]) (st2 := [.int b, .ref (uA (nu u))]) rfl ?_
    refine wk_br C d_PR_pass_17 (P := b = 0) (tgt := 24) (rest := [.ref (uA (nu u))]) rfl (by decide) (fun c2 => ?_) (fun c2 => ?_)
    ·
      refine wk_run C k_PR_pass_24 (pc2 := 25) (lv2 := [(3, .ref (uA (nu u))), (0, .ref x), (1, .int u), (2, .int b)]) (st2 := [.ref (uA (nu u)), .ref (uA (nu u))]) rfl ?_
      refine wk_get C fd_PR_99 ohu rfl d_PR_pass_25 ?_
      refine wk_run C k_PR_pass_28 (pc2 := 30) (lv2 := [(3, .ref (uA (nu u))), (0, .ref x), (1, .int u), (2, .int b)]) (st2 := [.int ((V 4 (nu u)) - 1), .ref (uA (nu u))]) rfl ?_
      refine wk_put (fs2 := [.int (nI (nu u)), .ref (gA (nu (V 2 (nu u)))), .int (V 3 (nu u)), .int (V 4 (nu u) - 1), .int (V 5 (nu u)), .long (sf (nu u))]) C fd_PR_99 ohu rfl rfl (Nat.le_of_ble_eq_true rfl) rfl d_PR_pass_30 ?_
      refine wk_run C k_PR_pass_33 (pc2 := 35) (lv2 := [(3, .ref (uA (nu u))), (0, .ref x), (1, .int u), (2, .int b)]) (st2 := [.ref (uA (nu u)), .ref (uA (nu u))]) rfl ?_
      refine wk_get C fd_PR_99 hp_us rfl d_PR_pass_35 ?_
      refine wk_br C d_PR_pass_38 (P := 0 < (V 4 (nu u) - 1)) (tgt := 45) (rest := [.ref (uA (nu u))]) rfl (by decide) (fun c3 => ?_) (fun c3 => ?_)
      ·
        refine wk_run C k_PR_pass_45 (pc2 := 46) (lv2 := [(3, .ref (uA (nu u))), (0, .ref x), (1, .int u), (2, .int b)]) (st2 := [.int 0, .ref (uA (nu u))]) rfl ?_
        refine wk_put (fs2 := [.int (nI (nu u)), .ref (gA (nu (V 2 (nu u)))), .int (V 3 (nu u)), .int (V 4 (nu u) - 1), .int 0, .long (sf (nu u))]) C fd_PR_95 hp_us rfl rfl (Nat.le_of_ble_eq_true rfl) rfl d_PR_pass_46 ?_
        rw [hp_uu]
        refine wk_run C k_PR_pass_49 (pc2 := 50) (lv2 := [(3, .ref (uA (nu u))), (0, .ref x), (1, .int u), (2, .int b)]) (st2 := [.ref (uA (nu u))]) rfl ?_
        refine wk_get C fd_PR_99 hp_us rfl d_PR_pass_50 ?_
        have s : st_ [21] h own (hp_up h (uA (nu u)) (.inr (2, [.int (nI (nu u)), .ref (gA (nu (V 2 (nu u)))), .int (V 3 (nu u)), .int (V 4 (nu u) - 1), .int 0, .long (sf (nu u))]))) own := st_u (t := 21) (by rw [(hU (nu u) khu.1 khu.2).2]) (by decide)
        have hz : (V 4 (nu u) - 1 = 0) ↔ False := by have h1 := ht hu c1; clear C hX s; rcases h1 with z | z | z <;> simp only [z] at * <;> revert c3 <;> decide
        have hr : sp_pass V u b = (0, V 4 (nu u) - 1, vs (vs (vc V 0 0) 4 (upd (V 4) (nu u) (V 4 (nu u) - 1))) 5 (upd (V 5) (nu u) 0)) := by clear C hX s; grind [sp_pass]
        have hU2 : cU (hp_up h (uA (nu u)) (.inr (2, [.int (nI (nu u)), .ref (gA (nu (V 2 (nu u)))), .int (V 3 (nu u)), .int (V 4 (nu u) - 1), .int 0, .long (sf (nu u))]))) own (nu (V 8 0)) gA uA sf (vs (vs (vc V 0 0) 4 (upd (V 4) (nu u) (V 4 (nu u) - 1))) 5 (upd (V 5) (nu u) 0)) := cU_u hU khu (vs (vs (vc V 0 0) 4 (upd (V 4) (nu u) (V 4 (nu u) - 1))) 5 (upd (V 5) (nu u) 0)) sf (by rw [show (vs (vs (vc V 0 0) 4 (upd (V 4) (nu u) (V 4 (nu u) - 1))) 5 (upd (V 5) (nu u) 0)) 4 (nu u) = V 4 (nu u) - 1 from upd_s, show (vs (vs (vc V 0 0) 4 (upd (V 4) (nu u) (V 4 (nu u) - 1))) 5 (upd (V 5) (nu u) 0)) 5 (nu u) = 0 from upd_s]; rfl) (fun j hj => ⟨rfl, rfl, upd_n hj, upd_n hj, rfl⟩)
        exact wk_iret C (an_o (V2 := vs (vs (vc V 0 0) 4 (upd (V 4) (nu u) (V 4 (nu u) - 1))) 5 (upd (V 5) (nu u) 0)) ⟨gl, ul, pl, mo, aq, tr, gA, uA, pA, pn, pe, eB, sf, cO_m hO s (by decide), cL_m hGL s (by decide) (by decide), cL_m hUL s (by decide) (by decide), cL_m hPL s (by decide) (by decide), cM_m hM s (by decide), cN_m hN s (by decide) (by decide), cT_m hT s (by decide) (by decide), cG_m hG s (by decide), hU2, hB, cP_m hP s (by decide) (by decide) (by decide) (by decide) (by decide) (by decide)⟩ (st_so s (by decide)) hr) (by decide) (by decide) d_PR_pass_53
      ·
        refine wk_run C k_PR_pass_41 (pc2 := 42) (lv2 := [(3, .ref (uA (nu u))), (0, .ref x), (1, .int u), (2, .int b)]) (st2 := [.int 1, .ref (uA (nu u))]) rfl ?_
        refine wk_goto C d_PR_pass_42 (tgt := 46) (by decide) ?_
        refine wk_put (fs2 := [.int (nI (nu u)), .ref (gA (nu (V 2 (nu u)))), .int (V 3 (nu u)), .int (V 4 (nu u) - 1), .int 1, .long (sf (nu u))]) C fd_PR_95 hp_us rfl rfl (Nat.le_of_ble_eq_true rfl) rfl d_PR_pass_46 ?_
        rw [hp_uu]
        refine wk_run C k_PR_pass_49 (pc2 := 50) (lv2 := [(3, .ref (uA (nu u))), (0, .ref x), (1, .int u), (2, .int b)]) (st2 := [.ref (uA (nu u))]) rfl ?_
        refine wk_get C fd_PR_99 hp_us rfl d_PR_pass_50 ?_
        have s : st_ [21] h own (hp_up h (uA (nu u)) (.inr (2, [.int (nI (nu u)), .ref (gA (nu (V 2 (nu u)))), .int (V 3 (nu u)), .int (V 4 (nu u) - 1), .int 1, .long (sf (nu u))]))) own := st_u (t := 21) (by rw [(hU (nu u) khu.1 khu.2).2]) (by decide)
        have hz : (V 4 (nu u) - 1 = 0) ↔ True := by have h1 := ht hu c1; clear C hX s; rcases h1 with z | z | z <;> simp only [z] at * <;> revert c3 <;> decide
        have hr : sp_pass V u b = (0, V 4 (nu u) - 1, vs (vs (vc V 0 0) 4 (upd (V 4) (nu u) (V 4 (nu u) - 1))) 5 (upd (V 5) (nu u) 1)) := by clear C hX s; grind [sp_pass]
        have hU2 : cU (hp_up h (uA (nu u)) (.inr (2, [.int (nI (nu u)), .ref (gA (nu (V 2 (nu u)))), .int (V 3 (nu u)), .int (V 4 (nu u) - 1), .int 1, .long (sf (nu u))]))) own (nu (V 8 0)) gA uA sf (vs (vs (vc V 0 0) 4 (upd (V 4) (nu u) (V 4 (nu u) - 1))) 5 (upd (V 5) (nu u) 1)) := cU_u hU khu (vs (vs (vc V 0 0) 4 (upd (V 4) (nu u) (V 4 (nu u) - 1))) 5 (upd (V 5) (nu u) 1)) sf (by rw [show (vs (vs (vc V 0 0) 4 (upd (V 4) (nu u) (V 4 (nu u) - 1))) 5 (upd (V 5) (nu u) 1)) 4 (nu u) = V 4 (nu u) - 1 from upd_s, show (vs (vs (vc V 0 0) 4 (upd (V 4) (nu u) (V 4 (nu u) - 1))) 5 (upd (V 5) (nu u) 1)) 5 (nu u) = 1 from upd_s]; rfl) (fun j hj => ⟨rfl, rfl, upd_n hj, upd_n hj, rfl⟩)
        exact wk_iret C (an_o (V2 := vs (vs (vc V 0 0) 4 (upd (V 4) (nu u) (V 4 (nu u) - 1))) 5 (upd (V 5) (nu u) 1)) ⟨gl, ul, pl, mo, aq, tr, gA, uA, pA, pn, pe, eB, sf, cO_m hO s (by decide), cL_m hGL s (by decide) (by decide), cL_m hUL s (by decide) (by decide), cL_m hPL s (by decide) (by decide), cM_m hM s (by decide), cN_m hN s (by decide) (by decide), cT_m hT s (by decide) (by decide), cG_m hG s (by decide), hU2, hB, cP_m hP s (by decide) (by decide) (by decide) (by decide) (by decide) (by decide)⟩ (st_so s (by decide)) hr) (by decide) (by decide) d_PR_pass_53
    ·
      refine wk_run C k_PR_pass_20 (pc2 := 21) (lv2 := [(3, .ref (uA (nu u))), (0, .ref x), (1, .int u), (2, .int b)]) (st2 := [.int 3, .ref (uA (nu u))]) rfl ?_
      refine wk_goto C d_PR_pass_21 (tgt := 30) (by decide) ?_
      refine wk_put (fs2 := [.int (nI (nu u)), .ref (gA (nu (V 2 (nu u)))), .int (V 3 (nu u)), .int (3), .int (V 5 (nu u)), .long (sf (nu u))]) C fd_PR_99 ohu rfl rfl (Nat.le_of_ble_eq_true rfl) rfl d_PR_pass_30 ?_
      refine wk_run C k_PR_pass_33 (pc2 := 35) (lv2 := [(3, .ref (uA (nu u))), (0, .ref x), (1, .int u), (2, .int b)]) (st2 := [.ref (uA (nu u)), .ref (uA (nu u))]) rfl ?_
      refine wk_get C fd_PR_99 hp_us rfl d_PR_pass_35 ?_
      refine wk_br C d_PR_pass_38 (P := 0 < (3)) (tgt := 45) (rest := [.ref (uA (nu u))]) rfl (by decide) (fun c3 => ?_) (fun c3 => ?_)
      ·
        refine wk_run C k_PR_pass_45 (pc2 := 46) (lv2 := [(3, .ref (uA (nu u))), (0, .ref x), (1, .int u), (2, .int b)]) (st2 := [.int 0, .ref (uA (nu u))]) rfl ?_
        refine wk_put (fs2 := [.int (nI (nu u)), .ref (gA (nu (V 2 (nu u)))), .int (V 3 (nu u)), .int (3), .int 0, .long (sf (nu u))]) C fd_PR_95 hp_us rfl rfl (Nat.le_of_ble_eq_true rfl) rfl d_PR_pass_46 ?_
        rw [hp_uu]
        refine wk_run C k_PR_pass_49 (pc2 := 50) (lv2 := [(3, .ref (uA (nu u))), (0, .ref x), (1, .int u), (2, .int b)]) (st2 := [.ref (uA (nu u))]) rfl ?_
        refine wk_get C fd_PR_99 hp_us rfl d_PR_pass_50 ?_
        have s : st_ [21] h own (hp_up h (uA (nu u)) (.inr (2, [.int (nI (nu u)), .ref (gA (nu (V 2 (nu u)))), .int (V 3 (nu u)), .int (3), .int 0, .long (sf (nu u))]))) own := st_u (t := 21) (by rw [(hU (nu u) khu.1 khu.2).2]) (by decide)
        have hz : ((3 : Int32) = 0) ↔ False := by clear C hX s; revert c3; decide
        have hr : sp_pass V u b = (0, 3, vs (vs (vc V 0 0) 4 (upd (V 4) (nu u) (3))) 5 (upd (V 5) (nu u) 0)) := by clear C hX s; grind [sp_pass]
        have hU2 : cU (hp_up h (uA (nu u)) (.inr (2, [.int (nI (nu u)), .ref (gA (nu (V 2 (nu u)))), .int (V 3 (nu u)), .int (3), .int 0, .long (sf (nu u))]))) own (nu (V 8 0)) gA uA sf (vs (vs (vc V 0 0) 4 (upd (V 4) (nu u) (3))) 5 (upd (V 5) (nu u) 0)) := cU_u hU khu (vs (vs (vc V 0 0) 4 (upd (V 4) (nu u) (3))) 5 (upd (V 5) (nu u) 0)) sf (by rw [show (vs (vs (vc V 0 0) 4 (upd (V 4) (nu u) (3))) 5 (upd (V 5) (nu u) 0)) 4 (nu u) = 3 from upd_s, show (vs (vs (vc V 0 0) 4 (upd (V 4) (nu u) (3))) 5 (upd (V 5) (nu u) 0)) 5 (nu u) = 0 from upd_s]; rfl) (fun j hj => ⟨rfl, rfl, upd_n hj, upd_n hj, rfl⟩)
        exact wk_iret C (an_o (V2 := vs (vs (vc V 0 0) 4 (upd (V 4) (nu u) (3))) 5 (upd (V 5) (nu u) 0)) ⟨gl, ul, pl, mo, aq, tr, gA, uA, pA, pn, pe, eB, sf, cO_m hO s (by decide), cL_m hGL s (by decide) (by decide), cL_m hUL s (by decide) (by decide), cL_m hPL s (by decide) (by decide), cM_m hM s (by decide), cN_m hN s (by decide) (by decide), cT_m hT s (by decide) (by decide), cG_m hG s (by decide), hU2, hB, cP_m hP s (by decide) (by decide) (by decide) (by decide) (by decide) (by decide)⟩ (st_so s (by decide)) hr) (by decide) (by decide) d_PR_pass_53
      ·
        refine wk_run C k_PR_pass_41 (pc2 := 42) (lv2 := [(3, .ref (uA (nu u))), (0, .ref x), (1, .int u), (2, .int b)]) (st2 := [.int 1, .ref (uA (nu u))]) rfl ?_
        refine wk_goto C d_PR_pass_42 (tgt := 46) (by decide) ?_
        refine wk_put (fs2 := [.int (nI (nu u)), .ref (gA (nu (V 2 (nu u)))), .int (V 3 (nu u)), .int (3), .int 1, .long (sf (nu u))]) C fd_PR_95 hp_us rfl rfl (Nat.le_of_ble_eq_true rfl) rfl d_PR_pass_46 ?_
        rw [hp_uu]
        refine wk_run C k_PR_pass_49 (pc2 := 50) (lv2 := [(3, .ref (uA (nu u))), (0, .ref x), (1, .int u), (2, .int b)]) (st2 := [.ref (uA (nu u))]) rfl ?_
        refine wk_get C fd_PR_99 hp_us rfl d_PR_pass_50 ?_
        have s : st_ [21] h own (hp_up h (uA (nu u)) (.inr (2, [.int (nI (nu u)), .ref (gA (nu (V 2 (nu u)))), .int (V 3 (nu u)), .int (3), .int 1, .long (sf (nu u))]))) own := st_u (t := 21) (by rw [(hU (nu u) khu.1 khu.2).2]) (by decide)
        have hz : ((3 : Int32) = 0) ↔ True := by clear C hX s; revert c3; decide
        have hr : sp_pass V u b = (0, 3, vs (vs (vc V 0 0) 4 (upd (V 4) (nu u) (3))) 5 (upd (V 5) (nu u) 1)) := by clear C hX s; grind [sp_pass]
        have hU2 : cU (hp_up h (uA (nu u)) (.inr (2, [.int (nI (nu u)), .ref (gA (nu (V 2 (nu u)))), .int (V 3 (nu u)), .int (3), .int 1, .long (sf (nu u))]))) own (nu (V 8 0)) gA uA sf (vs (vs (vc V 0 0) 4 (upd (V 4) (nu u) (3))) 5 (upd (V 5) (nu u) 1)) := cU_u hU khu (vs (vs (vc V 0 0) 4 (upd (V 4) (nu u) (3))) 5 (upd (V 5) (nu u) 1)) sf (by rw [show (vs (vs (vc V 0 0) 4 (upd (V 4) (nu u) (3))) 5 (upd (V 5) (nu u) 1)) 4 (nu u) = 3 from upd_s, show (vs (vs (vc V 0 0) 4 (upd (V 4) (nu u) (3))) 5 (upd (V 5) (nu u) 1)) 5 (nu u) = 1 from upd_s]; rfl) (fun j hj => ⟨rfl, rfl, upd_n hj, upd_n hj, rfl⟩)
        exact wk_iret C (an_o (V2 := vs (vs (vc V 0 0) 4 (upd (V 4) (nu u) (3))) 5 (upd (V 5) (nu u) 1)) ⟨gl, ul, pl, mo, aq, tr, gA, uA, pA, pn, pe, eB, sf, cO_m hO s (by decide), cL_m hGL s (by decide) (by decide), cL_m hUL s (by decide) (by decide), cL_m hPL s (by decide) (by decide), cM_m hM s (by decide), cN_m hN s (by decide) (by decide), cT_m hT s (by decide) (by decide), cG_m hG s (by decide), hU2, hB, cP_m hP s (by decide) (by decide) (by decide) (by decide) (by decide) (by decide)⟩ (st_so s (by decide)) hr) (by decide) (by decide) d_PR_pass_53
  ·
    refine wk_run C k_PR_pass_13 (pc2 := 14) (lv2 := [(3, .ref (uA (nu u))), (0, .ref x), (1, .int u), (2, .int b)]) (st2 := [.int (-1)]) rfl ?_
    exact wk_iret C (an_q hX (by clear C hX; grind [sp_pass])) (by decide) (by decide) d_PR_pass_14
