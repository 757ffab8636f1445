theorem k_PR_testTerminal_0 : px_dec prog_1_method_28_code [.iload_n 0] 0 = true := by decide +kernel
theorem d_PR_testTerminal_1 : decode prog_1_method_28_code 1 = .ok (.ifCond .lt 9, 3) := by decide +kernel
theorem d_PR_testTerminal_10 : decode prog_1_method_28_code 10 = .ok (.new 105, 3) := by decide +kernel
theorem d_PR_testTerminal_13 : decode prog_1_method_28_code 13 = .ok (.dup, 1) := by decide +kernel
theorem d_PR_testTerminal_14 : decode prog_1_method_28_code 14 = .ok (.ldc 233, 2) := by decide +kernel
theorem d_PR_testTerminal_16 : decode prog_1_method_28_code 16 = .ok (.invokespecial 109, 3) := by decide +kernel
theorem d_PR_testTerminal_19 : decode prog_1_method_28_code 19 = .ok (.athrow, 1) := by decide +kernel
theorem k_PR_testTerminal_4 : px_dec prog_1_method_28_code [.iload_n 0, .bipush 99] 4 = true := by decide +kernel
theorem d_PR_testTerminal_7 : decode prog_1_method_28_code 7 = .ok (.if_icmp .le 13, 3) := by decide +kernel
theorem d_PR_testTerminal_20 : decode prog_1_method_28_code 20 = .ok (.return_, 1) := by decide +kernel
set_option maxRecDepth 100000 in
set_option maxHeartbeats 4000000 in
theorem c_PR_testTerminal (l : Launch) (D : va_G) (HB : Heap) (h : hp_T) (hlt : l.stackTraces = false) (p1 : Int32) : ct_M l y_PR_testTerminal (.code y_PR_testTerminal prog_1_method_28_code 1 (Option.none : Option Jvm.ClassFile.FieldType)) ({ frames := 6, cells := 1, slots := 6, locals := 84 }) D HB [.int p1] h (fun o h2 => h2 = h ∧ o = if p1 < 0 ∨ ¬ p1 ≤ 99 then .inr eA else .inl none) := by
  refine ct_of (by decide) (Nat.le_of_ble_eq_true rfl) rfl ?_
  intro p_ e_ s_ m_ r_ b_ t_ c_ C hnm
  refine wk_run C k_PR_testTerminal_0 (pc2 := 1) (lv2 := [(0, .int p1)]) (st2 := [.int p1]) rfl ?_
  refine wk_br C d_PR_testTerminal_1 (P := p1 < 0) (tgt := 10) (rest := []) rfl (by decide) (fun c1 => ?_) (fun c1 => ?_)
  ·
    exact wk_thrA C hlt (text := "no such terminal") (is := 233) (by decide) d_PR_testTerminal_10 d_PR_testTerminal_13 d_PR_testTerminal_14 d_PR_testTerminal_16 d_PR_testTerminal_19 (by decide) (Nat.le_of_ble_eq_true rfl) (by decide) (by decide) (by decide) (by decide) ⟨rfl, by simp [c1]⟩
  ·
    refine wk_run C k_PR_testTerminal_4 (pc2 := 7) (lv2 := [(0, .int p1)]) (st2 := [.int 99, .int p1]) rfl ?_
    refine wk_br C d_PR_testTerminal_7 (P := p1 ≤ 99) (tgt := 20) (rest := []) rfl (by decide) (fun c2 => ?_) (fun c2 => ?_)
    ·
      exact wk_vret C ⟨rfl, by simp [c1, c2]⟩ (by decide) (by decide) d_PR_testTerminal_20
    ·
      exact wk_thrA C hlt (text := "no such terminal") (is := 233) (by decide) d_PR_testTerminal_10 d_PR_testTerminal_13 d_PR_testTerminal_14 d_PR_testTerminal_16 d_PR_testTerminal_19 (by decide) (Nat.le_of_ble_eq_true rfl) (by decide) (by decide) (by decide) (by decide) ⟨rfl, by simp [c1, c2]⟩
theorem k_PR_testLevel_0 : px_dec prog_1_method_29_code [.iload_n 0, .iload_n 1] 0 = true := by decide +kernel
theorem d_PR_testLevel_2 : decode prog_1_method_29_code 2 = .ok (.if_icmp .lt 8, 3) := by decide +kernel
theorem d_PR_testLevel_10 : decode prog_1_method_29_code 10 = .ok (.new 105, 3) := by decide +kernel
theorem d_PR_testLevel_13 : decode prog_1_method_29_code 13 = .ok (.dup, 1) := by decide +kernel
theorem d_PR_testLevel_14 : decode prog_1_method_29_code 14 = .ok (.ldc 235, 2) := by decide +kernel
theorem d_PR_testLevel_16 : decode prog_1_method_29_code 16 = .ok (.invokespecial 109, 3) := by decide +kernel
theorem d_PR_testLevel_19 : decode prog_1_method_29_code 19 = .ok (.athrow, 1) := by decide +kernel
theorem k_PR_testLevel_5 : px_dec prog_1_method_29_code [.iload_n 0, .iconst 4] 5 = true := by decide +kernel
theorem d_PR_testLevel_7 : decode prog_1_method_29_code 7 = .ok (.if_icmp .le 13, 3) := by decide +kernel
theorem d_PR_testLevel_20 : decode prog_1_method_29_code 20 = .ok (.return_, 1) := by decide +kernel
set_option maxRecDepth 100000 in
set_option maxHeartbeats 4000000 in
theorem c_PR_testLevel (l : Launch) (D : va_G) (HB : Heap) (h : hp_T) (hlt : l.stackTraces = false) (p1 p2 : Int32) : ct_M l y_PR_testLevel (.code y_PR_testLevel prog_1_method_29_code 2 (Option.none : Option Jvm.ClassFile.FieldType)) ({ frames := 6, cells := 1, slots := 6, locals := 84 }) D HB [.int p1, .int p2] h (fun o h2 => h2 = h ∧ o = if p1 < p2 ∨ ¬ p1 ≤ 4 then .inr eA else .inl none) := by
  refine ct_of (by decide) (Nat.le_of_ble_eq_true rfl) rfl ?_
  intro p_ e_ s_ m_ r_ b_ t_ c_ C hnm
  refine wk_run C k_PR_testLevel_0 (pc2 := 2) (lv2 := [(0, .int p1), (1, .int p2)]) (st2 := [.int p2, .int p1]) rfl ?_
  refine wk_br C d_PR_testLevel_2 (P := p1 < p2) (tgt := 10) (rest := []) rfl (by decide) (fun c1 => ?_) (fun c1 => ?_)
  ·
    exact wk_thrA C hlt (text := "no such level") (is := 235) (by decide) d_PR_testLevel_10 d_PR_testLevel_13 d_PR_testLevel_14 d_PR_testLevel_16 d_PR_testLevel_19 (by decide) (Nat.le_of_ble_eq_true rfl) (by decide) (by decide) (by decide) (by decide) ⟨rfl, by simp [c1]⟩
  ·
    refine wk_run C k_PR_testLevel_5 (pc2 := 7) (lv2 := [(0, .int p1), (1, .int p2)]) (st2 := [.int 4, .int p1]) rfl ?_
    refine wk_br C d_PR_testLevel_7 (P := p1 ≤ 4) (tgt := 20) (rest := []) rfl (by decide) (fun c2 => ?_) (fun c2 => ?_)
    ·
      exact wk_vret C ⟨rfl, by simp [c1, c2]⟩ (by decide) (by decide) d_PR_testLevel_20
    ·
      exact wk_thrA C hlt (text := "no such level") (is := 235) (by decide) d_PR_testLevel_10 d_PR_testLevel_13 d_PR_testLevel_14 d_PR_testLevel_16 d_PR_testLevel_19 (by decide) (Nat.le_of_ble_eq_true rfl) (by decide) (by decide) (by decide) (by decide) ⟨rfl, by simp [c1, c2]⟩
theorem k_PR_isCharacter_0 : px_dec prog_1_method_30_code [.iload_n 0, .bipush 33] 0 = true := by decide +kernel
theorem d_PR_isCharacter_3 : decode prog_1_method_30_code 3 = .ok (.if_icmp .lt 13, 3) := by decide +kernel
theorem k_PR_isCharacter_16 : px_dec prog_1_method_30_code [.iconst 0] 16 = true := by decide +kernel
theorem d_PR_isCharacter_17 : decode prog_1_method_30_code 17 = .ok (.ireturn, 1) := by decide +kernel
theorem k_PR_isCharacter_6 : px_dec prog_1_method_30_code [.iload_n 0, .bipush 126] 6 = true := by decide +kernel
theorem d_PR_isCharacter_9 : decode prog_1_method_30_code 9 = .ok (.if_icmp .gt 7, 3) := by decide +kernel
theorem k_PR_isCharacter_12 : px_dec prog_1_method_30_code [.iconst 1] 12 = true := by decide +kernel
theorem d_PR_isCharacter_13 : decode prog_1_method_30_code 13 = .ok (.goto 4, 3) := by decide +kernel
set_option maxRecDepth 100000 in
set_option maxHeartbeats 4000000 in
theorem c_PR_isCharacter (l : Launch) (D : va_G) (HB : Heap) (h : hp_T) (k : Int32) : ct_M l y_PR_isCharacter (.code y_PR_isCharacter prog_1_method_30_code 1 (Option.some Jvm.ClassFile.FieldType.boolean)) ({ frames := 0, cells := 0, slots := 0, locals := 0 }) D HB [.int k] h (fun o h2 => o = .inl (some (.int (if ¬ k < 33 ∧ ¬ 126 < k then (1 : Int32) else 0))) ∧ h2 = h) := by
  refine ct_of (by decide) (Nat.le_of_ble_eq_true rfl) rfl ?_
  intro p_ e_ s_ m_ r_ b_ t_ c_ C hnm
  refine wk_run C k_PR_isCharacter_0 (pc2 := 3) (lv2 := [(0, .int k)]) (st2 := [.int 33, .int k]) rfl ?_
  refine wk_br C d_PR_isCharacter_3 (P := k < 33) (tgt := 16) (rest := []) rfl (by decide) (fun c1 => ?_) (fun c1 => ?_)
  ·
    refine wk_run C k_PR_isCharacter_16 (pc2 := 17) (lv2 := [(0, .int k)]) (st2 := [.int 0]) rfl ?_
    exact wk_zret C (by decide) ⟨by simp [c1], rfl⟩ (by decide) (by decide) d_PR_isCharacter_17
  ·
    refine wk_run C k_PR_isCharacter_6 (pc2 := 9) (lv2 := [(0, .int k)]) (st2 := [.int 126, .int k]) rfl ?_
    refine wk_br C d_PR_isCharacter_9 (P := 126 < k) (tgt := 16) (rest := []) rfl (by decide) (fun c2 => ?_) (fun c2 => ?_)
    ·
      refine wk_run C k_PR_isCharacter_16 (pc2 := 17) (lv2 := [(0, .int k)]) (st2 := [.int 0]) rfl ?_
      exact wk_zret C (by decide) ⟨by simp [c1, c2], rfl⟩ (by decide) (by decide) d_PR_isCharacter_17
    ·
      refine wk_run C k_PR_isCharacter_12 (pc2 := 13) (lv2 := [(0, .int k)]) (st2 := [.int 1]) rfl ?_
      refine wk_goto C d_PR_isCharacter_13 (tgt := 17) (by decide) ?_
      exact wk_zret C (by decide) ⟨by simp [c1, c2], rfl⟩ (by decide) (by decide) d_PR_isCharacter_17
theorem k_PF_bears_0 : px_dec prog_5_method_2_code [.aload_n 0] 0 = true := by decide +kernel
theorem d_PF_bears_1 : decode prog_5_method_2_code 1 = .ok (.getfield 35, 3) := by decide +kernel
theorem k_PF_bears_4 : px_dec prog_5_method_2_code [.iload_n 1, .iand] 4 = true := by decide +kernel
theorem d_PF_bears_6 : decode prog_5_method_2_code 6 = .ok (.ifCond .eq 7, 3) := by decide +kernel
theorem k_PF_bears_13 : px_dec prog_5_method_2_code [.iconst 0] 13 = true := by decide +kernel
theorem d_PF_bears_14 : decode prog_5_method_2_code 14 = .ok (.ireturn, 1) := by decide +kernel
theorem k_PF_bears_9 : px_dec prog_5_method_2_code [.iconst 1] 9 = true := by decide +kernel
theorem d_PF_bears_10 : decode prog_5_method_2_code 10 = .ok (.goto 4, 3) := by decide +kernel
set_option maxRecDepth 100000 in
set_option maxHeartbeats 4000000 in
theorem c_PF_bears (l : Launch) (D : va_G) (HB : Heap) (h : hp_T) (a pn pl : Nat) (n0 n1 ul mk : Int32) (ha : h a = some (.inr (5, [.int n0, .int n1, .ref pn, .ref pl, .int ul, .int mk]))) (k : Int32) : ct_M l y_PF_bears (.code y_PF_bears prog_5_method_2_code 2 (Option.some Jvm.ClassFile.FieldType.boolean)) ({ frames := 0, cells := 0, slots := 0, locals := 0 }) D HB [.ref a, .int k] h (fun o h2 => o = .inl (some (.int (if mk &&& k = 0 then (0 : Int32) else 1))) ∧ h2 = h) := by
  refine ct_of (by decide) (Nat.le_of_ble_eq_true rfl) rfl ?_
  intro p_ e_ s_ m_ r_ b_ t_ c_ C hnm
  refine wk_run C k_PF_bears_0 (pc2 := 1) (lv2 := [(0, .ref a), (1, .int k)]) (st2 := [.ref a]) rfl ?_
  refine wk_get C fd_PF_35 ha rfl d_PF_bears_1 ?_
  refine wk_run C k_PF_bears_4 (pc2 := 6) (lv2 := [(0, .ref a), (1, .int k)]) (st2 := [.int (mk &&& k)]) rfl ?_
  refine wk_br C d_PF_bears_6 (P := (mk &&& k) = 0) (tgt := 13) (rest := []) rfl (by decide) (fun c1 => ?_) (fun c1 => ?_)
  ·
    refine wk_run C k_PF_bears_13 (pc2 := 14) (lv2 := [(0, .ref a), (1, .int k)]) (st2 := [.int 0]) rfl ?_
    exact wk_zret C (by decide) ⟨by simp [c1], rfl⟩ (by decide) (by decide) d_PF_bears_14
  ·
    refine wk_run C k_PF_bears_9 (pc2 := 10) (lv2 := [(0, .ref a), (1, .int k)]) (st2 := [.int 1]) rfl ?_
    refine wk_goto C d_PF_bears_10 (tgt := 14) (by decide) ?_
    exact wk_zret C (by decide) ⟨by simp [c1], rfl⟩ (by decide) (by decide) d_PF_bears_14
theorem k_PF_isOpenToAll_0 : px_dec prog_5_method_3_code [.aload_n 0, .iconst 4] 0 = true := by decide +kernel
theorem d_PF_isOpenToAll_2 : decode prog_5_method_3_code 2 = .ok (.invokevirtual 38, 3) := by decide +kernel
theorem d_PF_isOpenToAll_5 : decode prog_5_method_3_code 5 = .ok (.ifCond .eq 15, 3) := by decide +kernel
theorem k_PF_isOpenToAll_20 : px_dec prog_5_method_3_code [.iconst 0] 20 = true := by decide +kernel
theorem d_PF_isOpenToAll_21 : decode prog_5_method_3_code 21 = .ok (.ireturn, 1) := by decide +kernel
theorem k_PF_isOpenToAll_8 : px_dec prog_5_method_3_code [.aload_n 0] 8 = true := by decide +kernel
theorem d_PF_isOpenToAll_9 : decode prog_5_method_3_code 9 = .ok (.getfield 32, 3) := by decide +kernel
theorem k_PF_isOpenToAll_12 : px_dec prog_5_method_3_code [.iload_n 1] 12 = true := by decide +kernel
theorem d_PF_isOpenToAll_13 : decode prog_5_method_3_code 13 = .ok (.if_icmp .lt 7, 3) := by decide +kernel
theorem k_PF_isOpenToAll_16 : px_dec prog_5_method_3_code [.iconst 1] 16 = true := by decide +kernel
theorem d_PF_isOpenToAll_17 : decode prog_5_method_3_code 17 = .ok (.goto 4, 3) := by decide +kernel
set_option maxRecDepth 100000 in
set_option maxHeartbeats 4000000 in
theorem c_PF_isOpenToAll (l : Launch) (D : va_G) (HB : Heap) (h : hp_T) (a pn pl : Nat) (n0 n1 ul mk : Int32) (ha : h a = some (.inr (5, [.int n0, .int n1, .ref pn, .ref pl, .int ul, .int mk]))) (k : Int32) : ct_M l y_PF_isOpenToAll (.code y_PF_isOpenToAll prog_5_method_3_code 2 (Option.some Jvm.ClassFile.FieldType.boolean)) ({ frames := 1, cells := 0, slots := 0, locals := 21 }) D HB [.ref a, .int k] h (fun o h2 => o = .inl (some (.int (if mk &&& 4 = 0 ∨ ul < k then (0 : Int32) else 1))) ∧ h2 = h) := by
  refine ct_of (by decide) (Nat.le_of_ble_eq_true rfl) rfl ?_
  intro p_ e_ s_ m_ r_ b_ t_ c_ C hnm
  refine wk_run C k_PF_isOpenToAll_0 (pc2 := 2) (lv2 := [(0, .ref a), (1, .int k)]) (st2 := [.int 4, .ref a]) rfl ?_
  refine wk_callV (cl := ("ProfileRights$Profile", T_PF, 6)) (rest := []) C (c_PF_bears l D HB h a pn pl n0 n1 ul mk ha 4) cs_PF_38 kc_PF_bears ki_PF ha rfl rfl rfl (Nat.le_of_ble_eq_true rfl) (Nat.le_of_ble_eq_true rfl) (Nat.le_of_ble_eq_true rfl) (Nat.le_of_ble_eq_true rfl) (Nat.le_of_ble_eq_true rfl) d_PF_isOpenToAll_2 (fun v h2 hq => ?_) (fun _ _ z => nomatch z.1)
  obtain ⟨e1, e2⟩ := hq; cases e1; replace e2 := e2.symm; subst e2
  refine wk_br C d_PF_isOpenToAll_5 (P := (if mk &&& 4 = 0 then (0 : Int32) else 1) = 0) (tgt := 20) (rest := []) rfl (by decide) (fun c1 => ?_) (fun c1 => ?_)
  ·
    refine wk_run C k_PF_isOpenToAll_20 (pc2 := 21) (lv2 := [(0, .ref a), (1, .int k)]) (st2 := [.int 0]) rfl ?_
    exact wk_zret C (by decide) ⟨by first | simp_all [c1] | (split at c1 <;> simp_all), rfl⟩ (by decide) (by decide) d_PF_isOpenToAll_21
  ·
    refine wk_run C k_PF_isOpenToAll_8 (pc2 := 9) (lv2 := [(0, .ref a), (1, .int k)]) (st2 := [.ref a]) rfl ?_
    refine wk_get C fd_PF_32 ha rfl d_PF_isOpenToAll_9 ?_
    refine wk_run C k_PF_isOpenToAll_12 (pc2 := 13) (lv2 := [(0, .ref a), (1, .int k)]) (st2 := [.int k, .int ul]) rfl ?_
    refine wk_br C d_PF_isOpenToAll_13 (P := ul < k) (tgt := 20) (rest := []) rfl (by decide) (fun c2 => ?_) (fun c2 => ?_)
    ·
      refine wk_run C k_PF_isOpenToAll_20 (pc2 := 21) (lv2 := [(0, .ref a), (1, .int k)]) (st2 := [.int 0]) rfl ?_
      exact wk_zret C (by decide) ⟨by first | simp_all [c1, c2] | (split at c1 <;> simp_all), rfl⟩ (by decide) (by decide) d_PF_isOpenToAll_21
    ·
      refine wk_run C k_PF_isOpenToAll_16 (pc2 := 17) (lv2 := [(0, .ref a), (1, .int k)]) (st2 := [.int 1]) rfl ?_
      refine wk_goto C d_PF_isOpenToAll_17 (tgt := 21) (by decide) ?_
      exact wk_zret C (by decide) ⟨by first | simp_all [c1, c2] | (split at c1 <;> simp_all), rfl⟩ (by decide) (by decide) d_PF_isOpenToAll_21
theorem k_PF_isFull_0 : px_dec prog_5_method_4_code [.aload_n 0] 0 = true := by decide +kernel
theorem d_PF_isFull_1 : decode prog_5_method_4_code 1 = .ok (.getfield 28, 3) := by decide +kernel
theorem d_PF_isFull_4 : decode prog_5_method_4_code 4 = .ok (.invokevirtual 42, 3) := by decide +kernel
theorem k_PF_isFull_7 : px_dec prog_5_method_4_code [.bipush 10] 7 = true := by decide +kernel
theorem d_PF_isFull_9 : decode prog_5_method_4_code 9 = .ok (.if_icmp .lt 7, 3) := by decide +kernel
theorem k_PF_isFull_16 : px_dec prog_5_method_4_code [.iconst 0] 16 = true := by decide +kernel
theorem d_PF_isFull_17 : decode prog_5_method_4_code 17 = .ok (.ireturn, 1) := by decide +kernel
theorem k_PF_isFull_12 : px_dec prog_5_method_4_code [.iconst 1] 12 = true := by decide +kernel
theorem d_PF_isFull_13 : decode prog_5_method_4_code 13 = .ok (.goto 4, 3) := by decide +kernel
set_option maxRecDepth 100000 in
set_option maxHeartbeats 4000000 in
theorem c_PF_isFull (l : Launch) (D : va_G) (HB : Heap) (h : hp_T) (a pn pl : Nat) (n0 n1 ul mk : Int32) (ha : h a = some (.inr (5, [.int n0, .int n1, .ref pn, .ref pl, .int ul, .int mk]))) (b n : Nat) (f : Nat → Nat) (hL : al_ok D h pl b n f) (hn : n ≤ 100) : ct_M l y_PF_isFull (.code y_PF_isFull prog_5_method_4_code 1 (Option.some Jvm.ClassFile.FieldType.boolean)) ({ frames := 1, cells := 0, slots := 0, locals := 20 }) D HB [.ref a] h (fun o h2 => o = .inl (some (.int (if n < 10 then (0 : Int32) else 1))) ∧ h2 = h) := by
  refine ct_of (by decide) (Nat.le_of_ble_eq_true rfl) rfl ?_
  intro p_ e_ s_ m_ r_ b_ t_ c_ C hnm
  refine wk_run C k_PF_isFull_0 (pc2 := 1) (lv2 := [(0, .ref a)]) (st2 := [.ref a]) rfl ?_
  refine wk_get C fd_PF_28 ha rfl d_PF_isFull_1 ?_
  obtain ⟨md, hl, -⟩ := id hL
  refine wk_callV (cl := ("java/util/ArrayList", T_AL, 3)) (rest := []) C (al_size l HB hL) cs_PF_42 kc_AL_size ki_AL hl rfl rfl rfl (Nat.le_of_ble_eq_true rfl) (Nat.le_of_ble_eq_true rfl) (Nat.le_of_ble_eq_true rfl) (Nat.le_of_ble_eq_true rfl) (Nat.le_of_ble_eq_true rfl) d_PF_isFull_4 (fun v h2 hq => ?_) (fun _ _ z => nomatch z.1)
  obtain ⟨e1, e2⟩ := hq; cases e1; replace e2 := e2.symm; subst e2
  refine wk_run C k_PF_isFull_7 (pc2 := 9) (lv2 := [(0, .ref a)]) (st2 := [.int 10, .int (nI n)]) rfl ?_
  refine wk_br C d_PF_isFull_9 (P := (nI n) < 10) (tgt := 16) (rest := []) rfl (by decide) (fun c1 => ?_) (fun c1 => ?_)
  ·
    refine wk_run C k_PF_isFull_16 (pc2 := 17) (lv2 := [(0, .ref a)]) (st2 := [.int 0]) rfl ?_
    have hx : (nI n < 10) = (n < 10) := propext (nI_ltI (a := n) (b := 10) (by omega) (by decide))
    exact wk_zret C (by decide) ⟨by rw [hx] at c1; simp [c1], rfl⟩ (by decide) (by decide) d_PF_isFull_17
  ·
    refine wk_run C k_PF_isFull_12 (pc2 := 13) (lv2 := [(0, .ref a)]) (st2 := [.int 1]) rfl ?_
    refine wk_goto C d_PF_isFull_13 (tgt := 17) (by decide) ?_
    have hx : (nI n < 10) = (n < 10) := propext (nI_ltI (a := n) (b := 10) (by omega) (by decide))
    exact wk_zret C (by decide) ⟨by rw [hx] at c1; simp [c1], rfl⟩ (by decide) (by decide) d_PF_isFull_17
theorem k_EN_isOpen_0 : px_dec prog_2_method_2_code [.aload_n 0] 0 = true := by decide +kernel
theorem d_EN_isOpen_1 : decode prog_2_method_2_code 1 = .ok (.getfield 18, 3) := by decide +kernel
theorem d_EN_isOpen_4 : decode prog_2_method_2_code 4 = .ok (.ifCond .eq 14, 3) := by decide +kernel
theorem k_EN_isOpen_18 : px_dec prog_2_method_2_code [.aload_n 0] 18 = true := by decide +kernel
theorem d_EN_isOpen_19 : decode prog_2_method_2_code 19 = .ok (.getfield 22, 3) := by decide +kernel
theorem k_EN_isOpen_22 : px_dec prog_2_method_2_code [.iload_n 2, .ishr, .iconst 1, .iand] 22 = true := by decide +kernel
theorem d_EN_isOpen_26 : decode prog_2_method_2_code 26 = .ok (.ifCond .eq 7, 3) := by decide +kernel
theorem k_EN_isOpen_33 : px_dec prog_2_method_2_code [.iconst 0] 33 = true := by decide +kernel
theorem d_EN_isOpen_34 : decode prog_2_method_2_code 34 = .ok (.ireturn, 1) := by decide +kernel
theorem k_EN_isOpen_29 : px_dec prog_2_method_2_code [.iconst 1] 29 = true := by decide +kernel
theorem d_EN_isOpen_30 : decode prog_2_method_2_code 30 = .ok (.goto 4, 3) := by decide +kernel
theorem k_EN_isOpen_7 : px_dec prog_2_method_2_code [.aload_n 0] 7 = true := by decide +kernel
theorem d_EN_isOpen_8 : decode prog_2_method_2_code 8 = .ok (.getfield 18, 3) := by decide +kernel
theorem k_EN_isOpen_11 : px_dec prog_2_method_2_code [.aload_n 1] 11 = true := by decide +kernel
theorem d_EN_isOpen_12 : decode prog_2_method_2_code 12 = .ok (.getfield 25, 3) := by decide +kernel
theorem d_EN_isOpen_15 : decode prog_2_method_2_code 15 = .ok (.if_icmp .ne 18, 3) := by decide +kernel
set_option maxRecDepth 100000 in
set_option maxHeartbeats 4000000 in
theorem c_EN_isOpen (l : Launch) (D : va_G) (HB : Heap) (h : hp_T) (a u ug : Nat) (e0 e1 e2 e3 u0 u2 u3 u4 k : Int32) (u5 : Int64) (ha : h a = some (.inr (4, [.int e0, .int e1, .int e2, .int e3]))) (hu : h u = some (.inr (2, [.int u0, .ref ug, .int u2, .int u3, .int u4, .long u5]))) : ct_M l y_EN_isOpen (.code y_EN_isOpen prog_2_method_2_code 3 (Option.some Jvm.ClassFile.FieldType.boolean)) ({ frames := 0, cells := 0, slots := 0, locals := 0 }) D HB [.ref a, .ref u, .int k] h (fun o h2 => o = .inl (some (.int (if (e2 = 0 ∨ e2 = u2) ∧ ¬ (e3 >>> (k &&& 31)) &&& 1 = 0 then (1 : Int32) else 0))) ∧ h2 = h) := by
  refine ct_of (by decide) (Nat.le_of_ble_eq_true rfl) rfl ?_
  intro p_ e_ s_ m_ r_ b_ t_ c_ C hnm
  refine wk_run C k_EN_isOpen_0 (pc2 := 1) (lv2 := [(0, .ref a), (1, .ref u), (2, .int k)]) (st2 := [.ref a]) rfl ?_
  refine wk_get C fd_EN_18 ha rfl d_EN_isOpen_1 ?_
  refine wk_br C d_EN_isOpen_4 (P := e2 = 0) (tgt := 18) (rest := []) rfl (by decide) (fun c1 => ?_) (fun c1 => ?_)
  ·
    refine wk_run C k_EN_isOpen_18 (pc2 := 19) (lv2 := [(0, .ref a), (1, .ref u), (2, .int k)]) (st2 := [.ref a]) rfl ?_
    refine wk_get C fd_EN_22 ha rfl d_EN_isOpen_19 ?_
    refine wk_run C k_EN_isOpen_22 (pc2 := 26) (lv2 := [(0, .ref a), (1, .ref u), (2, .int k)]) (st2 := [.int ((e3 >>> (k &&& 31)) &&& 1)]) rfl ?_
    refine wk_br C d_EN_isOpen_26 (P := ((e3 >>> (k &&& 31)) &&& 1) = 0) (tgt := 33) (rest := []) rfl (by decide) (fun c2 => ?_) (fun c2 => ?_)
    ·
      refine wk_run C k_EN_isOpen_33 (pc2 := 34) (lv2 := [(0, .ref a), (1, .ref u), (2, .int k)]) (st2 := [.int 0]) rfl ?_
      exact wk_zret C (by decide) ⟨by simp_all [c1, c2], rfl⟩ (by decide) (by decide) d_EN_isOpen_34
    ·
      refine wk_run C k_EN_isOpen_29 (pc2 := 30) (lv2 := [(0, .ref a), (1, .ref u), (2, .int k)]) (st2 := [.int 1]) rfl ?_
      refine wk_goto C d_EN_isOpen_30 (tgt := 34) (by decide) ?_
      exact wk_zret C (by decide) ⟨by simp_all [c1, c2], rfl⟩ (by decide) (by decide) d_EN_isOpen_34
  ·
    refine wk_run C k_EN_isOpen_7 (pc2 := 8) (lv2 := [(0, .ref a), (1, .ref u), (2, .int k)]) (st2 := [.ref a]) rfl ?_
    refine wk_get C fd_EN_18 ha rfl d_EN_isOpen_8 ?_
    refine wk_run C k_EN_isOpen_11 (pc2 := 12) (lv2 := [(0, .ref a), (1, .ref u), (2, .int k)]) (st2 := [.ref u, .int e2]) rfl ?_
    refine wk_get C fd_EN_25 hu rfl d_EN_isOpen_12 ?_
    refine wk_br C d_EN_isOpen_15 (P := ¬ e2 = u2) (tgt := 33) (rest := []) rfl (by decide) (fun c3 => ?_) (fun c3 => ?_)
    ·
      refine wk_run C k_EN_isOpen_33 (pc2 := 34) (lv2 := [(0, .ref a), (1, .ref u), (2, .int k)]) (st2 := [.int 0]) rfl ?_
      exact wk_zret C (by decide) ⟨by simp_all [c1, c3], rfl⟩ (by decide) (by decide) d_EN_isOpen_34
    ·
      refine wk_run C k_EN_isOpen_18 (pc2 := 19) (lv2 := [(0, .ref a), (1, .ref u), (2, .int k)]) (st2 := [.ref a]) rfl ?_
      refine wk_get C fd_EN_22 ha rfl d_EN_isOpen_19 ?_
      refine wk_run C k_EN_isOpen_22 (pc2 := 26) (lv2 := [(0, .ref a), (1, .ref u), (2, .int k)]) (st2 := [.int ((e3 >>> (k &&& 31)) &&& 1)]) rfl ?_
      refine wk_br C d_EN_isOpen_26 (P := ((e3 >>> (k &&& 31)) &&& 1) = 0) (tgt := 33) (rest := []) rfl (by decide) (fun c4 => ?_) (fun c4 => ?_)
      ·
        refine wk_run C k_EN_isOpen_33 (pc2 := 34) (lv2 := [(0, .ref a), (1, .ref u), (2, .int k)]) (st2 := [.int 0]) rfl ?_
        exact wk_zret C (by decide) ⟨by simp_all [c1, c3, c4], rfl⟩ (by decide) (by decide) d_EN_isOpen_34
      ·
        refine wk_run C k_EN_isOpen_29 (pc2 := 30) (lv2 := [(0, .ref a), (1, .ref u), (2, .int k)]) (st2 := [.int 1]) rfl ?_
        refine wk_goto C d_EN_isOpen_30 (tgt := 34) (by decide) ?_
        exact wk_zret C (by decide) ⟨by simp_all [c1, c3, c4], rfl⟩ (by decide) (by decide) d_EN_isOpen_34
theorem k_US_init_0 : px_dec prog_7_method_1_code [.aload_n 0] 0 = true := by decide +kernel
theorem d_US_init_1 : decode prog_7_method_1_code 1 = .ok (.invokespecial 3, 3) := by decide +kernel
theorem k_US_init_4 : px_dec prog_7_method_1_code [.aload_n 0, .iload_n 1] 4 = true := by decide +kernel
theorem d_US_init_6 : decode prog_7_method_1_code 6 = .ok (.putfield 9, 3) := by decide +kernel
theorem k_US_init_9 : px_dec prog_7_method_1_code [.aload_n 0, .aload_n 2] 9 = true := by decide +kernel
theorem d_US_init_11 : decode prog_7_method_1_code 11 = .ok (.putfield 15, 3) := by decide +kernel
theorem k_US_init_14 : px_dec prog_7_method_1_code [.aload_n 0, .iconst 0] 14 = true := by decide +kernel
theorem d_US_init_16 : decode prog_7_method_1_code 16 = .ok (.putfield 19, 3) := by decide +kernel
theorem k_US_init_19 : px_dec prog_7_method_1_code [.aload_n 0, .iconst 3] 19 = true := by decide +kernel
theorem d_US_init_21 : decode prog_7_method_1_code 21 = .ok (.putfield 22, 3) := by decide +kernel
theorem k_US_init_24 : px_dec prog_7_method_1_code [.aload_n 0, .iconst 0] 24 = true := by decide +kernel
theorem d_US_init_26 : decode prog_7_method_1_code 26 = .ok (.putfield 25, 3) := by decide +kernel
theorem k_US_init_29 : px_dec prog_7_method_1_code [.aload_n 0, .lconst 0] 29 = true := by decide +kernel
theorem d_US_init_31 : decode prog_7_method_1_code 31 = .ok (.putfield 29, 3) := by decide +kernel
theorem d_US_init_34 : decode prog_7_method_1_code 34 = .ok (.return_, 1) := by decide +kernel
set_option maxRecDepth 100000 in
set_option maxHeartbeats 4000000 in
theorem c_US_init (l : Launch) (D : va_G) (HB : Heap) (h : hp_T) (a g : Nat) (p1 f0 f2 f3 f4 : Int32) (f5 : Int64) (ha : h a = some (.inr (2, [.int f0, .null, .int f2, .int f3, .int f4, .long f5]))) : ct_M l y_US_init (.code y_US_init prog_7_method_1_code 3 (Option.none : Option Jvm.ClassFile.FieldType)) ({ frames := 1, cells := 0, slots := 0, locals := 14 }) D HB [.ref a, .int p1, .ref g] h (fun o h2 => o = .inl none ∧ h2 = hp_up h a (.inr (2, [.int p1, .ref g, .int 0, .int 3, .int 0, .long 0]))) := by
  refine ct_of (by decide) (Nat.le_of_ble_eq_true rfl) rfl ?_
  intro p_ e_ s_ m_ r_ b_ t_ c_ C hnm
  refine wk_run C k_US_init_0 (pc2 := 1) (lv2 := [(0, .ref a), (1, .int p1), (2, .ref g)]) (st2 := [.ref a]) rfl ?_
  refine wk_obj C ml_US_3 kj_in kj_cd (by decide) (by decide) d_US_init_1 ?_
  refine wk_run C k_US_init_4 (pc2 := 6) (lv2 := [(0, .ref a), (1, .int p1), (2, .ref g)]) (st2 := [.int p1, .ref a]) rfl ?_
  refine wk_putF (fs2 := [.int p1, .null, .int f2, .int f3, .int f4, .long f5]) C ff_US_9 hnm ha rfl rfl (Nat.le_of_ble_eq_true rfl) rfl d_US_init_6 ?_
  refine wk_run C k_US_init_9 (pc2 := 11) (lv2 := [(0, .ref a), (1, .int p1), (2, .ref g)]) (st2 := [.ref g, .ref a]) rfl ?_
  refine wk_putF (fs2 := [.int p1, .ref g, .int f2, .int f3, .int f4, .long f5]) C ff_US_15 hnm hp_us rfl rfl (Nat.le_of_ble_eq_true rfl) rfl d_US_init_11 ?_
  refine Wk.he hp_uu ?_
  refine wk_run C k_US_init_14 (pc2 := 16) (lv2 := [(0, .ref a), (1, .int p1), (2, .ref g)]) (st2 := [.int 0, .ref a]) rfl ?_
  refine wk_put (fs2 := [.int p1, .ref g, .int 0, .int f3, .int f4, .long f5]) C fd_US_19 hp_us rfl rfl (Nat.le_of_ble_eq_true rfl) rfl d_US_init_16 ?_
  refine Wk.he hp_uu ?_
  refine wk_run C k_US_init_19 (pc2 := 21) (lv2 := [(0, .ref a), (1, .int p1), (2, .ref g)]) (st2 := [.int 3, .ref a]) rfl ?_
  refine wk_put (fs2 := [.int p1, .ref g, .int 0, .int 3, .int f4, .long f5]) C fd_US_22 hp_us rfl rfl (Nat.le_of_ble_eq_true rfl) rfl d_US_init_21 ?_
  refine Wk.he hp_uu ?_
  refine wk_run C k_US_init_24 (pc2 := 26) (lv2 := [(0, .ref a), (1, .int p1), (2, .ref g)]) (st2 := [.int 0, .ref a]) rfl ?_
  refine wk_put (fs2 := [.int p1, .ref g, .int 0, .int 3, .int 0, .long f5]) C fd_US_25 hp_us rfl rfl (Nat.le_of_ble_eq_true rfl) rfl d_US_init_26 ?_
  refine Wk.he hp_uu ?_
  refine wk_run C k_US_init_29 (pc2 := 31) (lv2 := [(0, .ref a), (1, .int p1), (2, .ref g)]) (st2 := [.long 0, .ref a]) rfl ?_
  refine wk_put (fs2 := [.int p1, .ref g, .int 0, .int 3, .int 0, .long 0]) C fd_US_29 hp_us rfl rfl (Nat.le_of_ble_eq_true rfl) rfl d_US_init_31 ?_
  refine Wk.he hp_uu ?_
  exact wk_vret C ⟨rfl, rfl⟩ (by decide) (by decide) d_US_init_34
theorem us_cmp {x : Int64} : (lg_cmp x 0 = 0) = (x = 0) := by
  unfold lg_cmp
  by_cases z : x = 0
  · subst z; simp
  · by_cases y : 0 < x <;> simp [y, z]

theorem k_US_standsFor_0 : px_dec prog_7_method_2_code [.aload_n 0] 0 = true := by decide +kernel
theorem d_US_standsFor_1 : decode prog_7_method_2_code 1 = .ok (.getfield 29, 3) := by decide +kernel
theorem k_US_standsFor_4 : px_dec prog_7_method_2_code [.aload_n 1] 4 = true := by decide +kernel
theorem d_US_standsFor_5 : decode prog_7_method_2_code 5 = .ok (.getfield 9, 3) := by decide +kernel
theorem k_US_standsFor_8 : px_dec prog_7_method_2_code [.lshr, .lconst 1, .land, .lconst 0] 8 = true := by decide +kernel
theorem d_US_standsFor_12 : decode prog_7_method_2_code 12 = .ok (.lcmp, 1) := by decide +kernel
theorem d_US_standsFor_13 : decode prog_7_method_2_code 13 = .ok (.ifCond .eq 7, 3) := by decide +kernel
theorem k_US_standsFor_20 : px_dec prog_7_method_2_code [.iconst 0] 20 = true := by decide +kernel
theorem d_US_standsFor_21 : decode prog_7_method_2_code 21 = .ok (.ireturn, 1) := by decide +kernel
theorem k_US_standsFor_16 : px_dec prog_7_method_2_code [.iconst 1] 16 = true := by decide +kernel
theorem d_US_standsFor_17 : decode prog_7_method_2_code 17 = .ok (.goto 4, 3) := by decide +kernel
set_option maxRecDepth 100000 in
set_option maxHeartbeats 4000000 in
theorem c_US_standsFor (l : Launch) (D : va_G) (HB : Heap) (h : hp_T) (a u ug vg : Nat) (u0 u2 u3 u4 v0 v2 v3 v4 : Int32) (u5 v5 : Int64) (ha : h a = some (.inr (2, [.int v0, .ref vg, .int v2, .int v3, .int v4, .long v5]))) (hu : h u = some (.inr (2, [.int u0, .ref ug, .int u2, .int u3, .int u4, .long u5]))) : ct_M l y_US_standsFor (.code y_US_standsFor prog_7_method_2_code 2 (Option.some Jvm.ClassFile.FieldType.boolean)) ({ frames := 0, cells := 0, slots := 0, locals := 0 }) D HB [.ref a, .ref u] h (fun o h2 => o = .inl (some (.int (if (v5 >>> (u0.toInt64 &&& 63)) &&& 1 = 0 then (0 : Int32) else 1))) ∧ h2 = h) := by
  refine ct_of (by decide) (Nat.le_of_ble_eq_true rfl) rfl ?_
  intro p_ e_ s_ m_ r_ b_ t_ c_ C hnm
  refine wk_run C k_US_standsFor_0 (pc2 := 1) (lv2 := [(0, .ref a), (1, .ref u)]) (st2 := [.ref a]) rfl ?_
  refine wk_get C fd_US_29 ha rfl d_US_standsFor_1 ?_
  refine wk_run C k_US_standsFor_4 (pc2 := 5) (lv2 := [(0, .ref a), (1, .ref u)]) (st2 := [.ref u, .long v5]) rfl ?_
  refine wk_get C fd_US_9 hu rfl d_US_standsFor_5 ?_
  refine wk_run C k_US_standsFor_8 (pc2 := 12) (lv2 := [(0, .ref a), (1, .ref u)]) (st2 := [.long 0, .long ((v5 >>> (u0.toInt64 &&& 63)) &&& 1)]) rfl ?_
  refine wk_lcmp C d_US_standsFor_12 ?_
  refine wk_br C d_US_standsFor_13 (P := (lg_cmp ((v5 >>> (u0.toInt64 &&& 63)) &&& 1) 0) = 0) (tgt := 20) (rest := []) rfl (by decide) (fun c1 => ?_) (fun c1 => ?_)
  ·
    refine wk_run C k_US_standsFor_20 (pc2 := 21) (lv2 := [(0, .ref a), (1, .ref u)]) (st2 := [.int 0]) rfl ?_
    exact wk_zret C (by decide) ⟨by rw [us_cmp] at c1; simp [c1], rfl⟩ (by decide) (by decide) d_US_standsFor_21
  ·
    refine wk_run C k_US_standsFor_16 (pc2 := 17) (lv2 := [(0, .ref a), (1, .ref u)]) (st2 := [.int 1]) rfl ?_
    refine wk_goto C d_US_standsFor_17 (tgt := 21) (by decide) ?_
    exact wk_zret C (by decide) ⟨by rw [us_cmp] at c1; simp [c1], rfl⟩ (by decide) (by decide) d_US_standsFor_21
theorem k_US_toggleStandingFor_0 : px_dec prog_7_method_3_code [.aload_n 0, .dup] 0 = true := by decide +kernel
theorem d_US_toggleStandingFor_2 : decode prog_7_method_3_code 2 = .ok (.getfield 29, 3) := by decide +kernel
theorem k_US_toggleStandingFor_5 : px_dec prog_7_method_3_code [.lconst 1, .aload_n 1] 5 = true := by decide +kernel
theorem d_US_toggleStandingFor_7 : decode prog_7_method_3_code 7 = .ok (.getfield 9, 3) := by decide +kernel
theorem k_US_toggleStandingFor_10 : px_dec prog_7_method_3_code [.lshl, .lxor] 10 = true := by decide +kernel
theorem d_US_toggleStandingFor_12 : decode prog_7_method_3_code 12 = .ok (.putfield 29, 3) := by decide +kernel
theorem d_US_toggleStandingFor_15 : decode prog_7_method_3_code 15 = .ok (.return_, 1) := by decide +kernel
set_option maxRecDepth 100000 in
set_option maxHeartbeats 4000000 in
theorem c_US_toggleStandingFor (l : Launch) (D : va_G) (HB : Heap) (h : hp_T) (a u ug vg : Nat) (u0 u2 u3 u4 v0 v2 v3 v4 : Int32) (u5 v5 : Int64) (ha : h a = some (.inr (2, [.int v0, .ref vg, .int v2, .int v3, .int v4, .long v5]))) (hu : h u = some (.inr (2, [.int u0, .ref ug, .int u2, .int u3, .int u4, .long u5]))) : ct_M l y_US_toggleStandingFor (.code y_US_toggleStandingFor prog_7_method_3_code 2 (Option.none : Option Jvm.ClassFile.FieldType)) ({ frames := 0, cells := 0, slots := 0, locals := 0 }) D HB [.ref a, .ref u] h (fun o h2 => o = .inl none ∧ h2 = hp_up h a (.inr (2, [.int v0, .ref vg, .int v2, .int v3, .int v4, .long (v5 ^^^ (1 <<< (u0.toInt64 &&& 63)))]))) := by
  refine ct_of (by decide) (Nat.le_of_ble_eq_true rfl) rfl ?_
  intro p_ e_ s_ m_ r_ b_ t_ c_ C hnm
  refine wk_run C k_US_toggleStandingFor_0 (pc2 := 2) (lv2 := [(0, .ref a), (1, .ref u)]) (st2 := [.ref a, .ref a]) rfl ?_
  refine wk_get C fd_US_29 ha rfl d_US_toggleStandingFor_2 ?_
  refine wk_run C k_US_toggleStandingFor_5 (pc2 := 7) (lv2 := [(0, .ref a), (1, .ref u)]) (st2 := [.ref u, .long 1, .long v5, .ref a]) rfl ?_
  refine wk_get C fd_US_9 hu rfl d_US_toggleStandingFor_7 ?_
  refine wk_run C k_US_toggleStandingFor_10 (pc2 := 12) (lv2 := [(0, .ref a), (1, .ref u)]) (st2 := [.long (v5 ^^^ (1 <<< (u0.toInt64 &&& 63))), .ref a]) rfl ?_
  refine wk_put (fs2 := [.int v0, .ref vg, .int v2, .int v3, .int v4, .long (v5 ^^^ (1 <<< (u0.toInt64 &&& 63)))]) C fd_US_29 ha rfl rfl (Nat.le_of_ble_eq_true rfl) rfl d_US_toggleStandingFor_12 ?_
  exact wk_vret C ⟨rfl, rfl⟩ (by decide) (by decide) d_US_toggleStandingFor_15
theorem k_NM_isMore_0 : px_dec prog_4_method_6_code [.aload_n 0] 0 = true := by decide +kernel
theorem d_NM_isMore_1 : decode prog_4_method_6_code 1 = .ok (.invokevirtual 29, 3) := by decide +kernel
theorem k_NM_isMore_4 : px_dec prog_4_method_6_code [.aload_n 1] 4 = true := by decide +kernel
theorem d_NM_isMore_5 : decode prog_4_method_6_code 5 = .ok (.invokevirtual 29, 3) := by decide +kernel
theorem d_NM_isMore_8 : decode prog_4_method_6_code 8 = .ok (.if_icmp .eq 8, 3) := by decide +kernel
theorem k_NM_isMore_16 : px_dec prog_4_method_6_code [.aload_n 0] 16 = true := by decide +kernel
theorem d_NM_isMore_17 : decode prog_4_method_6_code 17 = .ok (.getfield 22, 3) := by decide +kernel
theorem k_NM_isMore_20 : px_dec prog_4_method_6_code [.aload_n 1] 20 = true := by decide +kernel
theorem d_NM_isMore_21 : decode prog_4_method_6_code 21 = .ok (.getfield 22, 3) := by decide +kernel
theorem d_NM_isMore_24 : decode prog_4_method_6_code 24 = .ok (.if_icmp .eq 20, 3) := by decide +kernel
theorem k_NM_isMore_44 : px_dec prog_4_method_6_code [.aload_n 0] 44 = true := by decide +kernel
theorem d_NM_isMore_45 : decode prog_4_method_6_code 45 = .ok (.getfield 19, 3) := by decide +kernel
theorem k_NM_isMore_48 : px_dec prog_4_method_6_code [.aload_n 1] 48 = true := by decide +kernel
theorem d_NM_isMore_49 : decode prog_4_method_6_code 49 = .ok (.getfield 19, 3) := by decide +kernel
theorem d_NM_isMore_52 : decode prog_4_method_6_code 52 = .ok (.if_icmp .le 7, 3) := by decide +kernel
theorem k_NM_isMore_59 : px_dec prog_4_method_6_code [.iconst 0] 59 = true := by decide +kernel
theorem d_NM_isMore_60 : decode prog_4_method_6_code 60 = .ok (.ireturn, 1) := by decide +kernel
theorem k_NM_isMore_55 : px_dec prog_4_method_6_code [.iconst 1] 55 = true := by decide +kernel
theorem d_NM_isMore_56 : decode prog_4_method_6_code 56 = .ok (.goto 4, 3) := by decide +kernel
theorem k_NM_isMore_27 : px_dec prog_4_method_6_code [.aload_n 0] 27 = true := by decide +kernel
theorem d_NM_isMore_28 : decode prog_4_method_6_code 28 = .ok (.getfield 22, 3) := by decide +kernel
theorem k_NM_isMore_31 : px_dec prog_4_method_6_code [.aload_n 1] 31 = true := by decide +kernel
theorem d_NM_isMore_32 : decode prog_4_method_6_code 32 = .ok (.getfield 22, 3) := by decide +kernel
theorem d_NM_isMore_35 : decode prog_4_method_6_code 35 = .ok (.if_icmp .le 7, 3) := by decide +kernel
theorem k_NM_isMore_42 : px_dec prog_4_method_6_code [.iconst 0] 42 = true := by decide +kernel
theorem d_NM_isMore_43 : decode prog_4_method_6_code 43 = .ok (.ireturn, 1) := by decide +kernel
theorem k_NM_isMore_38 : px_dec prog_4_method_6_code [.iconst 1] 38 = true := by decide +kernel
theorem d_NM_isMore_39 : decode prog_4_method_6_code 39 = .ok (.goto 4, 3) := by decide +kernel
theorem k_NM_isMore_11 : px_dec prog_4_method_6_code [.aload_n 0] 11 = true := by decide +kernel
theorem d_NM_isMore_12 : decode prog_4_method_6_code 12 = .ok (.invokevirtual 29, 3) := by decide +kernel
theorem d_NM_isMore_15 : decode prog_4_method_6_code 15 = .ok (.ireturn, 1) := by decide +kernel
set_option maxRecDepth 100000 in
set_option maxHeartbeats 4000000 in
theorem c_NM_isMore (l : Launch) (D : va_G) (HB : Heap) (h : hp_T) (a b ca cb : Nat) (n1 s1 h1 n2 s2 h2_ : Int32) (ha : h a = some (.inr (3, [.ref ca, .int n1, .int s1, .int h1]))) (hb : h b = some (.inr (3, [.ref cb, .int n2, .int s2, .int h2_]))) : ct_M l y_NM_isMoreSpecialThan (.code y_NM_isMoreSpecialThan prog_4_method_6_code 2 (Option.some Jvm.ClassFile.FieldType.boolean)) ({ frames := 1, cells := 0, slots := 0, locals := 21 }) D HB [.ref a, .ref b] h (fun o h2 => o = .inl (some (.int (if ¬ ((s1 = n1) ↔ (s2 = n2)) then (if s1 = n1 then (1 : Int32) else 0) else if ¬ h1 = h2_ then (if h2_ < h1 then 1 else 0) else if s2 < s1 then 1 else 0))) ∧ h2 = h) := by
  refine ct_of (by decide) (Nat.le_of_ble_eq_true rfl) rfl ?_
  intro p_ e_ s_ m_ r_ b_ t_ c_ C hnm
  refine wk_run C k_NM_isMore_0 (pc2 := 1) (lv2 := [(0, .ref a), (1, .ref b)]) (st2 := [.ref a]) rfl ?_
  refine wk_callV (cl := ("ProfileRights$Name", T_NM, 4)) (rest := []) C (c_NM_isExact l D HB h a ca n1 s1 h1 ha) cs_NM_29 kc_NM_isExact ki_NM ha rfl rfl rfl (Nat.le_of_ble_eq_true rfl) (Nat.le_of_ble_eq_true rfl) (Nat.le_of_ble_eq_true rfl) (Nat.le_of_ble_eq_true rfl) (Nat.le_of_ble_eq_true rfl) d_NM_isMore_1 (fun v h2 hq => ?_) (fun _ _ z => nomatch z.1)
  obtain ⟨e1, e2⟩ := hq; cases e1; replace e2 := e2.symm; subst e2
  refine wk_run C k_NM_isMore_4 (pc2 := 5) (lv2 := [(0, .ref a), (1, .ref b)]) (st2 := [.ref b, .int (if s1 = n1 then (1 : Int32) else 0)]) rfl ?_
  refine wk_callV (cl := ("ProfileRights$Name", T_NM, 4)) (rest := [.int (if s1 = n1 then (1 : Int32) else 0)]) C (c_NM_isExact l D HB h b cb n2 s2 h2_ hb) cs_NM_29 kc_NM_isExact ki_NM hb rfl rfl rfl (Nat.le_of_ble_eq_true rfl) (Nat.le_of_ble_eq_true rfl) (Nat.le_of_ble_eq_true rfl) (Nat.le_of_ble_eq_true rfl) (Nat.le_of_ble_eq_true rfl) d_NM_isMore_5 (fun v h2 hq => ?_) (fun _ _ z => nomatch z.1)
  obtain ⟨e1, e2⟩ := hq; cases e1; replace e2 := e2.symm; subst e2
  refine wk_br C d_NM_isMore_8 (P := (if s1 = n1 then (1 : Int32) else 0) = (if s2 = n2 then (1 : Int32) else 0)) (tgt := 16) (rest := []) rfl (by decide) (fun c1 => ?_) (fun c1 => ?_)
  ·
    refine wk_run C k_NM_isMore_16 (pc2 := 17) (lv2 := [(0, .ref a), (1, .ref b)]) (st2 := [.ref a]) rfl ?_
    refine wk_get C fd_NM_22 ha rfl d_NM_isMore_17 ?_
    refine wk_run C k_NM_isMore_20 (pc2 := 21) (lv2 := [(0, .ref a), (1, .ref b)]) (st2 := [.ref b, .int h1]) rfl ?_
    refine wk_get C fd_NM_22 hb rfl d_NM_isMore_21 ?_
    refine wk_br C d_NM_isMore_24 (P := h1 = h2_) (tgt := 44) (rest := []) rfl (by decide) (fun c2 => ?_) (fun c2 => ?_)
    ·
      refine wk_run C k_NM_isMore_44 (pc2 := 45) (lv2 := [(0, .ref a), (1, .ref b)]) (st2 := [.ref a]) rfl ?_
      refine wk_get C fd_NM_19 ha rfl d_NM_isMore_45 ?_
      refine wk_run C k_NM_isMore_48 (pc2 := 49) (lv2 := [(0, .ref a), (1, .ref b)]) (st2 := [.ref b, .int s1]) rfl ?_
      refine wk_get C fd_NM_19 hb rfl d_NM_isMore_49 ?_
      refine wk_br C d_NM_isMore_52 (P := s1 ≤ s2) (tgt := 59) (rest := []) rfl (by decide) (fun c3 => ?_) (fun c3 => ?_)
      ·
        refine wk_run C k_NM_isMore_59 (pc2 := 60) (lv2 := [(0, .ref a), (1, .ref b)]) (st2 := [.int 0]) rfl ?_
        exact wk_zret C (by first | decide | (split <;> decide)) ⟨by by_cases q1 : s1 = n1 <;> by_cases q2 : s2 = n2 <;> simp_all [Int32.not_lt], rfl⟩ (by decide) (by decide) d_NM_isMore_60
      ·
        refine wk_run C k_NM_isMore_55 (pc2 := 56) (lv2 := [(0, .ref a), (1, .ref b)]) (st2 := [.int 1]) rfl ?_
        refine wk_goto C d_NM_isMore_56 (tgt := 60) (by decide) ?_
        exact wk_zret C (by first | decide | (split <;> decide)) ⟨by by_cases q1 : s1 = n1 <;> by_cases q2 : s2 = n2 <;> simp_all [Int32.not_lt], rfl⟩ (by decide) (by decide) d_NM_isMore_60
    ·
      refine wk_run C k_NM_isMore_27 (pc2 := 28) (lv2 := [(0, .ref a), (1, .ref b)]) (st2 := [.ref a]) rfl ?_
      refine wk_get C fd_NM_22 ha rfl d_NM_isMore_28 ?_
      refine wk_run C k_NM_isMore_31 (pc2 := 32) (lv2 := [(0, .ref a), (1, .ref b)]) (st2 := [.ref b, .int h1]) rfl ?_
      refine wk_get C fd_NM_22 hb rfl d_NM_isMore_32 ?_
      refine wk_br C d_NM_isMore_35 (P := h1 ≤ h2_) (tgt := 42) (rest := []) rfl (by decide) (fun c4 => ?_) (fun c4 => ?_)
      ·
        refine wk_run C k_NM_isMore_42 (pc2 := 43) (lv2 := [(0, .ref a), (1, .ref b)]) (st2 := [.int 0]) rfl ?_
        exact wk_zret C (by first | decide | (split <;> decide)) ⟨by by_cases q1 : s1 = n1 <;> by_cases q2 : s2 = n2 <;> simp_all [Int32.not_lt], rfl⟩ (by decide) (by decide) d_NM_isMore_43
      ·
        refine wk_run C k_NM_isMore_38 (pc2 := 39) (lv2 := [(0, .ref a), (1, .ref b)]) (st2 := [.int 1]) rfl ?_
        refine wk_goto C d_NM_isMore_39 (tgt := 43) (by decide) ?_
        exact wk_zret C (by first | decide | (split <;> decide)) ⟨by by_cases q1 : s1 = n1 <;> by_cases q2 : s2 = n2 <;> simp_all [Int32.not_lt], rfl⟩ (by decide) (by decide) d_NM_isMore_43
  ·
    refine wk_run C k_NM_isMore_11 (pc2 := 12) (lv2 := [(0, .ref a), (1, .ref b)]) (st2 := [.ref a]) rfl ?_
    refine wk_callV (cl := ("ProfileRights$Name", T_NM, 4)) (rest := []) C (c_NM_isExact l D HB h a ca n1 s1 h1 ha) cs_NM_29 kc_NM_isExact ki_NM ha rfl rfl rfl (Nat.le_of_ble_eq_true rfl) (Nat.le_of_ble_eq_true rfl) (Nat.le_of_ble_eq_true rfl) (Nat.le_of_ble_eq_true rfl) (Nat.le_of_ble_eq_true rfl) d_NM_isMore_12 (fun v h2 hq => ?_) (fun _ _ z => nomatch z.1)
    obtain ⟨e1, e2⟩ := hq; cases e1; replace e2 := e2.symm; subst e2
    exact wk_zret C (by first | decide | (split <;> decide)) ⟨by by_cases q1 : s1 = n1 <;> by_cases q2 : s2 = n2 <;> simp_all [Int32.not_lt], rfl⟩ (by decide) (by decide) d_NM_isMore_15
