theorem k_EN_init_0 : px_dec prog_2_method_1_code [.aload_n 0] 0 = true := by decide +kernel
theorem d_EN_init_1 : decode prog_2_method_1_code 1 = .ok (.invokespecial 3, 3) := by decide +kernel
theorem k_EN_init_4 : px_dec prog_2_method_1_code [.aload_n 0, .iload_n 1] 4 = true := by decide +kernel
theorem d_EN_init_6 : decode prog_2_method_1_code 6 = .ok (.putfield 9, 3) := by decide +kernel
theorem k_EN_init_9 : px_dec prog_2_method_1_code [.aload_n 0, .iload_n 2] 9 = true := by decide +kernel
theorem d_EN_init_11 : decode prog_2_method_1_code 11 = .ok (.putfield 15, 3) := by decide +kernel
theorem k_EN_init_14 : px_dec prog_2_method_1_code [.aload_n 0, .iconst 0] 14 = true := by decide +kernel
theorem d_EN_init_16 : decode prog_2_method_1_code 16 = .ok (.putfield 18, 3) := by decide +kernel
theorem k_EN_init_19 : px_dec prog_2_method_1_code [.aload_n 0] 19 = true := by decide +kernel
theorem d_EN_init_20 : decode prog_2_method_1_code 20 = .ok (.ldc 21, 2) := by decide +kernel
theorem d_EN_init_22 : decode prog_2_method_1_code 22 = .ok (.putfield 22, 3) := by decide +kernel
theorem d_EN_init_25 : decode prog_2_method_1_code 25 = .ok (.return_, 1) := by decide +kernel
set_option maxRecDepth 100000 in
set_option maxHeartbeats 4000000 in
theorem c_EN_init (l : Launch) (D : va_G) (HB : Heap) (h : hp_T) (a : Nat) (f0 f1 f2 f3 p1 p2 : Int32) (ha : h a = some (.inr (4, [.int f0, .int f1, .int f2, .int f3]))) : ct_M l y_EN_init (.code y_EN_init prog_2_method_1_code 3 (Option.none : Option Jvm.ClassFile.FieldType)) ({ frames := 1, cells := 0, slots := 0, locals := 14 }) D HB [.ref a, .int p1, .int p2] h (fun o h2 => o = .inl none ∧ h2 = hp_up h a (.inr (4, [.int p1, .int p2, .int 0, .int 16777215]))) := by
  refine ct_of (by decide) (Nat.le_of_ble_eq_true rfl) rfl ?_
  intro p e s m args below meth c C hnm
  refine wk_run C k_EN_init_0 (pc2 := 1) (lv2 := [(0, .ref a), (1, .int p1), (2, .int p2)]) (st2 := [.ref a]) rfl ?_
  refine wk_obj C ml_EN_3 kj_in kj_cd (by decide) (by decide) d_EN_init_1 ?_
  refine wk_run C k_EN_init_4 (pc2 := 6) (lv2 := [(0, .ref a), (1, .int p1), (2, .int p2)]) (st2 := [.int p1, .ref a]) rfl ?_
  refine wk_putF (fs2 := [.int p1, .int f1, .int f2, .int f3]) C ff_EN_9 hnm ha rfl rfl (Nat.le_of_ble_eq_true rfl) rfl d_EN_init_6 ?_
  refine wk_run C k_EN_init_9 (pc2 := 11) (lv2 := [(0, .ref a), (1, .int p1), (2, .int p2)]) (st2 := [.int p2, .ref a]) rfl ?_
  refine wk_put (fs2 := [.int p1, .int p2, .int f2, .int f3]) C fd_EN_15 hp_us rfl rfl (Nat.le_of_ble_eq_true rfl) rfl d_EN_init_11 ?_
  refine Wk.he hp_uu ?_
  refine wk_run C k_EN_init_14 (pc2 := 16) (lv2 := [(0, .ref a), (1, .int p1), (2, .int p2)]) (st2 := [.int 0, .ref a]) rfl ?_
  refine wk_put (fs2 := [.int p1, .int p2, .int 0, .int f3]) C fd_EN_18 hp_us rfl rfl (Nat.le_of_ble_eq_true rfl) rfl d_EN_init_16 ?_
  refine Wk.he hp_uu ?_
  refine wk_run C k_EN_init_19 (pc2 := 20) (lv2 := [(0, .ref a), (1, .int p1), (2, .int p2)]) (st2 := [.ref a]) rfl ?_
  refine wk_ldc C kk_EN_21 d_EN_init_20 ?_
  refine wk_put (fs2 := [.int p1, .int p2, .int 0, .int 16777215]) C fd_EN_22 hp_us rfl rfl (Nat.le_of_ble_eq_true rfl) rfl d_EN_init_22 ?_
  refine Wk.he hp_uu ?_
  exact wk_vret C ⟨rfl, rfl⟩ (by decide) (by decide) d_EN_init_25
theorem k_GR_init_0 : px_dec prog_3_method_1_code [.aload_n 0] 0 = true := by decide +kernel
theorem d_GR_init_1 : decode prog_3_method_1_code 1 = .ok (.invokespecial 1, 3) := by decide +kernel
theorem k_GR_init_4 : px_dec prog_3_method_1_code [.aload_n 0, .iload_n 1] 4 = true := by decide +kernel
theorem d_GR_init_6 : decode prog_3_method_1_code 6 = .ok (.putfield 7, 3) := by decide +kernel
theorem k_GR_init_9 : px_dec prog_3_method_1_code [.aload_n 0, .aload_n 2] 9 = true := by decide +kernel
theorem d_GR_init_11 : decode prog_3_method_1_code 11 = .ok (.putfield 13, 3) := by decide +kernel
theorem d_GR_init_14 : decode prog_3_method_1_code 14 = .ok (.return_, 1) := by decide +kernel
set_option maxRecDepth 100000 in
set_option maxHeartbeats 4000000 in
theorem c_GR_initR (l : Launch) (D : va_G) (HB : Heap) (h : hp_T) (a : Nat) (f0 p1 : Int32) (q : Nat) (ha : h a = some (.inr (1, [.int f0, .null]))) : ct_M l y_GR_init (.code y_GR_init prog_3_method_1_code 3 (Option.none : Option Jvm.ClassFile.FieldType)) ({ frames := 1, cells := 0, slots := 0, locals := 14 }) D HB [.ref a, .int p1, .ref q] h (fun o h2 => o = .inl none ∧ h2 = hp_up h a (.inr (1, [.int p1, .ref q]))) := by
  refine ct_of (by decide) (Nat.le_of_ble_eq_true rfl) rfl ?_
  intro p e s m args below meth c C hnm
  refine wk_run C k_GR_init_0 (pc2 := 1) (lv2 := [(0, .ref a), (1, .int p1), (2, .ref q)]) (st2 := [.ref a]) rfl ?_
  refine wk_obj C ml_GR_1 kj_in kj_cd (by decide) (by decide) d_GR_init_1 ?_
  refine wk_run C k_GR_init_4 (pc2 := 6) (lv2 := [(0, .ref a), (1, .int p1), (2, .ref q)]) (st2 := [.int p1, .ref a]) rfl ?_
  refine wk_putF (fs2 := [.int p1, .null]) C ff_GR_7 hnm ha rfl rfl (Nat.le_of_ble_eq_true rfl) rfl d_GR_init_6 ?_
  refine wk_run C k_GR_init_9 (pc2 := 11) (lv2 := [(0, .ref a), (1, .int p1), (2, .ref q)]) (st2 := [.ref q, .ref a]) rfl ?_
  refine wk_put (fs2 := [.int p1, .ref q]) C fd_GR_13 hp_us rfl rfl (Nat.le_of_ble_eq_true rfl) rfl d_GR_init_11 ?_
  refine Wk.he hp_uu ?_
  exact wk_vret C ⟨rfl, rfl⟩ (by decide) (by decide) d_GR_init_14
set_option maxRecDepth 100000 in
set_option maxHeartbeats 4000000 in
theorem c_GR_initN (l : Launch) (D : va_G) (HB : Heap) (h : hp_T) (a : Nat) (f0 p1 : Int32) (ha : h a = some (.inr (1, [.int f0, .null]))) : ct_M l y_GR_init (.code y_GR_init prog_3_method_1_code 3 (Option.none : Option Jvm.ClassFile.FieldType)) ({ frames := 1, cells := 0, slots := 0, locals := 14 }) D HB [.ref a, .int p1, .null] h (fun o h2 => o = .inl none ∧ h2 = hp_up h a (.inr (1, [.int p1, .null]))) := by
  refine ct_of (by decide) (Nat.le_of_ble_eq_true rfl) rfl ?_
  intro p e s m args below meth c C hnm
  refine wk_run C k_GR_init_0 (pc2 := 1) (lv2 := [(0, .ref a), (1, .int p1), (2, .null)]) (st2 := [.ref a]) rfl ?_
  refine wk_obj C ml_GR_1 kj_in kj_cd (by decide) (by decide) d_GR_init_1 ?_
  refine wk_run C k_GR_init_4 (pc2 := 6) (lv2 := [(0, .ref a), (1, .int p1), (2, .null)]) (st2 := [.int p1, .ref a]) rfl ?_
  refine wk_putF (fs2 := [.int p1, .null]) C ff_GR_7 hnm ha rfl rfl (Nat.le_of_ble_eq_true rfl) rfl d_GR_init_6 ?_
  refine wk_run C k_GR_init_9 (pc2 := 11) (lv2 := [(0, .ref a), (1, .int p1), (2, .null)]) (st2 := [.null, .ref a]) rfl ?_
  refine wk_put (fs2 := [.int p1, .null]) C fd_GR_13 hp_us rfl rfl (Nat.le_of_ble_eq_true rfl) rfl d_GR_init_11 ?_
  refine Wk.he hp_uu ?_
  exact wk_vret C ⟨rfl, rfl⟩ (by decide) (by decide) d_GR_init_14
theorem k_PR_testClass_0 : px_dec prog_1_method_27_code [.iload_n 0] 0 = true := by decide +kernel
theorem d_PR_testClass_1 : decode prog_1_method_27_code 1 = .ok (.ifCond .lt 9, 3) := by decide +kernel
theorem d_PR_testClass_10 : decode prog_1_method_27_code 10 = .ok (.new 105, 3) := by decide +kernel
theorem d_PR_testClass_13 : decode prog_1_method_27_code 13 = .ok (.dup, 1) := by decide +kernel
theorem d_PR_testClass_14 : decode prog_1_method_27_code 14 = .ok (.ldc 231, 2) := by decide +kernel
theorem d_PR_testClass_16 : decode prog_1_method_27_code 16 = .ok (.invokespecial 109, 3) := by decide +kernel
theorem d_PR_testClass_19 : decode prog_1_method_27_code 19 = .ok (.athrow, 1) := by decide +kernel
theorem k_PR_testClass_4 : px_dec prog_1_method_27_code [.iload_n 0, .bipush 8] 4 = true := by decide +kernel
theorem d_PR_testClass_7 : decode prog_1_method_27_code 7 = .ok (.if_icmp .lt 13, 3) := by decide +kernel
theorem d_PR_testClass_20 : decode prog_1_method_27_code 20 = .ok (.return_, 1) := by decide +kernel
set_option maxRecDepth 100000 in
set_option maxHeartbeats 4000000 in
theorem c_PR_testClass (l : Launch) (D : va_G) (HB : Heap) (h : hp_T) (hlt : l.stackTraces = false) (p1 : Int32) : ct_M l y_PR_testClass (.code y_PR_testClass prog_1_method_27_code 1 (Option.none : Option Jvm.ClassFile.FieldType)) ({ frames := 6, cells := 1, slots := 6, locals := 84 }) D HB [.int p1] h (fun o h2 => h2 = h ∧ o = if p1 < 0 ∨ 8 ≤ p1 then .inr eA else .inl none) := by
  refine ct_of (by decide) (Nat.le_of_ble_eq_true rfl) rfl ?_
  intro p e s m args below meth c C hnm
  refine wk_run C k_PR_testClass_0 (pc2 := 1) (lv2 := [(0, .int p1)]) (st2 := [.int p1]) rfl ?_
  refine wk_br C d_PR_testClass_1 (P := p1 < 0) (tgt := 10) (rest := []) rfl (by decide) (fun c1 => ?_) (fun c1 => ?_)
  ·
    exact wk_thrA C hlt (text := "no such class") (is := 231) (by decide) d_PR_testClass_10 d_PR_testClass_13 d_PR_testClass_14 d_PR_testClass_16 d_PR_testClass_19 (by decide) (by decide) (by decide) (by decide) (by decide) (by decide) ⟨rfl, (if_pos (Or.inl c1)).symm⟩
  ·
    refine wk_run C k_PR_testClass_4 (pc2 := 7) (lv2 := [(0, .int p1)]) (st2 := [.int 8, .int p1]) rfl ?_
    refine wk_br C d_PR_testClass_7 (P := p1 < 8) (tgt := 20) (rest := []) rfl (by decide) (fun c2 => ?_) (fun c2 => ?_)
    ·
      exact wk_vret C ⟨rfl, (if_neg (fun z => z.elim c1 (fun z => absurd c2 (Int32.not_lt.mpr z)))).symm⟩ (by decide) (by decide) d_PR_testClass_20
    ·
      exact wk_thrA C hlt (text := "no such class") (is := 231) (by decide) d_PR_testClass_10 d_PR_testClass_13 d_PR_testClass_14 d_PR_testClass_16 d_PR_testClass_19 (by decide) (by decide) (by decide) (by decide) (by decide) (by decide) ⟨rfl, (if_pos (Or.inr (Int32.not_lt.mp c2))).symm⟩
