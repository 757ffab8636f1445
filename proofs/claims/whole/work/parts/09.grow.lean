theorem nl_eq {n : Nat} (h2 : 2 ≤ n) (hn : n ≤ 1000) : nI n + (if nI 1 < nI (n / 2) then nI (n / 2) else nI 1) = nI (n + n / 2) := by
  by_cases c : 1 < n / 2
  · rw [if_pos (nI_lt c (by omega))]
    exact nI_add n (n / 2)
  · rw [if_neg (nI_nlt (by omega) (by decide))]
    have hd : n / 2 = 1 := by omega
    rw [hd]
    exact nI_add n 1
theorem hp_ne {h : hp_T} {a q : Nat} {x : va_E} (ha : h a = some x) (hq : h q = none) : a ≠ q := fun z => by
  rw [z, hq] at ha
  cases ha
theorem ob_ok.up {h : hp_T} {y q : Nat} {x : va_E} (hy : ob_ok h y) (hq : h q = none) : ob_ok (hp_up h q x) y := by
  obtain ⟨ci, fs, r, h1, h2, h3⟩ := hy
  exact ⟨ci, fs, r, by rw [hp_un (hp_ne h1 hq)]; exact h1, h2, h3⟩
theorem ob_ok.ne {h : hp_T} {y b : Nat} {c : ClassId × vp_A} {x : va_E} (hy : ob_ok h y) (hb : h b = some (.inl c)) : ob_ok (hp_up h b x) y := by
  obtain ⟨ci, fs, r, h1, h2, h3⟩ := hy
  have hn : y ≠ b := fun z => by rw [z, hb] at h1; cases h1
  exact ⟨ci, fs, r, by rw [hp_un hn]; exact h1, h2, h3⟩
theorem ob_ok.fld {h : hp_T} {y a k : Nat} {fs1 fs2 : List Value} (hy : ob_ok h y) (ha : h a = some (.inr (k, fs1))) : ob_ok (hp_up h a (.inr (k, fs2))) y := by
  obtain ⟨ci, fs, r, h1, h2, h3⟩ := hy
  by_cases hn : y = a
  · subst hn
    rw [ha] at h1
    cases h1
    exact ⟨k, fs2, r, hp_us, h2, h3⟩
  · exact ⟨ci, fs, r, by rw [hp_un hn]; exact h1, h2, h3⟩

theorem k_AS_newLength_0 : px_dec prog_30_method_27_code [.iload_n 0, .iload_n 1, .iload_n 2] 0 = true := by decide +kernel
theorem d_AS_newLength_3 : decode prog_30_method_27_code 3 = .ok (.invokestatic 194, 3) := by decide +kernel
theorem k_AS_newLength_6 : px_dec prog_30_method_27_code [.iadd, .istore_n 3, .iconst 0, .iload_n 3] 6 = true := by decide +kernel
theorem d_AS_newLength_10 : decode prog_30_method_27_code 10 = .ok (.if_icmp .ge 11, 3) := by decide +kernel
theorem k_AS_newLength_13 : px_dec prog_30_method_27_code [.iload_n 3] 13 = true := by decide +kernel
theorem d_AS_newLength_14 : decode prog_30_method_27_code 14 = .ok (.ldc 200, 2) := by decide +kernel
theorem d_AS_newLength_16 : decode prog_30_method_27_code 16 = .ok (.if_icmp .gt 5, 3) := by decide +kernel
theorem k_AS_newLength_19 : px_dec prog_30_method_27_code [.iload_n 3] 19 = true := by decide +kernel
theorem d_AS_newLength_20 : decode prog_30_method_27_code 20 = .ok (.ireturn, 1) := by decide +kernel
set_option maxRecDepth 100000 in
set_option maxHeartbeats 4000000 in
theorem c_AS_newLength (l : Launch) (D : va_G) (HB : Heap) (h : hp_T) (n : Nat) (h2 : 2 ≤ n) (hn : n ≤ 1000) : ct_M l y_AS_newLength (.code y_AS_newLength prog_30_method_27_code 4 (Option.some Jvm.ClassFile.FieldType.int)) ({ frames := 1, cells := 0, slots := 0, locals := 15 }) D HB [.int (nI n), .int (nI 1), .int (nI (n / 2))] h (fun o h2 => o = .inl (some (.int (nI (n + n / 2)))) ∧ h2 = h) := by
  refine ct_of (by decide) (Nat.le_of_ble_eq_true rfl) rfl ?_
  intro p e s m args below meth c C hnm
  refine wk_run C k_AS_newLength_0 (pc2 := 3) (lv2 := [(0, .int (nI n)), (1, .int (nI 1)), (2, .int (nI (n / 2)))]) (st2 := [.int (nI (n / 2)), .int (nI 1), .int (nI n)]) rfl ?_
  refine wk_mmax C km_AS_194 (by decide) (Nat.le_of_ble_eq_true rfl) (Nat.zero_le _) (Nat.zero_le _) d_AS_newLength_3 ?_
  refine wk_top (fun z ez => ?_)
  have ev : nI n + z = nI (n + n / 2) := by rw [ez]; exact nl_eq h2 hn
  refine wk_run C k_AS_newLength_6 (pc2 := 10) (lv2 := [(3, .int ((nI n) + z)), (0, .int (nI n)), (1, .int (nI 1)), (2, .int (nI (n / 2)))]) (st2 := [.int ((nI n) + z), .int 0]) rfl ?_
  refine wk_br C d_AS_newLength_10 (P := ((nI n) + z) ≤ 0) (tgt := 21) (rest := []) rfl (by decide) (fun c1 => ?_) (fun c1 => ?_)
  · exact absurd (by rw [← ev]; exact c1) (nI_nle (n := n + n / 2) (by omega) (by omega))
  ·
    refine wk_run C k_AS_newLength_13 (pc2 := 14) (lv2 := [(3, .int ((nI n) + z)), (0, .int (nI n)), (1, .int (nI 1)), (2, .int (nI (n / 2)))]) (st2 := [.int ((nI n) + z)]) rfl ?_
    refine wk_ldc C kk_AS_200 d_AS_newLength_14 ?_
    refine wk_br C d_AS_newLength_16 (P := 2147483639 < ((nI n) + z)) (tgt := 21) (rest := []) rfl (by decide) (fun c2 => ?_) (fun c2 => ?_)
    · exact absurd (by rw [← ev]; exact c2) (show ¬ nI 2147483639 < nI (n + n / 2) from nI_nlt (by omega) (by decide))
    ·
      refine wk_run C k_AS_newLength_19 (pc2 := 20) (lv2 := [(3, .int ((nI n) + z)), (0, .int (nI n)), (1, .int (nI 1)), (2, .int (nI (n / 2)))]) (st2 := [.int ((nI n) + z)]) rfl ?_
      exact wk_iret C ⟨by rw [ev], rfl⟩ (by decide) (by decide) d_AS_newLength_20
theorem k_AR_copyOf_1_0 : px_dec prog_24_method_120_code [.aload_n 2] 0 = true := by decide +kernel
theorem d_AR_copyOf_1_1 : decode prog_24_method_120_code 1 = .ok (.ldc 110, 2) := by decide +kernel
theorem d_AR_copyOf_1_3 : decode prog_24_method_120_code 3 = .ok (.if_acmp .ne 10, 3) := by decide +kernel
theorem k_AR_copyOf_1_6 : px_dec prog_24_method_120_code [.iload_n 1] 6 = true := by decide +kernel
theorem d_AR_copyOf_1_7 : decode prog_24_method_120_code 7 = .ok (.anewarray 2, 3) := by decide +kernel
theorem d_AR_copyOf_1_10 : decode prog_24_method_120_code 10 = .ok (.goto 14, 3) := by decide +kernel
theorem k_AR_copyOf_1_24 : px_dec prog_24_method_120_code [.astore_n 3, .aload_n 0, .iconst 0, .aload_n 3, .iconst 0, .aload_n 0] 24 = true := by decide +kernel
theorem d_AR_copyOf_1_30 : decode prog_24_method_120_code 30 = .ok (.arraylength, 1) := by decide +kernel
theorem k_AR_copyOf_1_31 : px_dec prog_24_method_120_code [.iload_n 1] 31 = true := by decide +kernel
theorem d_AR_copyOf_1_32 : decode prog_24_method_120_code 32 = .ok (.invokestatic 304, 3) := by decide +kernel
theorem d_AR_copyOf_1_35 : decode prog_24_method_120_code 35 = .ok (.invokestatic 150, 3) := by decide +kernel
theorem k_AR_copyOf_1_38 : px_dec prog_24_method_120_code [.aload_n 3] 38 = true := by decide +kernel
theorem d_AR_copyOf_1_39 : decode prog_24_method_120_code 39 = .ok (.areturn, 1) := by decide +kernel
set_option maxRecDepth 100000 in
set_option maxHeartbeats 4000000 in
theorem c_AR_copyOf_1 (l : Launch) (D : va_G) (HB : Heap) (h : hp_T) (b cap N : Nat) (g : Nat → Option Nat) (hb : h b = some (.inl (D.1 102, cap, .inr (.inr (.inr (.inr g)))))) (hc : cap ≤ N) (hN : N ≤ 110) (hg : ∀ i : Nat, i < cap → ∀ y : Nat, g i = some y → ob_ok h y) : ct_M l y_AR_copyOf_1 (.code y_AR_copyOf_1 prog_24_method_120_code 4 (Option.some (Jvm.ClassFile.FieldType.array (Jvm.ClassFile.FieldType.object "java/lang/Object")))) ({ frames := 1, cells := 1, slots := 110, locals := 100 }) D HB [.ref b, .int (nI N), .ref (D.2 201 0)] h (fun o h2 => ∃ q : Nat, h q = none ∧ o = .inl (some (.ref q)) ∧ h2 = hp_up h q (.inl (D.1 102, N, .inr (.inr (.inr (.inr (va_cpy g (fun _ => none) 0 0 cap))))))) := by
  refine ct_of (by decide) (Nat.le_of_ble_eq_true rfl) rfl ?_
  intro p e s m args below meth c C hnm
  refine wk_run C k_AR_copyOf_1_0 (pc2 := 1) (lv2 := [(0, .ref b), (1, .int (nI N)), (2, .ref (D.2 201 0))]) (st2 := [.ref (D.2 201 0)]) rfl ?_
  refine wk_ldcM C cl_AR_110 d_AR_copyOf_1_1 ?_
  refine wk_ane C d_AR_copyOf_1_3 (tgt := 13) (by decide) (fun z => absurd rfl z) (fun _ => ?_)
  refine wk_run C k_AR_copyOf_1_6 (pc2 := 7) (lv2 := [(0, .ref b), (1, .int (nI N)), (2, .ref (D.2 201 0))]) (st2 := [.int (nI N)]) rfl ?_
  refine wk_newq C cl_AR_2 rfl (by omega) (by decide) (by show 0 + N ≤ 110; omega) d_AR_copyOf_1_7 (fun q hq => ?_)
  have hbq : b ≠ q := hp_ne hb hq
  have hb2 := (hp_un (h := h) (x := (.inl (D.1 102, N, .inr (.inr (.inr (.inr (fun _ => none))))))) hbq).trans hb
  refine wk_goto C d_AR_copyOf_1_10 (tgt := 24) (by decide) ?_
  refine wk_run C k_AR_copyOf_1_24 (pc2 := 30) (lv2 := [(3, .ref q), (0, .ref b), (1, .int (nI N)), (2, .ref (D.2 201 0))]) (st2 := [.ref b, .int 0, .ref q, .int 0, .ref b]) rfl ?_
  refine wk_alen C (t0 := 2) hb2 rfl d_AR_copyOf_1_30 ?_
  refine wk_run C k_AR_copyOf_1_31 (pc2 := 32) (lv2 := [(3, .ref q), (0, .ref b), (1, .int (nI N)), (2, .ref (D.2 201 0))]) (st2 := [.int (nI N), .int (nI cap), .int 0, .ref q, .int 0, .ref b]) rfl ?_
  refine wk_mmin C km_AR_304 (by decide) (Nat.le_of_ble_eq_true rfl) (by decide) (by show 0 + N ≤ 110; omega) d_AR_copyOf_1_32 ?_
  rw [if_neg (show ¬ nI N < nI cap from nI_nlt hc (by omega))]
  refine wk_copy (n := cap) C kp_AR kp_nt kp_st ki_SY hb2 hp_us nI_0.symm nI_0.symm rfl (by omega) (by omega) (by omega) (by omega) (fun i hi y hy => (hg i hi y (by rw [Nat.zero_add] at hy; exact hy)).up hq) (by decide) (by decide) d_AR_copyOf_1_35 ?_
  refine Wk.he hp_uu ?_
  refine wk_run C k_AR_copyOf_1_38 (pc2 := 39) (lv2 := [(3, .ref q), (0, .ref b), (1, .int (nI N)), (2, .ref (D.2 201 0))]) (st2 := [.ref q]) rfl ?_
  exact wk_aret C rfl (Or.inr ⟨_, rfl⟩) (Or.inr ⟨_, rfl⟩) ⟨q, hq, rfl, rfl⟩ (by decide) (by show 0 + N ≤ 110; omega) d_AR_copyOf_1_39
theorem k_AR_copyOf_0_0 : px_dec prog_24_method_119_code [.aload_n 0, .iload_n 1, .aload_n 0] 0 = true := by decide +kernel
theorem d_AR_copyOf_0_3 : decode prog_24_method_119_code 3 = .ok (.invokevirtual 86, 3) := by decide +kernel
theorem d_AR_copyOf_0_6 : decode prog_24_method_119_code 6 = .ok (.invokestatic 300, 3) := by decide +kernel
theorem d_AR_copyOf_0_9 : decode prog_24_method_119_code 9 = .ok (.areturn, 1) := by decide +kernel
set_option maxRecDepth 100000 in
set_option maxHeartbeats 4000000 in
theorem c_AR_copyOf_0 (l : Launch) (D : va_G) (HB : Heap) (h : hp_T) (b cap N : Nat) (g : Nat → Option Nat) (hb : h b = some (.inl (D.1 102, cap, .inr (.inr (.inr (.inr g)))))) (hc : cap ≤ N) (hN : N ≤ 110) (hg : ∀ i : Nat, i < cap → ∀ y : Nat, g i = some y → ob_ok h y) : ct_M l y_AR_copyOf_0 (.code y_AR_copyOf_0 prog_24_method_119_code 2 (Option.some (Jvm.ClassFile.FieldType.array (Jvm.ClassFile.FieldType.object "java/lang/Object")))) ({ frames := 2, cells := 1, slots := 110, locals := 123 }) D HB [.ref b, .int (nI N)] h (fun o h2 => ∃ q : Nat, h q = none ∧ o = .inl (some (.ref q)) ∧ h2 = hp_up h q (.inl (D.1 102, N, .inr (.inr (.inr (.inr (va_cpy g (fun _ => none) 0 0 cap))))))) := by
  refine ct_of (by decide) (Nat.le_of_ble_eq_true rfl) rfl ?_
  intro p e s m args below meth c C hnm
  refine wk_run C k_AR_copyOf_0_0 (pc2 := 3) (lv2 := [(0, .ref b), (1, .int (nI N))]) (st2 := [.ref b, .int (nI N), .ref b]) rfl ?_
  refine wk_getC C hb kg_lk kg_dc kg_sl kg_in kg_nt (by decide) (Nat.le_of_ble_eq_true rfl) d_AR_copyOf_0_3 ?_
  refine wk_callS (rest := []) C (c_AR_copyOf_1 l D HB h b cap N g hb hc hN hg) cs_AR_300 kc_AR_copyOf_1 ki_AR rfl rfl (Nat.le_of_ble_eq_true rfl) (Nat.le_of_ble_eq_true rfl) (Nat.le_of_ble_eq_true rfl) (Nat.le_of_ble_eq_true rfl) (Nat.le_of_ble_eq_true rfl) d_AR_copyOf_0_6 (fun v h2 hq => ?_) (fun _ _ z => by obtain ⟨_, _, z, _⟩ := z; cases z)
  obtain ⟨q, hq1, e1, e2⟩ := hq; cases e1; subst e2
  exact wk_aret C rfl (Or.inr ⟨_, rfl⟩) (Or.inr ⟨_, rfl⟩) ⟨q, hq1, rfl, rfl⟩ (by decide) (by decide) d_AR_copyOf_0_9
theorem k_AL_grow_1_0 : px_dec prog_23_method_6_code [.aload_n 0] 0 = true := by decide +kernel
theorem d_AL_grow_1_1 : decode prog_23_method_6_code 1 = .ok (.getfield 9, 3) := by decide +kernel
theorem d_AL_grow_1_4 : decode prog_23_method_6_code 4 = .ok (.arraylength, 1) := by decide +kernel
theorem k_AL_grow_1_5 : px_dec prog_23_method_6_code [.istore_n 2, .iload_n 2] 5 = true := by decide +kernel
theorem d_AL_grow_1_7 : decode prog_23_method_6_code 7 = .ok (.ifCond .gt 13, 3) := by decide +kernel
theorem k_AL_grow_1_20 : px_dec prog_23_method_6_code [.iload_n 2, .iload_n 1, .iload_n 2, .isub, .iload_n 2, .iconst 1, .ishr] 20 = true := by decide +kernel
theorem d_AL_grow_1_27 : decode prog_23_method_6_code 27 = .ok (.invokestatic 73, 3) := by decide +kernel
theorem k_AL_grow_1_30 : px_dec prog_23_method_6_code [.istore_n 3, .aload_n 0, .aload_n 0] 30 = true := by decide +kernel
theorem d_AL_grow_1_33 : decode prog_23_method_6_code 33 = .ok (.getfield 9, 3) := by decide +kernel
theorem k_AL_grow_1_36 : px_dec prog_23_method_6_code [.iload_n 3] 36 = true := by decide +kernel
theorem d_AL_grow_1_37 : decode prog_23_method_6_code 37 = .ok (.invokestatic 66, 3) := by decide +kernel
theorem k_AL_grow_1_40 : px_dec prog_23_method_6_code [.dup_x1] 40 = true := by decide +kernel
theorem d_AL_grow_1_41 : decode prog_23_method_6_code 41 = .ok (.putfield 9, 3) := by decide +kernel
theorem d_AL_grow_1_44 : decode prog_23_method_6_code 44 = .ok (.areturn, 1) := by decide +kernel
set_option maxRecDepth 100000 in
set_option maxHeartbeats 4000000 in
theorem c_AL_grow_1b (l : Launch) (D : va_G) (HB : Heap) (h : hp_T) (a b cap : Nat) (md sz : Int32) (g : Nat → Option Nat) (ha : h a = some (.inr (7, [.int md, .ref b, .int sz]))) (hb : h b = some (.inl (D.1 102, cap, .inr (.inr (.inr (.inr g)))))) (hc : 2 ≤ cap) (hN : cap ≤ 73) (hg : ∀ i : Nat, i < cap → ∀ y : Nat, g i = some y → ob_ok h y) : ct_M l y_AL_grow_1 (.code y_AL_grow_1 prog_23_method_6_code 4 (Option.some (Jvm.ClassFile.FieldType.array (Jvm.ClassFile.FieldType.object "java/lang/Object")))) ({ frames := 3, cells := 1, slots := 110, locals := 148 }) D HB [.ref a, .int (nI (cap + 1))] h (fun o h2 => ∃ q : Nat, h q = none ∧ o = .inl (some (.ref q)) ∧ h2 = hp_up (hp_up h q (.inl (D.1 102, (cap + cap / 2), .inr (.inr (.inr (.inr (va_cpy g (fun _ => none) 0 0 cap))))))) a (.inr (7, [.int md, .ref q, .int sz]))) := by
  refine ct_of (by decide) (Nat.le_of_ble_eq_true rfl) rfl ?_
  intro p e s m args below meth c C hnm
  refine wk_run C k_AL_grow_1_0 (pc2 := 1) (lv2 := [(0, .ref a), (1, .int (nI (cap + 1)))]) (st2 := [.ref a]) rfl ?_
  refine wk_get C fd_AL_9 ha rfl d_AL_grow_1_1 ?_
  refine wk_alen C (t0 := 2) hb rfl d_AL_grow_1_4 ?_
  refine wk_run C k_AL_grow_1_5 (pc2 := 7) (lv2 := [(2, .int (nI cap)), (0, .ref a), (1, .int (nI (cap + 1)))]) (st2 := [.int (nI cap)]) rfl ?_
  refine wk_br C d_AL_grow_1_7 (P := 0 < (nI cap)) (tgt := 20) (rest := []) rfl (by decide) (fun c1 => ?_) (fun c1 => ?_)
  ·
    refine wk_run C k_AL_grow_1_20 (pc2 := 27) (lv2 := [(2, .int (nI cap)), (0, .ref a), (1, .int (nI (cap + 1)))]) (st2 := [.int ((nI cap) >>> (1 &&& 31)), .int ((nI (cap + 1)) - (nI cap)), .int (nI cap)]) rfl ?_
    have e1 : nI (cap + 1) - nI cap = nI 1 := by rw [pk_sub (by omega)]; congr 1; omega
    have e2 : nI cap >>> ((1 : Int32) &&& 31) = nI (cap / 2) := by have k := pk_shrN (n := cap) (by omega) ((1 : Int32) &&& 31) 1 (by decide); rw [Nat.pow_one] at k; exact k
    rw [e1, e2]
    refine wk_callS (rest := []) C (c_AS_newLength l D HB h cap hc (by omega)) cs_AL_73 kc_AS_newLength ki_AS rfl rfl (Nat.le_of_ble_eq_true rfl) (Nat.le_of_ble_eq_true rfl) (Nat.le_of_ble_eq_true rfl) (Nat.le_of_ble_eq_true rfl) (Nat.le_of_ble_eq_true rfl) d_AL_grow_1_27 (fun v h2 hq => ?_) (fun _ _ z => nomatch z.1)
    obtain ⟨e3, e4⟩ := hq; cases e3; subst e4
    refine wk_run C k_AL_grow_1_30 (pc2 := 33) (lv2 := [(3, .int (nI (cap + cap / 2))), (2, .int (nI cap)), (0, .ref a), (1, .int (nI (cap + 1)))]) (st2 := [.ref a, .ref a]) rfl ?_
    refine wk_get C fd_AL_9 ha rfl d_AL_grow_1_33 ?_
    refine wk_run C k_AL_grow_1_36 (pc2 := 37) (lv2 := [(3, .int (nI (cap + cap / 2))), (2, .int (nI cap)), (0, .ref a), (1, .int (nI (cap + 1)))]) (st2 := [.int (nI (cap + cap / 2)), .ref b, .ref a]) rfl ?_
    refine wk_callS (rest := [.ref a]) C (c_AR_copyOf_0 l D HB h2 b cap (cap + cap / 2) g hb (by omega) (by omega) hg) cs_AL_66 kc_AR_copyOf_0 ki_AR rfl rfl (Nat.le_of_ble_eq_true rfl) (Nat.le_of_ble_eq_true rfl) (Nat.le_of_ble_eq_true rfl) (Nat.le_of_ble_eq_true rfl) (Nat.le_of_ble_eq_true rfl) d_AL_grow_1_37 (fun v h3 hq => ?_) (fun _ _ z => by obtain ⟨_, _, z, _⟩ := z; cases z)
    obtain ⟨q, hq1, e1, e2⟩ := hq; cases e1; subst e2
    refine wk_run C k_AL_grow_1_40 (pc2 := 41) (lv2 := [(3, .int (nI (cap + cap / 2))), (2, .int (nI cap)), (0, .ref a), (1, .int (nI (cap + 1)))]) (st2 := [.ref q, .ref a, .ref q]) rfl ?_
    refine wk_put (fs2 := [.int md, .ref q, .int sz]) C fd_AL_9 ((hp_un (hp_ne ha hq1)).trans ha) rfl rfl (Nat.le_of_ble_eq_true rfl) rfl d_AL_grow_1_41 ?_
    exact wk_aret C rfl (Or.inr ⟨_, rfl⟩) (Or.inr ⟨_, rfl⟩) ⟨q, hq1, rfl, rfl⟩ (by decide) (by decide) d_AL_grow_1_44
  · exact absurd (show nI 0 < nI cap from nI_lt (by omega) (by omega)) c1
theorem k_AL_grow_1_10 : px_dec prog_23_method_6_code [.aload_n 0] 10 = true := by decide +kernel
theorem d_AL_grow_1_11 : decode prog_23_method_6_code 11 = .ok (.getfield 9, 3) := by decide +kernel
theorem d_AL_grow_1_14 : decode prog_23_method_6_code 14 = .ok (.getstatic 39, 3) := by decide +kernel
theorem d_AL_grow_1_17 : decode prog_23_method_6_code 17 = .ok (.if_acmp .eq 28, 3) := by decide +kernel
theorem k_AL_grow_1_45 : px_dec prog_23_method_6_code [.aload_n 0, .bipush 10, .iload_n 1] 45 = true := by decide +kernel
theorem d_AL_grow_1_49 : decode prog_23_method_6_code 49 = .ok (.invokestatic 79, 3) := by decide +kernel
theorem d_AL_grow_1_52 : decode prog_23_method_6_code 52 = .ok (.anewarray 7, 3) := by decide +kernel
theorem k_AL_grow_1_55 : px_dec prog_23_method_6_code [.dup_x1] 55 = true := by decide +kernel
theorem d_AL_grow_1_56 : decode prog_23_method_6_code 56 = .ok (.putfield 9, 3) := by decide +kernel
theorem d_AL_grow_1_59 : decode prog_23_method_6_code 59 = .ok (.areturn, 1) := by decide +kernel
set_option maxRecDepth 100000 in
set_option maxHeartbeats 4000000 in
theorem c_AL_grow_1a (l : Launch) (D : va_G) (HB : Heap) (h : hp_T) (a : Nat) (md sz : Int32) (ha : h a = some (.inr (7, [.int md, .ref (D.2 200 0), .int sz]))) : ct_M l y_AL_grow_1 (.code y_AL_grow_1 prog_23_method_6_code 4 (Option.some (Jvm.ClassFile.FieldType.array (Jvm.ClassFile.FieldType.object "java/lang/Object")))) ({ frames := 3, cells := 1, slots := 110, locals := 148 }) D HB [.ref a, .int 1] h (fun o h2 => ∃ q : Nat, h q = none ∧ o = .inl (some (.ref q)) ∧ h2 = hp_up (hp_up h q (.inl (D.1 102, 10, .inr (.inr (.inr (.inr (fun _ => none))))))) a (.inr (7, [.int md, .ref q, .int sz]))) := by
  refine ct_of (by decide) (Nat.le_of_ble_eq_true rfl) rfl ?_
  intro p e s m args below meth c C hnm
  refine wk_run C k_AL_grow_1_0 (pc2 := 1) (lv2 := [(0, .ref a), (1, .int 1)]) (st2 := [.ref a]) rfl ?_
  refine wk_get C fd_AL_9 ha rfl d_AL_grow_1_1 ?_
  refine wk_tlen C C.ev.2.2.2.2.2.1 d_AL_grow_1_4 ?_
  refine wk_run C k_AL_grow_1_5 (pc2 := 7) (lv2 := [(2, .int (nI 0)), (0, .ref a), (1, .int 1)]) (st2 := [.int (nI 0)]) rfl ?_
  refine wk_br C d_AL_grow_1_7 (P := 0 < (nI 0)) (tgt := 20) (rest := []) rfl (by decide) (fun c1 => ?_) (fun c1 => ?_)
  · exact absurd c1 (by decide)
  ·
    refine wk_run C k_AL_grow_1_10 (pc2 := 11) (lv2 := [(2, .int (nI 0)), (0, .ref a), (1, .int 1)]) (st2 := [.ref a]) rfl ?_
    refine wk_get C fd_AL_9 ha rfl d_AL_grow_1_11 ?_
    refine wk_gets C C.ev.2.2.2.2.1 fs_AL_39 d_AL_grow_1_14 ?_
    refine wk_aeq C d_AL_grow_1_17 (tgt := 45) (by decide) (fun _ => ?_) (fun z => absurd rfl z)
    refine wk_run C k_AL_grow_1_45 (pc2 := 49) (lv2 := [(2, .int (nI 0)), (0, .ref a), (1, .int 1)]) (st2 := [.int 1, .int 10, .ref a]) rfl ?_
    refine wk_mmax C km_AL_79 (by decide) (Nat.le_of_ble_eq_true rfl) (by decide) (by decide) d_AL_grow_1_49 ?_
    rw [if_neg (show ¬ (10 : Int32) < 1 by decide)]
    refine wk_newq (N := 10) C cl_AL_7 rfl (by omega) (by decide) (by decide) d_AL_grow_1_52 (fun q hq => ?_)
    refine wk_run C k_AL_grow_1_55 (pc2 := 56) (lv2 := [(2, .int (nI 0)), (0, .ref a), (1, .int 1)]) (st2 := [.ref q, .ref a, .ref q]) rfl ?_
    refine wk_put (fs2 := [.int md, .ref q, .int sz]) C fd_AL_9 ((hp_un (hp_ne ha hq)).trans ha) rfl rfl (Nat.le_of_ble_eq_true rfl) rfl d_AL_grow_1_56 ?_
    exact wk_aret C rfl (Or.inr ⟨_, rfl⟩) (Or.inr ⟨_, rfl⟩) ⟨q, hq, rfl, rfl⟩ (by decide) (by decide) d_AL_grow_1_59
