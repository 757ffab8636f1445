theorem ok_ne {x : Int32} (h : ok_ x 20) (h2 : ¬ x = 20) : ok_ x 19 := by
  refine ⟨h.1, ?_⟩
  have : ¬ nu x = 20 := fun z => h2 (by rw [h.1, z]; rfl)
  have := h.2
  omega
theorem ok_lo {x y : Int32} {n : Nat} (h1 : ¬ x < 0) (h2 : x < y) (hy : ok_ y (n + 1)) (hn : n + 1 < 2 ^ 31) : ok_ x n := by
  obtain ⟨k, hk, rfl⟩ := nI_of h1
  rw [hy.1, nI_ltI hk (by have := hy.2; omega)] at h2
  have := hy.2
  exact ok_nI (by omega) (by omega)
theorem ok_le {x : Int32} {n : Nat} {y : Int32} (h1 : ¬ x < 0) (h2 : x ≤ y) (hy : y = nI n) (hn : n < 2 ^ 31) : ok_ x n := by
  obtain ⟨k, hk, rfl⟩ := nI_of h1
  subst hy
  rw [nI_leI hk (by omega)] at h2
  exact ok_nI (by omega) (by omega)
theorem nx0_ {a : Int32} {k m N : Nat} (ha : ok_ a m) (hN : k * m < N) (hN2 : N < 2 ^ 31) : vp_in (nI k * a) N ∧ nu (nI k * a) = k * nu a := by
  have := nx_ (k := k) (b := nI 0) (n := 0) ha (ok_nI (Nat.le_refl 0) (by decide)) (by omega : k * m + 0 < N) hN2
  rw [show nI k * a + nI 0 = nI k * a by rw [show (nI 0) = (0 : Int32) from rfl]; exact Int32.add_zero _, nu_nI (by decide : 0 < 2 ^ 31), Nat.add_zero] at this
  exact this

theorem k_MD_revoke_0 : px_dec prog_9_method_14_code [.aload_n 0, .aload_n 0, .iload_n 1] 0 = true := by decide +kernel
theorem d_MD_revoke_3 : decode prog_9_method_14_code 3 = .ok (.invokevirtual 92, 3) := by decide +kernel
theorem d_MD_revoke_6 : decode prog_9_method_14_code 6 = .ok (.ifCond .ne 7, 3) := by decide +kernel
theorem k_MD_revoke_13 : px_dec prog_9_method_14_code [.iconst 0, .iconst 0] 13 = true := by decide +kernel
theorem d_MD_revoke_15 : decode prog_9_method_14_code 15 = .ok (.invokevirtual 88, 3) := by decide +kernel
theorem d_MD_revoke_18 : decode prog_9_method_14_code 18 = .ok (.ifCond .eq 5, 3) := by decide +kernel
theorem k_MD_revoke_23 : px_dec prog_9_method_14_code [.aload_n 0] 23 = true := by decide +kernel
theorem d_MD_revoke_24 : decode prog_9_method_14_code 24 = .ok (.getfield 22, 3) := by decide +kernel
theorem k_MD_revoke_27 : px_dec prog_9_method_14_code [.iload_n 1] 27 = true := by decide +kernel
theorem d_MD_revoke_28 : decode prog_9_method_14_code 28 = .ok (.baload, 1) := by decide +kernel
theorem k_MD_revoke_29 : px_dec prog_9_method_14_code [.iload_n 2] 29 = true := by decide +kernel
theorem d_MD_revoke_30 : decode prog_9_method_14_code 30 = .ok (.if_icmp .ne 5, 3) := by decide +kernel
theorem k_MD_revoke_35 : px_dec prog_9_method_14_code [.aload_n 0] 35 = true := by decide +kernel
theorem d_MD_revoke_36 : decode prog_9_method_14_code 36 = .ok (.getfield 22, 3) := by decide +kernel
theorem k_MD_revoke_39 : px_dec prog_9_method_14_code [.iload_n 1, .iload_n 2] 39 = true := by decide +kernel
theorem d_MD_revoke_41 : decode prog_9_method_14_code 41 = .ok (.bastore, 1) := by decide +kernel
theorem k_MD_revoke_42 : px_dec prog_9_method_14_code [.aload_n 0] 42 = true := by decide +kernel
theorem d_MD_revoke_43 : decode prog_9_method_14_code 43 = .ok (.getfield 19, 3) := by decide +kernel
theorem k_MD_revoke_46 : px_dec prog_9_method_14_code [.iload_n 1, .iload_n 2] 46 = true := by decide +kernel
theorem d_MD_revoke_48 : decode prog_9_method_14_code 48 = .ok (.ifCond .eq 12, 3) := by decide +kernel
theorem k_MD_revoke_60 : px_dec prog_9_method_14_code [.iconst 3] 60 = true := by decide +kernel
theorem d_MD_revoke_61 : decode prog_9_method_14_code 61 = .ok (.iastore, 1) := by decide +kernel
theorem k_MD_revoke_62 : px_dec prog_9_method_14_code [.iconst 1] 62 = true := by decide +kernel
theorem d_MD_revoke_63 : decode prog_9_method_14_code 63 = .ok (.ireturn, 1) := by decide +kernel
theorem k_MD_revoke_51 : px_dec prog_9_method_14_code [.aload_n 0] 51 = true := by decide +kernel
theorem d_MD_revoke_52 : decode prog_9_method_14_code 52 = .ok (.getfield 19, 3) := by decide +kernel
theorem k_MD_revoke_55 : px_dec prog_9_method_14_code [.iload_n 1] 55 = true := by decide +kernel
theorem d_MD_revoke_56 : decode prog_9_method_14_code 56 = .ok (.iaload, 1) := by decide +kernel
theorem d_MD_revoke_57 : decode prog_9_method_14_code 57 = .ok (.goto 4, 3) := by decide +kernel
theorem k_MD_revoke_33 : px_dec prog_9_method_14_code [.iconst 0] 33 = true := by decide +kernel
theorem d_MD_revoke_34 : decode prog_9_method_14_code 34 = .ok (.ireturn, 1) := by decide +kernel
theorem k_MD_revoke_9 : px_dec prog_9_method_14_code [.iconst 1] 9 = true := by decide +kernel
theorem d_MD_revoke_10 : decode prog_9_method_14_code 10 = .ok (.goto 4, 3) := by decide +kernel
theorem k_MD_revoke_14 : px_dec prog_9_method_14_code [.iconst 0] 14 = true := by decide +kernel
theorem k_MD_revoke_21 : px_dec prog_9_method_14_code [.iconst 0] 21 = true := by decide +kernel
theorem d_MD_revoke_22 : decode prog_9_method_14_code 22 = .ok (.ireturn, 1) := by decide +kernel
set_option maxRecDepth 100000 in
set_option maxHeartbeats 4000000 in
theorem c_MD_revoke (l : Launch) (D : va_G) (HB : Heap) (h : hp_T) (h0 : hp_T) (y : Nat) (A : Nat → Nat) (V : vT) (u : Int32) (b : Int32) (hU : ok_ (V 8 0) 40) (hb : b = 0 ∨ b = 1) (hM : mq D h0 h y A V) : ct_M l y_MD_revoke (.code y_MD_revoke prog_9_method_14_code 3 (Option.some Jvm.ClassFile.FieldType.int)) ({ frames := 1, cells := 0, slots := 0, locals := 30 }) D HB [.ref y, .int u, .int b] h (fun o h2 => ∃ (cd r : Int32) (V2 : vT), sp_revoke V u b = (cd, r, V2) ∧ o = .inl (some (.int r)) ∧ mq D h0 h2 y A V2) := by
  refine ct_of (by decide) (Nat.le_of_ble_eq_true rfl) rfl ?_
  intro p_ e_ s_ m_ r_ b_ t_ c_ C hnm
  refine wk_run C k_MD_revoke_0 (pc2 := 3) (lv2 := [(0, .ref y), (1, .int u), (2, .int b)]) (st2 := [.int u, .ref y, .ref y]) rfl ?_
  refine wk_callV (cl := ("ProfileRightsModel", T_MD, 27)) (rest := [.ref y]) C (c_MD_isUser l D HB h h0 y A (V) u hM) cs_MD_92 kc_MD_isUser ki_MD hM.ob rfl rfl rfl (Nat.le_of_ble_eq_true rfl) (Nat.le_of_ble_eq_true rfl) (Nat.le_of_ble_eq_true rfl) (Nat.le_of_ble_eq_true rfl) (Nat.le_of_ble_eq_true rfl) d_MD_revoke_3 (fun v h2 hq => ?_) (fun _ _ z => nomatch z.1)
  obtain ⟨e1, e2⟩ := hq; cases e1; replace e2 := e2.symm; subst e2
  show Wk _ _ _ _ _ _ _ _ _ _ _ _ _ _ _ _ _ _ _ (.int (if ¬ u < 1 ∧ u ≤ V 8 0 then (1 : Int32) else 0) :: _)
  refine wk_br C d_MD_revoke_6 (P := ¬ (if ¬ u < 1 ∧ u ≤ V 8 0 then (1 : Int32) else 0) = 0) (tgt := 13) (rest := [.ref y]) rfl (by decide) (fun c1 => ?_) (fun c1 => ?_)
  ·
    replace c1 := bn_ c1
    refine wk_run C k_MD_revoke_13 (pc2 := 15) (lv2 := [(0, .ref y), (1, .int u), (2, .int b)]) (st2 := [.int 0, .int 0, .ref y]) rfl ?_
    refine wk_callV (cl := ("ProfileRightsModel", T_MD, 27)) (rest := []) C (c_MD_f0 l D HB h h0 y A (V) hM) cs_MD_88 kc_MD_fails ki_MD hM.ob rfl rfl rfl (Nat.le_of_ble_eq_true rfl) (Nat.le_of_ble_eq_true rfl) (Nat.le_of_ble_eq_true rfl) (Nat.le_of_ble_eq_true rfl) (Nat.le_of_ble_eq_true rfl) d_MD_revoke_15 (fun v h hq => ?_) (fun _ _ z => nomatch z.1)
    obtain ⟨e1, hM⟩ := hq; cases e1
    refine wk_br C d_MD_revoke_18 (P := 0 = 0) (tgt := 23) (rest := []) rfl (by decide) (fun c2 => ?_) (fun c2 => ?_)
    ·
      refine wk_run C k_MD_revoke_23 (pc2 := 24) (lv2 := [(0, .ref y), (1, .int u), (2, .int b)]) (st2 := [.ref y]) rfl ?_
      refine wk_get (v := .ref (A 5)) C fd_MD_22 hM.ob rfl d_MD_revoke_24 ?_
      refine wk_run C k_MD_revoke_27 (pc2 := 28) (lv2 := [(0, .ref y), (1, .int u), (2, .int b)]) (st2 := [.int u, .ref (A 5)]) rfl ?_
      refine wm_ldz C hM 5 (j := nu u) rfl (vi_ c1.1 c1.2 hU (by decide) (by decide)) rfl d_MD_revoke_28 ?_
      show Wk _ _ _ _ _ _ _ _ _ _ _ _ _ _ _ _ _ _ _ (.int (V 5 (nu u)) :: _)
      refine wk_run C k_MD_revoke_29 (pc2 := 30) (lv2 := [(0, .ref y), (1, .int u), (2, .int b)]) (st2 := [.int b, .int (V 5 (nu u))]) rfl ?_
      refine wk_br C d_MD_revoke_30 (P := ¬ (V 5 (nu u)) = b) (tgt := 35) (rest := []) rfl (by decide) (fun c3 => ?_) (fun c3 => ?_)
      ·
        refine wk_run C k_MD_revoke_35 (pc2 := 36) (lv2 := [(0, .ref y), (1, .int u), (2, .int b)]) (st2 := [.ref y]) rfl ?_
        refine wk_get (v := .ref (A 5)) C fd_MD_22 hM.ob rfl d_MD_revoke_36 ?_
        refine wk_run C k_MD_revoke_39 (pc2 := 41) (lv2 := [(0, .ref y), (1, .int u), (2, .int b)]) (st2 := [.int b, .int u, .ref (A 5)]) rfl ?_
        refine wm_stz C hM 5 (j := (nu u)) rfl (vi_ c1.1 c1.2 hU (by decide) (by decide)) rfl (vn_z hb) d_MD_revoke_41 (fun h (hM : mq D h0 h y A (vs (vc (V) 0 0) 5 (upd (V 5) (nu u) b))) => ?_)
        refine wk_run C k_MD_revoke_42 (pc2 := 43) (lv2 := [(0, .ref y), (1, .int u), (2, .int b)]) (st2 := [.ref y]) rfl ?_
        refine wk_get (v := .ref (A 4)) C fd_MD_19 hM.ob rfl d_MD_revoke_43 ?_
        refine wk_run C k_MD_revoke_46 (pc2 := 48) (lv2 := [(0, .ref y), (1, .int u), (2, .int b)]) (st2 := [.int b, .int u, .ref (A 4)]) rfl ?_
        refine wk_br C d_MD_revoke_48 (P := b = 0) (tgt := 60) (rest := [.int u, .ref (A 4)]) rfl (by decide) (fun c4 => ?_) (fun c4 => ?_)
        ·
          refine wk_run C k_MD_revoke_60 (pc2 := 61) (lv2 := [(0, .ref y), (1, .int u), (2, .int b)]) (st2 := [.int 3, .int u, .ref (A 4)]) rfl ?_
          refine wm_st C hM 4 (j := (nu u)) rfl (vi_ c1.1 c1.2 hU (by decide) (by decide)) rfl d_MD_revoke_61 (fun h (hM : mq D h0 h y A (vs (vs (vc (V) 0 0) 5 (upd (V 5) (nu u) b)) 4 (upd (V 4) (nu u) 3))) => ?_)
          refine wk_run C k_MD_revoke_62 (pc2 := 63) (lv2 := [(0, .ref y), (1, .int u), (2, .int b)]) (st2 := [.int 1]) rfl ?_
          exact wk_iret C ⟨0, 1, vs (vs (vc (V) 0 0) 5 (upd (V 5) (nu u) b)) 4 (upd (V 4) (nu u) 3), by clear C hM hnm; grind [sp_revoke], rfl, hM⟩ (by decide) (by decide) d_MD_revoke_63
        ·
          refine wk_run C k_MD_revoke_51 (pc2 := 52) (lv2 := [(0, .ref y), (1, .int u), (2, .int b)]) (st2 := [.ref y, .int u, .ref (A 4)]) rfl ?_
          refine wk_get (v := .ref (A 4)) C fd_MD_19 hM.ob rfl d_MD_revoke_52 ?_
          refine wk_run C k_MD_revoke_55 (pc2 := 56) (lv2 := [(0, .ref y), (1, .int u), (2, .int b)]) (st2 := [.int u, .ref (A 4), .int u, .ref (A 4)]) rfl ?_
          refine wm_ld C hM 4 (j := nu u) rfl (vi_ c1.1 c1.2 hU (by decide) (by decide)) rfl d_MD_revoke_56 ?_
          show Wk _ _ _ _ _ _ _ _ _ _ _ _ _ _ _ _ _ _ _ (.int (V 4 (nu u)) :: _)
          refine wk_goto C d_MD_revoke_57 (tgt := 61) (by decide) ?_
          refine wm_st C hM 4 (j := (nu u)) rfl (vi_ c1.1 c1.2 hU (by decide) (by decide)) rfl d_MD_revoke_61 (fun h (hM : mq D h0 h y A (vs (vs (vc (V) 0 0) 5 (upd (V 5) (nu u) b)) 4 (upd (V 4) (nu u) (V 4 (nu u))))) => ?_)
          refine wk_run C k_MD_revoke_62 (pc2 := 63) (lv2 := [(0, .ref y), (1, .int u), (2, .int b)]) (st2 := [.int 1]) rfl ?_
          exact wk_iret C ⟨0, 1, vs (vs (vc (V) 0 0) 5 (upd (V 5) (nu u) b)) 4 (upd (V 4) (nu u) (V 4 (nu u))), by clear C hM hnm; grind [sp_revoke], rfl, hM⟩ (by decide) (by decide) d_MD_revoke_63
      ·
        refine wk_run C k_MD_revoke_33 (pc2 := 34) (lv2 := [(0, .ref y), (1, .int u), (2, .int b)]) (st2 := [.int 0]) rfl ?_
        exact wk_iret C ⟨0, 0, vc (V) 0 0, by clear C hM hnm; grind [sp_revoke], rfl, hM⟩ (by decide) (by decide) d_MD_revoke_34
    ·
      exact absurd (by decide) c2
  ·
    replace c1 := bz_ (Classical.not_not.mp c1)
    refine wk_run C k_MD_revoke_9 (pc2 := 10) (lv2 := [(0, .ref y), (1, .int u), (2, .int b)]) (st2 := [.int 1, .ref y]) rfl ?_
    refine wk_goto C d_MD_revoke_10 (tgt := 14) (by decide) ?_
    refine wk_run C k_MD_revoke_14 (pc2 := 15) (lv2 := [(0, .ref y), (1, .int u), (2, .int b)]) (st2 := [.int 0, .int 1, .ref y]) rfl ?_
    refine wk_callV (cl := ("ProfileRightsModel", T_MD, 27)) (rest := []) C (c_MD_f1 l D HB h h0 y A (V) hM) cs_MD_88 kc_MD_fails ki_MD hM.ob rfl rfl rfl (Nat.le_of_ble_eq_true rfl) (Nat.le_of_ble_eq_true rfl) (Nat.le_of_ble_eq_true rfl) (Nat.le_of_ble_eq_true rfl) (Nat.le_of_ble_eq_true rfl) d_MD_revoke_15 (fun v h hq => ?_) (fun _ _ z => nomatch z.1)
    obtain ⟨e1, hM⟩ := hq; cases e1
    refine wk_br C d_MD_revoke_18 (P := 1 = 0) (tgt := 23) (rest := []) rfl (by decide) (fun c5 => ?_) (fun c5 => ?_)
    ·
      exact absurd c5 (by decide)
    ·
      refine wk_run C k_MD_revoke_21 (pc2 := 22) (lv2 := [(0, .ref y), (1, .int u), (2, .int b)]) (st2 := [.int 0]) rfl ?_
      exact wk_iret C ⟨1, 0, vc (V) 0 1, by clear C hM hnm; grind [sp_revoke], rfl, hM⟩ (by decide) (by decide) d_MD_revoke_22
theorem k_MD_pass_0 : px_dec prog_9_method_15_code [.aload_n 0, .aload_n 0, .iload_n 1] 0 = true := by decide +kernel
theorem d_MD_pass_3 : decode prog_9_method_15_code 3 = .ok (.invokevirtual 92, 3) := by decide +kernel
theorem d_MD_pass_6 : decode prog_9_method_15_code 6 = .ok (.ifCond .ne 7, 3) := by decide +kernel
theorem k_MD_pass_13 : px_dec prog_9_method_15_code [.iconst 0, .iconst 0] 13 = true := by decide +kernel
theorem d_MD_pass_15 : decode prog_9_method_15_code 15 = .ok (.invokevirtual 88, 3) := by decide +kernel
theorem d_MD_pass_18 : decode prog_9_method_15_code 18 = .ok (.ifCond .eq 5, 3) := by decide +kernel
theorem k_MD_pass_23 : px_dec prog_9_method_15_code [.aload_n 0] 23 = true := by decide +kernel
theorem d_MD_pass_24 : decode prog_9_method_15_code 24 = .ok (.getfield 22, 3) := by decide +kernel
theorem k_MD_pass_27 : px_dec prog_9_method_15_code [.iload_n 1] 27 = true := by decide +kernel
theorem d_MD_pass_28 : decode prog_9_method_15_code 28 = .ok (.baload, 1) := by decide +kernel
theorem d_MD_pass_29 : decode prog_9_method_15_code 29 = .ok (.ifCond .eq 5, 3) := by decide +kernel
theorem k_MD_pass_34 : px_dec prog_9_method_15_code [.aload_n 0] 34 = true := by decide +kernel
theorem d_MD_pass_35 : decode prog_9_method_15_code 35 = .ok (.getfield 19, 3) := by decide +kernel
theorem k_MD_pass_38 : px_dec prog_9_method_15_code [.iload_n 1, .iload_n 2] 38 = true := by decide +kernel
theorem d_MD_pass_40 : decode prog_9_method_15_code 40 = .ok (.ifCond .eq 7, 3) := by decide +kernel
theorem k_MD_pass_47 : px_dec prog_9_method_15_code [.aload_n 0] 47 = true := by decide +kernel
theorem d_MD_pass_48 : decode prog_9_method_15_code 48 = .ok (.getfield 19, 3) := by decide +kernel
theorem k_MD_pass_51 : px_dec prog_9_method_15_code [.iload_n 1] 51 = true := by decide +kernel
theorem d_MD_pass_52 : decode prog_9_method_15_code 52 = .ok (.iaload, 1) := by decide +kernel
theorem k_MD_pass_53 : px_dec prog_9_method_15_code [.iconst 1, .isub] 53 = true := by decide +kernel
theorem d_MD_pass_55 : decode prog_9_method_15_code 55 = .ok (.iastore, 1) := by decide +kernel
theorem k_MD_pass_56 : px_dec prog_9_method_15_code [.aload_n 0] 56 = true := by decide +kernel
theorem d_MD_pass_57 : decode prog_9_method_15_code 57 = .ok (.getfield 22, 3) := by decide +kernel
theorem k_MD_pass_60 : px_dec prog_9_method_15_code [.iload_n 1, .aload_n 0] 60 = true := by decide +kernel
theorem d_MD_pass_62 : decode prog_9_method_15_code 62 = .ok (.getfield 19, 3) := by decide +kernel
theorem k_MD_pass_65 : px_dec prog_9_method_15_code [.iload_n 1] 65 = true := by decide +kernel
theorem d_MD_pass_66 : decode prog_9_method_15_code 66 = .ok (.iaload, 1) := by decide +kernel
theorem d_MD_pass_67 : decode prog_9_method_15_code 67 = .ok (.ifCond .ne 7, 3) := by decide +kernel
theorem k_MD_pass_74 : px_dec prog_9_method_15_code [.iconst 0] 74 = true := by decide +kernel
theorem d_MD_pass_75 : decode prog_9_method_15_code 75 = .ok (.bastore, 1) := by decide +kernel
theorem k_MD_pass_76 : px_dec prog_9_method_15_code [.aload_n 0] 76 = true := by decide +kernel
theorem d_MD_pass_77 : decode prog_9_method_15_code 77 = .ok (.getfield 19, 3) := by decide +kernel
theorem k_MD_pass_80 : px_dec prog_9_method_15_code [.iload_n 1] 80 = true := by decide +kernel
theorem d_MD_pass_81 : decode prog_9_method_15_code 81 = .ok (.iaload, 1) := by decide +kernel
theorem d_MD_pass_82 : decode prog_9_method_15_code 82 = .ok (.ireturn, 1) := by decide +kernel
theorem k_MD_pass_70 : px_dec prog_9_method_15_code [.iconst 1] 70 = true := by decide +kernel
theorem d_MD_pass_71 : decode prog_9_method_15_code 71 = .ok (.goto 4, 3) := by decide +kernel
theorem k_MD_pass_43 : px_dec prog_9_method_15_code [.iconst 3] 43 = true := by decide +kernel
theorem d_MD_pass_44 : decode prog_9_method_15_code 44 = .ok (.goto 11, 3) := by decide +kernel
theorem k_MD_pass_32 : px_dec prog_9_method_15_code [.iconst (-1)] 32 = true := by decide +kernel
theorem d_MD_pass_33 : decode prog_9_method_15_code 33 = .ok (.ireturn, 1) := by decide +kernel
theorem k_MD_pass_9 : px_dec prog_9_method_15_code [.iconst 1] 9 = true := by decide +kernel
theorem d_MD_pass_10 : decode prog_9_method_15_code 10 = .ok (.goto 4, 3) := by decide +kernel
theorem k_MD_pass_14 : px_dec prog_9_method_15_code [.iconst 0] 14 = true := by decide +kernel
theorem k_MD_pass_21 : px_dec prog_9_method_15_code [.iconst 0] 21 = true := by decide +kernel
theorem d_MD_pass_22 : decode prog_9_method_15_code 22 = .ok (.ireturn, 1) := by decide +kernel
set_option maxRecDepth 100000 in
set_option maxHeartbeats 4000000 in
theorem c_MD_pass (l : Launch) (D : va_G) (HB : Heap) (h : hp_T) (h0 : hp_T) (y : Nat) (A : Nat → Nat) (V : vT) (u : Int32) (b : Int32) (hU : ok_ (V 8 0) 40) (hM : mq D h0 h y A V) : ct_M l y_MD_pass (.code y_MD_pass prog_9_method_15_code 3 (Option.some Jvm.ClassFile.FieldType.int)) ({ frames := 1, cells := 0, slots := 0, locals := 30 }) D HB [.ref y, .int u, .int b] h (fun o h2 => ∃ (cd r : Int32) (V2 : vT), sp_pass V u b = (cd, r, V2) ∧ o = .inl (some (.int r)) ∧ mq D h0 h2 y A V2) := by
  refine ct_of (by decide) (Nat.le_of_ble_eq_true rfl) rfl ?_
  intro p_ e_ s_ m_ r_ b_ t_ c_ C hnm
  refine wk_run C k_MD_pass_0 (pc2 := 3) (lv2 := [(0, .ref y), (1, .int u), (2, .int b)]) (st2 := [.int u, .ref y, .ref y]) rfl ?_
  refine wk_callV (cl := ("ProfileRightsModel", T_MD, 27)) (rest := [.ref y]) C (c_MD_isUser l D HB h h0 y A (V) u hM) cs_MD_92 kc_MD_isUser ki_MD hM.ob rfl rfl rfl (Nat.le_of_ble_eq_true rfl) (Nat.le_of_ble_eq_true rfl) (Nat.le_of_ble_eq_true rfl) (Nat.le_of_ble_eq_true rfl) (Nat.le_of_ble_eq_true rfl) d_MD_pass_3 (fun v h2 hq => ?_) (fun _ _ z => nomatch z.1)
  obtain ⟨e1, e2⟩ := hq; cases e1; replace e2 := e2.symm; subst e2
  show Wk _ _ _ _ _ _ _ _ _ _ _ _ _ _ _ _ _ _ _ (.int (if ¬ u < 1 ∧ u ≤ V 8 0 then (1 : Int32) else 0) :: _)
  refine wk_br C d_MD_pass_6 (P := ¬ (if ¬ u < 1 ∧ u ≤ V 8 0 then (1 : Int32) else 0) = 0) (tgt := 13) (rest := [.ref y]) rfl (by decide) (fun c1 => ?_) (fun c1 => ?_)
  ·
    replace c1 := bn_ c1
    refine wk_run C k_MD_pass_13 (pc2 := 15) (lv2 := [(0, .ref y), (1, .int u), (2, .int b)]) (st2 := [.int 0, .int 0, .ref y]) rfl ?_
    refine wk_callV (cl := ("ProfileRightsModel", T_MD, 27)) (rest := []) C (c_MD_f0 l D HB h h0 y A (V) hM) cs_MD_88 kc_MD_fails ki_MD hM.ob rfl rfl rfl (Nat.le_of_ble_eq_true rfl) (Nat.le_of_ble_eq_true rfl) (Nat.le_of_ble_eq_true rfl) (Nat.le_of_ble_eq_true rfl) (Nat.le_of_ble_eq_true rfl) d_MD_pass_15 (fun v h hq => ?_) (fun _ _ z => nomatch z.1)
    obtain ⟨e1, hM⟩ := hq; cases e1
    refine wk_br C d_MD_pass_18 (P := 0 = 0) (tgt := 23) (rest := []) rfl (by decide) (fun c2 => ?_) (fun c2 => ?_)
    ·
      refine wk_run C k_MD_pass_23 (pc2 := 24) (lv2 := [(0, .ref y), (1, .int u), (2, .int b)]) (st2 := [.ref y]) rfl ?_
      refine wk_get (v := .ref (A 5)) C fd_MD_22 hM.ob rfl d_MD_pass_24 ?_
      refine wk_run C k_MD_pass_27 (pc2 := 28) (lv2 := [(0, .ref y), (1, .int u), (2, .int b)]) (st2 := [.int u, .ref (A 5)]) rfl ?_
      refine wm_ldz C hM 5 (j := nu u) rfl (vi_ c1.1 c1.2 hU (by decide) (by decide)) rfl d_MD_pass_28 ?_
      show Wk _ _ _ _ _ _ _ _ _ _ _ _ _ _ _ _ _ _ _ (.int (V 5 (nu u)) :: _)
      refine wk_br C d_MD_pass_29 (P := (V 5 (nu u)) = 0) (tgt := 34) (rest := []) rfl (by decide) (fun c3 => ?_) (fun c3 => ?_)
      ·
        refine wk_run C k_MD_pass_34 (pc2 := 35) (lv2 := [(0, .ref y), (1, .int u), (2, .int b)]) (st2 := [.ref y]) rfl ?_
        refine wk_get (v := .ref (A 4)) C fd_MD_19 hM.ob rfl d_MD_pass_35 ?_
        refine wk_run C k_MD_pass_38 (pc2 := 40) (lv2 := [(0, .ref y), (1, .int u), (2, .int b)]) (st2 := [.int b, .int u, .ref (A 4)]) rfl ?_
        refine wk_br C d_MD_pass_40 (P := b = 0) (tgt := 47) (rest := [.int u, .ref (A 4)]) rfl (by decide) (fun c4 => ?_) (fun c4 => ?_)
        ·
          refine wk_run C k_MD_pass_47 (pc2 := 48) (lv2 := [(0, .ref y), (1, .int u), (2, .int b)]) (st2 := [.ref y, .int u, .ref (A 4)]) rfl ?_
          refine wk_get (v := .ref (A 4)) C fd_MD_19 hM.ob rfl d_MD_pass_48 ?_
          refine wk_run C k_MD_pass_51 (pc2 := 52) (lv2 := [(0, .ref y), (1, .int u), (2, .int b)]) (st2 := [.int u, .ref (A 4), .int u, .ref (A 4)]) rfl ?_
          refine wm_ld C hM 4 (j := nu u) rfl (vi_ c1.1 c1.2 hU (by decide) (by decide)) rfl d_MD_pass_52 ?_
          show Wk _ _ _ _ _ _ _ _ _ _ _ _ _ _ _ _ _ _ _ (.int (V 4 (nu u)) :: _)
          refine wk_run C k_MD_pass_53 (pc2 := 55) (lv2 := [(0, .ref y), (1, .int u), (2, .int b)]) (st2 := [.int ((V 4 (nu u)) - 1), .int u, .ref (A 4)]) rfl ?_
          refine wm_st C hM 4 (j := (nu u)) rfl (vi_ c1.1 c1.2 hU (by decide) (by decide)) rfl d_MD_pass_55 (fun h (hM : mq D h0 h y A (vs (vc (V) 0 0) 4 (upd (V 4) (nu u) ((V 4 (nu u)) - 1)))) => ?_)
          refine wk_run C k_MD_pass_56 (pc2 := 57) (lv2 := [(0, .ref y), (1, .int u), (2, .int b)]) (st2 := [.ref y]) rfl ?_
          refine wk_get (v := .ref (A 5)) C fd_MD_22 hM.ob rfl d_MD_pass_57 ?_
          refine wk_run C k_MD_pass_60 (pc2 := 62) (lv2 := [(0, .ref y), (1, .int u), (2, .int b)]) (st2 := [.ref y, .int u, .ref (A 5)]) rfl ?_
          refine wk_get (v := .ref (A 4)) C fd_MD_19 hM.ob rfl d_MD_pass_62 ?_
          refine wk_run C k_MD_pass_65 (pc2 := 66) (lv2 := [(0, .ref y), (1, .int u), (2, .int b)]) (st2 := [.int u, .ref (A 4), .int u, .ref (A 5)]) rfl ?_
          refine wm_ld C hM 4 (j := nu u) rfl (vi_ c1.1 c1.2 hU (by decide) (by decide)) rfl d_MD_pass_66 ?_
          show Wk _ _ _ _ _ _ _ _ _ _ _ _ _ _ _ _ _ _ _ (.int ((upd (V 4) (nu u) ((V 4 (nu u)) - 1)) (nu u)) :: _)
          refine wk_br C d_MD_pass_67 (P := ¬ ((upd (V 4) (nu u) ((V 4 (nu u)) - 1)) (nu u)) = 0) (tgt := 74) (rest := [.int u, .ref (A 5)]) rfl (by decide) (fun c5 => ?_) (fun c5 => ?_)
          ·
            refine wk_run C k_MD_pass_74 (pc2 := 75) (lv2 := [(0, .ref y), (1, .int u), (2, .int b)]) (st2 := [.int 0, .int u, .ref (A 5)]) rfl ?_
            refine wm_stz C hM 5 (j := (nu u)) rfl (vi_ c1.1 c1.2 hU (by decide) (by decide)) rfl (by rfl) d_MD_pass_75 (fun h (hM : mq D h0 h y A (vs (vs (vc (V) 0 0) 4 (upd (V 4) (nu u) ((V 4 (nu u)) - 1))) 5 (upd (V 5) (nu u) 0))) => ?_)
            refine wk_run C k_MD_pass_76 (pc2 := 77) (lv2 := [(0, .ref y), (1, .int u), (2, .int b)]) (st2 := [.ref y]) rfl ?_
            refine wk_get (v := .ref (A 4)) C fd_MD_19 hM.ob rfl d_MD_pass_77 ?_
            refine wk_run C k_MD_pass_80 (pc2 := 81) (lv2 := [(0, .ref y), (1, .int u), (2, .int b)]) (st2 := [.int u, .ref (A 4)]) rfl ?_
            refine wm_ld C hM 4 (j := nu u) rfl (vi_ c1.1 c1.2 hU (by decide) (by decide)) rfl d_MD_pass_81 ?_
            show Wk _ _ _ _ _ _ _ _ _ _ _ _ _ _ _ _ _ _ _ (.int ((upd (V 4) (nu u) ((V 4 (nu u)) - 1)) (nu u)) :: _)
            exact wk_iret C ⟨0, ((upd (V 4) (nu u) ((V 4 (nu u)) - 1)) (nu u)), vs (vs (vc (V) 0 0) 4 (upd (V 4) (nu u) ((V 4 (nu u)) - 1))) 5 (upd (V 5) (nu u) 0), by clear C hM hnm; grind [sp_pass, upd_s], rfl, hM⟩ (by decide) (by decide) d_MD_pass_82
          ·
            refine wk_run C k_MD_pass_70 (pc2 := 71) (lv2 := [(0, .ref y), (1, .int u), (2, .int b)]) (st2 := [.int 1, .int u, .ref (A 5)]) rfl ?_
            refine wk_goto C d_MD_pass_71 (tgt := 75) (by decide) ?_
            refine wm_stz C hM 5 (j := (nu u)) rfl (vi_ c1.1 c1.2 hU (by decide) (by decide)) rfl (by rfl) d_MD_pass_75 (fun h (hM : mq D h0 h y A (vs (vs (vc (V) 0 0) 4 (upd (V 4) (nu u) ((V 4 (nu u)) - 1))) 5 (upd (V 5) (nu u) 1))) => ?_)
            refine wk_run C k_MD_pass_76 (pc2 := 77) (lv2 := [(0, .ref y), (1, .int u), (2, .int b)]) (st2 := [.ref y]) rfl ?_
            refine wk_get (v := .ref (A 4)) C fd_MD_19 hM.ob rfl d_MD_pass_77 ?_
            refine wk_run C k_MD_pass_80 (pc2 := 81) (lv2 := [(0, .ref y), (1, .int u), (2, .int b)]) (st2 := [.int u, .ref (A 4)]) rfl ?_
            refine wm_ld C hM 4 (j := nu u) rfl (vi_ c1.1 c1.2 hU (by decide) (by decide)) rfl d_MD_pass_81 ?_
            show Wk _ _ _ _ _ _ _ _ _ _ _ _ _ _ _ _ _ _ _ (.int ((upd (V 4) (nu u) ((V 4 (nu u)) - 1)) (nu u)) :: _)
            exact wk_iret C ⟨0, ((upd (V 4) (nu u) ((V 4 (nu u)) - 1)) (nu u)), vs (vs (vc (V) 0 0) 4 (upd (V 4) (nu u) ((V 4 (nu u)) - 1))) 5 (upd (V 5) (nu u) 1), by clear C hM hnm; grind [sp_pass, upd_s], rfl, hM⟩ (by decide) (by decide) d_MD_pass_82
        ·
          refine wk_run C k_MD_pass_43 (pc2 := 44) (lv2 := [(0, .ref y), (1, .int u), (2, .int b)]) (st2 := [.int 3, .int u, .ref (A 4)]) rfl ?_
          refine wk_goto C d_MD_pass_44 (tgt := 55) (by decide) ?_
          refine wm_st C hM 4 (j := (nu u)) rfl (vi_ c1.1 c1.2 hU (by decide) (by decide)) rfl d_MD_pass_55 (fun h (hM : mq D h0 h y A (vs (vc (V) 0 0) 4 (upd (V 4) (nu u) 3))) => ?_)
          refine wk_run C k_MD_pass_56 (pc2 := 57) (lv2 := [(0, .ref y), (1, .int u), (2, .int b)]) (st2 := [.ref y]) rfl ?_
          refine wk_get (v := .ref (A 5)) C fd_MD_22 hM.ob rfl d_MD_pass_57 ?_
          refine wk_run C k_MD_pass_60 (pc2 := 62) (lv2 := [(0, .ref y), (1, .int u), (2, .int b)]) (st2 := [.ref y, .int u, .ref (A 5)]) rfl ?_
          refine wk_get (v := .ref (A 4)) C fd_MD_19 hM.ob rfl d_MD_pass_62 ?_
          refine wk_run C k_MD_pass_65 (pc2 := 66) (lv2 := [(0, .ref y), (1, .int u), (2, .int b)]) (st2 := [.int u, .ref (A 4), .int u, .ref (A 5)]) rfl ?_
          refine wm_ld C hM 4 (j := nu u) rfl (vi_ c1.1 c1.2 hU (by decide) (by decide)) rfl d_MD_pass_66 ?_
          show Wk _ _ _ _ _ _ _ _ _ _ _ _ _ _ _ _ _ _ _ (.int ((upd (V 4) (nu u) 3) (nu u)) :: _)
          refine wk_br C d_MD_pass_67 (P := ¬ ((upd (V 4) (nu u) 3) (nu u)) = 0) (tgt := 74) (rest := [.int u, .ref (A 5)]) rfl (by decide) (fun c6 => ?_) (fun c6 => ?_)
          ·
            refine wk_run C k_MD_pass_74 (pc2 := 75) (lv2 := [(0, .ref y), (1, .int u), (2, .int b)]) (st2 := [.int 0, .int u, .ref (A 5)]) rfl ?_
            refine wm_stz C hM 5 (j := (nu u)) rfl (vi_ c1.1 c1.2 hU (by decide) (by decide)) rfl (by rfl) d_MD_pass_75 (fun h (hM : mq D h0 h y A (vs (vs (vc (V) 0 0) 4 (upd (V 4) (nu u) 3)) 5 (upd (V 5) (nu u) 0))) => ?_)
            refine wk_run C k_MD_pass_76 (pc2 := 77) (lv2 := [(0, .ref y), (1, .int u), (2, .int b)]) (st2 := [.ref y]) rfl ?_
            refine wk_get (v := .ref (A 4)) C fd_MD_19 hM.ob rfl d_MD_pass_77 ?_
            refine wk_run C k_MD_pass_80 (pc2 := 81) (lv2 := [(0, .ref y), (1, .int u), (2, .int b)]) (st2 := [.int u, .ref (A 4)]) rfl ?_
            refine wm_ld C hM 4 (j := nu u) rfl (vi_ c1.1 c1.2 hU (by decide) (by decide)) rfl d_MD_pass_81 ?_
            show Wk _ _ _ _ _ _ _ _ _ _ _ _ _ _ _ _ _ _ _ (.int ((upd (V 4) (nu u) 3) (nu u)) :: _)
            exact wk_iret C ⟨0, ((upd (V 4) (nu u) 3) (nu u)), vs (vs (vc (V) 0 0) 4 (upd (V 4) (nu u) 3)) 5 (upd (V 5) (nu u) 0), by clear C hM hnm; grind [sp_pass, upd_s], rfl, hM⟩ (by decide) (by decide) d_MD_pass_82
          ·
            refine wk_run C k_MD_pass_70 (pc2 := 71) (lv2 := [(0, .ref y), (1, .int u), (2, .int b)]) (st2 := [.int 1, .int u, .ref (A 5)]) rfl ?_
            refine wk_goto C d_MD_pass_71 (tgt := 75) (by decide) ?_
            refine wm_stz C hM 5 (j := (nu u)) rfl (vi_ c1.1 c1.2 hU (by decide) (by decide)) rfl (by rfl) d_MD_pass_75 (fun h (hM : mq D h0 h y A (vs (vs (vc (V) 0 0) 4 (upd (V 4) (nu u) 3)) 5 (upd (V 5) (nu u) 1))) => ?_)
            refine wk_run C k_MD_pass_76 (pc2 := 77) (lv2 := [(0, .ref y), (1, .int u), (2, .int b)]) (st2 := [.ref y]) rfl ?_
            refine wk_get (v := .ref (A 4)) C fd_MD_19 hM.ob rfl d_MD_pass_77 ?_
            refine wk_run C k_MD_pass_80 (pc2 := 81) (lv2 := [(0, .ref y), (1, .int u), (2, .int b)]) (st2 := [.int u, .ref (A 4)]) rfl ?_
            refine wm_ld C hM 4 (j := nu u) rfl (vi_ c1.1 c1.2 hU (by decide) (by decide)) rfl d_MD_pass_81 ?_
            show Wk _ _ _ _ _ _ _ _ _ _ _ _ _ _ _ _ _ _ _ (.int ((upd (V 4) (nu u) 3) (nu u)) :: _)
            exact wk_iret C ⟨0, ((upd (V 4) (nu u) 3) (nu u)), vs (vs (vc (V) 0 0) 4 (upd (V 4) (nu u) 3)) 5 (upd (V 5) (nu u) 1), by clear C hM hnm; grind [sp_pass, upd_s], rfl, hM⟩ (by decide) (by decide) d_MD_pass_82
      ·
        refine wk_run C k_MD_pass_32 (pc2 := 33) (lv2 := [(0, .ref y), (1, .int u), (2, .int b)]) (st2 := [.int (-1)]) rfl ?_
        exact wk_iret C ⟨0, (-1), vc (V) 0 0, by clear C hM hnm; grind [sp_pass, upd_s], rfl, hM⟩ (by decide) (by decide) d_MD_pass_33
    ·
      exact absurd (by decide) c2
  ·
    replace c1 := bz_ (Classical.not_not.mp c1)
    refine wk_run C k_MD_pass_9 (pc2 := 10) (lv2 := [(0, .ref y), (1, .int u), (2, .int b)]) (st2 := [.int 1, .ref y]) rfl ?_
    refine wk_goto C d_MD_pass_10 (tgt := 14) (by decide) ?_
    refine wk_run C k_MD_pass_14 (pc2 := 15) (lv2 := [(0, .ref y), (1, .int u), (2, .int b)]) (st2 := [.int 0, .int 1, .ref y]) rfl ?_
    refine wk_callV (cl := ("ProfileRightsModel", T_MD, 27)) (rest := []) C (c_MD_f1 l D HB h h0 y A (V) hM) cs_MD_88 kc_MD_fails ki_MD hM.ob rfl rfl rfl (Nat.le_of_ble_eq_true rfl) (Nat.le_of_ble_eq_true rfl) (Nat.le_of_ble_eq_true rfl) (Nat.le_of_ble_eq_true rfl) (Nat.le_of_ble_eq_true rfl) d_MD_pass_15 (fun v h hq => ?_) (fun _ _ z => nomatch z.1)
    obtain ⟨e1, hM⟩ := hq; cases e1
    refine wk_br C d_MD_pass_18 (P := 1 = 0) (tgt := 23) (rest := []) rfl (by decide) (fun c7 => ?_) (fun c7 => ?_)
    ·
      exact absurd c7 (by decide)
    ·
      refine wk_run C k_MD_pass_21 (pc2 := 22) (lv2 := [(0, .ref y), (1, .int u), (2, .int b)]) (st2 := [.int 0]) rfl ?_
      exact wk_iret C ⟨1, 0, vc (V) 0 1, by clear C hM hnm; grind [sp_pass, upd_s], rfl, hM⟩ (by decide) (by decide) d_MD_pass_22
theorem k_MD_acts_0 : px_dec prog_9_method_16_code [.aload_n 0, .aload_n 0, .iload_n 1] 0 = true := by decide +kernel
theorem d_MD_acts_3 : decode prog_9_method_16_code 3 = .ok (.invokevirtual 92, 3) := by decide +kernel
theorem d_MD_acts_6 : decode prog_9_method_16_code 6 = .ok (.ifCond .eq 11, 3) := by decide +kernel
theorem k_MD_acts_17 : px_dec prog_9_method_16_code [.iconst 1] 17 = true := by decide +kernel
theorem d_MD_acts_18 : decode prog_9_method_16_code 18 = .ok (.goto 4, 3) := by decide +kernel
theorem k_MD_acts_22 : px_dec prog_9_method_16_code [.iconst 0] 22 = true := by decide +kernel
theorem d_MD_acts_23 : decode prog_9_method_16_code 23 = .ok (.invokevirtual 88, 3) := by decide +kernel
theorem d_MD_acts_26 : decode prog_9_method_16_code 26 = .ok (.ifCond .eq 5, 3) := by decide +kernel
theorem k_MD_acts_29 : px_dec prog_9_method_16_code [.iconst 0] 29 = true := by decide +kernel
theorem d_MD_acts_30 : decode prog_9_method_16_code 30 = .ok (.ireturn, 1) := by decide +kernel
theorem k_MD_acts_9 : px_dec prog_9_method_16_code [.aload_n 0, .iload_n 2] 9 = true := by decide +kernel
theorem d_MD_acts_11 : decode prog_9_method_16_code 11 = .ok (.invokevirtual 92, 3) := by decide +kernel
theorem d_MD_acts_14 : decode prog_9_method_16_code 14 = .ok (.ifCond .ne 7, 3) := by decide +kernel
theorem k_MD_acts_21 : px_dec prog_9_method_16_code [.iconst 0, .iconst 0] 21 = true := by decide +kernel
theorem k_MD_acts_31 : px_dec prog_9_method_16_code [.iload_n 1, .iload_n 2] 31 = true := by decide +kernel
theorem d_MD_acts_33 : decode prog_9_method_16_code 33 = .ok (.if_icmp .eq 17, 3) := by decide +kernel
theorem k_MD_acts_50 : px_dec prog_9_method_16_code [.iconst 1] 50 = true := by decide +kernel
theorem d_MD_acts_51 : decode prog_9_method_16_code 51 = .ok (.goto 4, 3) := by decide +kernel
theorem d_MD_acts_55 : decode prog_9_method_16_code 55 = .ok (.ireturn, 1) := by decide +kernel
theorem k_MD_acts_36 : px_dec prog_9_method_16_code [.aload_n 0] 36 = true := by decide +kernel
theorem d_MD_acts_37 : decode prog_9_method_16_code 37 = .ok (.getfield 26, 3) := by decide +kernel
theorem k_MD_acts_40 : px_dec prog_9_method_16_code [.bipush 41, .iload_n 1, .imul, .iload_n 2, .iadd] 40 = true := by decide +kernel
theorem d_MD_acts_46 : decode prog_9_method_16_code 46 = .ok (.baload, 1) := by decide +kernel
theorem d_MD_acts_47 : decode prog_9_method_16_code 47 = .ok (.ifCond .eq 7, 3) := by decide +kernel
theorem k_MD_acts_54 : px_dec prog_9_method_16_code [.iconst 0] 54 = true := by decide +kernel
set_option maxRecDepth 100000 in
set_option maxHeartbeats 4000000 in
theorem c_MD_acts (l : Launch) (D : va_G) (HB : Heap) (h : hp_T) (h0 : hp_T) (y : Nat) (A : Nat → Nat) (V : vT) (u : Int32) (w : Int32) (hU : ok_ (V 8 0) 40) (hM : mq D h0 h y A V) : ct_M l y_MD_acts (.code y_MD_acts prog_9_method_16_code 3 (Option.some Jvm.ClassFile.FieldType.boolean)) ({ frames := 1, cells := 0, slots := 0, locals := 30 }) D HB [.ref y, .int u, .int w] h (fun o h2 => ∃ (cd r : Int32) (V2 : vT), sp_acts V u w = (cd, r, V2) ∧ o = .inl (some (.int r)) ∧ mq D h0 h2 y A V2) := by
  refine ct_of (by decide) (Nat.le_of_ble_eq_true rfl) rfl ?_
  intro p_ e_ s_ m_ r_ b_ t_ c_ C hnm
  refine wk_run C k_MD_acts_0 (pc2 := 3) (lv2 := [(0, .ref y), (1, .int u), (2, .int w)]) (st2 := [.int u, .ref y, .ref y]) rfl ?_
  refine wk_callV (cl := ("ProfileRightsModel", T_MD, 27)) (rest := [.ref y]) C (c_MD_isUser l D HB h h0 y A (V) u hM) cs_MD_92 kc_MD_isUser ki_MD hM.ob rfl rfl rfl (Nat.le_of_ble_eq_true rfl) (Nat.le_of_ble_eq_true rfl) (Nat.le_of_ble_eq_true rfl) (Nat.le_of_ble_eq_true rfl) (Nat.le_of_ble_eq_true rfl) d_MD_acts_3 (fun v h2 hq => ?_) (fun _ _ z => nomatch z.1)
  obtain ⟨e1, e2⟩ := hq; cases e1; replace e2 := e2.symm; subst e2
  show Wk _ _ _ _ _ _ _ _ _ _ _ _ _ _ _ _ _ _ _ (.int (if ¬ u < 1 ∧ u ≤ V 8 0 then (1 : Int32) else 0) :: _)
  refine wk_br C d_MD_acts_6 (P := (if ¬ u < 1 ∧ u ≤ V 8 0 then (1 : Int32) else 0) = 0) (tgt := 17) (rest := [.ref y]) rfl (by decide) (fun c1 => ?_) (fun c1 => ?_)
  ·
    replace c1 := bz_ c1
    refine wk_run C k_MD_acts_17 (pc2 := 18) (lv2 := [(0, .ref y), (1, .int u), (2, .int w)]) (st2 := [.int 1, .ref y]) rfl ?_
    refine wk_goto C d_MD_acts_18 (tgt := 22) (by decide) ?_
    refine wk_run C k_MD_acts_22 (pc2 := 23) (lv2 := [(0, .ref y), (1, .int u), (2, .int w)]) (st2 := [.int 0, .int 1, .ref y]) rfl ?_
    refine wk_callV (cl := ("ProfileRightsModel", T_MD, 27)) (rest := []) C (c_MD_f1 l D HB h h0 y A (V) hM) cs_MD_88 kc_MD_fails ki_MD hM.ob rfl rfl rfl (Nat.le_of_ble_eq_true rfl) (Nat.le_of_ble_eq_true rfl) (Nat.le_of_ble_eq_true rfl) (Nat.le_of_ble_eq_true rfl) (Nat.le_of_ble_eq_true rfl) d_MD_acts_23 (fun v h hq => ?_) (fun _ _ z => nomatch z.1)
    obtain ⟨e1, hM⟩ := hq; cases e1
    refine wk_br C d_MD_acts_26 (P := 1 = 0) (tgt := 31) (rest := []) rfl (by decide) (fun c2 => ?_) (fun c2 => ?_)
    ·
      exact absurd c2 (by decide)
    ·
      refine wk_run C k_MD_acts_29 (pc2 := 30) (lv2 := [(0, .ref y), (1, .int u), (2, .int w)]) (st2 := [.int 0]) rfl ?_
      exact wk_zret C rfl ⟨1, 0, vc (V) 0 1, by clear C hM hnm; grind [sp_acts], rfl, hM⟩ (by decide) (by decide) d_MD_acts_30
  ·
    replace c1 := bn_ c1
    refine wk_run C k_MD_acts_9 (pc2 := 11) (lv2 := [(0, .ref y), (1, .int u), (2, .int w)]) (st2 := [.int w, .ref y, .ref y]) rfl ?_
    refine wk_callV (cl := ("ProfileRightsModel", T_MD, 27)) (rest := [.ref y]) C (c_MD_isUser l D HB h h0 y A (V) w hM) cs_MD_92 kc_MD_isUser ki_MD hM.ob rfl rfl rfl (Nat.le_of_ble_eq_true rfl) (Nat.le_of_ble_eq_true rfl) (Nat.le_of_ble_eq_true rfl) (Nat.le_of_ble_eq_true rfl) (Nat.le_of_ble_eq_true rfl) d_MD_acts_11 (fun v h2 hq => ?_) (fun _ _ z => nomatch z.1)
    obtain ⟨e1, e2⟩ := hq; cases e1; replace e2 := e2.symm; subst e2
    show Wk _ _ _ _ _ _ _ _ _ _ _ _ _ _ _ _ _ _ _ (.int (if ¬ w < 1 ∧ w ≤ V 8 0 then (1 : Int32) else 0) :: _)
    refine wk_br C d_MD_acts_14 (P := ¬ (if ¬ w < 1 ∧ w ≤ V 8 0 then (1 : Int32) else 0) = 0) (tgt := 21) (rest := [.ref y]) rfl (by decide) (fun c3 => ?_) (fun c3 => ?_)
    ·
      replace c3 := bn_ c3
      refine wk_run C k_MD_acts_21 (pc2 := 23) (lv2 := [(0, .ref y), (1, .int u), (2, .int w)]) (st2 := [.int 0, .int 0, .ref y]) rfl ?_
      refine wk_callV (cl := ("ProfileRightsModel", T_MD, 27)) (rest := []) C (c_MD_f0 l D HB h h0 y A (V) hM) cs_MD_88 kc_MD_fails ki_MD hM.ob rfl rfl rfl (Nat.le_of_ble_eq_true rfl) (Nat.le_of_ble_eq_true rfl) (Nat.le_of_ble_eq_true rfl) (Nat.le_of_ble_eq_true rfl) (Nat.le_of_ble_eq_true rfl) d_MD_acts_23 (fun v h hq => ?_) (fun _ _ z => nomatch z.1)
      obtain ⟨e1, hM⟩ := hq; cases e1
      refine wk_br C d_MD_acts_26 (P := 0 = 0) (tgt := 31) (rest := []) rfl (by decide) (fun c4 => ?_) (fun c4 => ?_)
      ·
        refine wk_run C k_MD_acts_31 (pc2 := 33) (lv2 := [(0, .ref y), (1, .int u), (2, .int w)]) (st2 := [.int w, .int u]) rfl ?_
        refine wk_br C d_MD_acts_33 (P := u = w) (tgt := 50) (rest := []) rfl (by decide) (fun c5 => ?_) (fun c5 => ?_)
        ·
          refine wk_run C k_MD_acts_50 (pc2 := 51) (lv2 := [(0, .ref y), (1, .int u), (2, .int w)]) (st2 := [.int 1]) rfl ?_
          refine wk_goto C d_MD_acts_51 (tgt := 55) (by decide) ?_
          exact wk_zret C rfl ⟨0, 1, vc (V) 0 0, by clear C hM hnm; grind [sp_acts], rfl, hM⟩ (by decide) (by decide) d_MD_acts_55
        ·
          refine wk_run C k_MD_acts_36 (pc2 := 37) (lv2 := [(0, .ref y), (1, .int u), (2, .int w)]) (st2 := [.ref y]) rfl ?_
          refine wk_get (v := .ref (A 6)) C fd_MD_26 hM.ob rfl d_MD_acts_37 ?_
          refine wk_run C k_MD_acts_40 (pc2 := 46) (lv2 := [(0, .ref y), (1, .int u), (2, .int w)]) (st2 := [.int ((41 * u) + w), .ref (A 6)]) rfl ?_
          refine wm_ldz C hM 6 (j := 41 * nu u + nu w) rfl (nx_ (k := 41) (m := 40) (n := 40) (N := 1681) (ok_r c1.1 c1.2 hU (by decide)) (ok_r c3.1 c3.2 hU (by decide)) (by decide) (by decide)).1 (nx_ (k := 41) (m := 40) (n := 40) (N := 1681) (ok_r c1.1 c1.2 hU (by decide)) (ok_r c3.1 c3.2 hU (by decide)) (by decide) (by decide)).2 d_MD_acts_46 ?_
          show Wk _ _ _ _ _ _ _ _ _ _ _ _ _ _ _ _ _ _ _ (.int (V 6 (41 * nu u + nu w)) :: _)
          refine wk_br C d_MD_acts_47 (P := (V 6 (41 * nu u + nu w)) = 0) (tgt := 54) (rest := []) rfl (by decide) (fun c6 => ?_) (fun c6 => ?_)
          ·
            refine wk_run C k_MD_acts_54 (pc2 := 55) (lv2 := [(0, .ref y), (1, .int u), (2, .int w)]) (st2 := [.int 0]) rfl ?_
            exact wk_zret C rfl ⟨0, 0, vc (V) 0 0, by clear C hM hnm; grind [sp_acts], rfl, hM⟩ (by decide) (by decide) d_MD_acts_55
          ·
            refine wk_run C k_MD_acts_50 (pc2 := 51) (lv2 := [(0, .ref y), (1, .int u), (2, .int w)]) (st2 := [.int 1]) rfl ?_
            refine wk_goto C d_MD_acts_51 (tgt := 55) (by decide) ?_
            exact wk_zret C rfl ⟨0, 1, vc (V) 0 0, by clear C hM hnm; grind [sp_acts], rfl, hM⟩ (by decide) (by decide) d_MD_acts_55
      ·
        exact absurd (by decide) c4
    ·
      replace c3 := bz_ (Classical.not_not.mp c3)
      refine wk_run C k_MD_acts_17 (pc2 := 18) (lv2 := [(0, .ref y), (1, .int u), (2, .int w)]) (st2 := [.int 1, .ref y]) rfl ?_
      refine wk_goto C d_MD_acts_18 (tgt := 22) (by decide) ?_
      refine wk_run C k_MD_acts_22 (pc2 := 23) (lv2 := [(0, .ref y), (1, .int u), (2, .int w)]) (st2 := [.int 0, .int 1, .ref y]) rfl ?_
      refine wk_callV (cl := ("ProfileRightsModel", T_MD, 27)) (rest := []) C (c_MD_f1 l D HB h h0 y A (V) hM) cs_MD_88 kc_MD_fails ki_MD hM.ob rfl rfl rfl (Nat.le_of_ble_eq_true rfl) (Nat.le_of_ble_eq_true rfl) (Nat.le_of_ble_eq_true rfl) (Nat.le_of_ble_eq_true rfl) (Nat.le_of_ble_eq_true rfl) d_MD_acts_23 (fun v h hq => ?_) (fun _ _ z => nomatch z.1)
      obtain ⟨e1, hM⟩ := hq; cases e1
      refine wk_br C d_MD_acts_26 (P := 1 = 0) (tgt := 31) (rest := []) rfl (by decide) (fun c7 => ?_) (fun c7 => ?_)
      ·
        exact absurd c7 (by decide)
      ·
        refine wk_run C k_MD_acts_29 (pc2 := 30) (lv2 := [(0, .ref y), (1, .int u), (2, .int w)]) (st2 := [.int 0]) rfl ?_
        exact wk_zret C rfl ⟨1, 0, vc (V) 0 1, by clear C hM hnm; grind [sp_acts], rfl, hM⟩ (by decide) (by decide) d_MD_acts_30
theorem k_MD_surrogate_0 : px_dec prog_9_method_17_code [.aload_n 0, .aload_n 0, .iload_n 1] 0 = true := by decide +kernel
theorem d_MD_surrogate_3 : decode prog_9_method_17_code 3 = .ok (.invokevirtual 92, 3) := by decide +kernel
theorem d_MD_surrogate_6 : decode prog_9_method_17_code 6 = .ok (.ifCond .eq 11, 3) := by decide +kernel
theorem k_MD_surrogate_17 : px_dec prog_9_method_17_code [.iconst 1] 17 = true := by decide +kernel
theorem d_MD_surrogate_18 : decode prog_9_method_17_code 18 = .ok (.goto 4, 3) := by decide +kernel
theorem k_MD_surrogate_22 : px_dec prog_9_method_17_code [.iconst 0] 22 = true := by decide +kernel
theorem d_MD_surrogate_23 : decode prog_9_method_17_code 23 = .ok (.invokevirtual 88, 3) := by decide +kernel
theorem d_MD_surrogate_26 : decode prog_9_method_17_code 26 = .ok (.ifCond .eq 5, 3) := by decide +kernel
theorem k_MD_surrogate_29 : px_dec prog_9_method_17_code [.iconst 0] 29 = true := by decide +kernel
theorem d_MD_surrogate_30 : decode prog_9_method_17_code 30 = .ok (.ireturn, 1) := by decide +kernel
theorem k_MD_surrogate_9 : px_dec prog_9_method_17_code [.aload_n 0, .iload_n 2] 9 = true := by decide +kernel
theorem d_MD_surrogate_11 : decode prog_9_method_17_code 11 = .ok (.invokevirtual 92, 3) := by decide +kernel
theorem d_MD_surrogate_14 : decode prog_9_method_17_code 14 = .ok (.ifCond .ne 7, 3) := by decide +kernel
theorem k_MD_surrogate_21 : px_dec prog_9_method_17_code [.iconst 0, .iconst 0] 21 = true := by decide +kernel
theorem k_MD_surrogate_31 : px_dec prog_9_method_17_code [.iload_n 1, .iload_n 2] 31 = true := by decide +kernel
theorem d_MD_surrogate_33 : decode prog_9_method_17_code 33 = .ok (.if_icmp .eq 18, 3) := by decide +kernel
theorem k_MD_surrogate_51 : px_dec prog_9_method_17_code [.iconst 0] 51 = true := by decide +kernel
theorem d_MD_surrogate_52 : decode prog_9_method_17_code 52 = .ok (.ireturn, 1) := by decide +kernel
theorem k_MD_surrogate_36 : px_dec prog_9_method_17_code [.aload_n 0] 36 = true := by decide +kernel
theorem d_MD_surrogate_37 : decode prog_9_method_17_code 37 = .ok (.getfield 26, 3) := by decide +kernel
theorem k_MD_surrogate_40 : px_dec prog_9_method_17_code [.bipush 41, .iload_n 1, .imul, .iload_n 2, .iadd] 40 = true := by decide +kernel
theorem d_MD_surrogate_46 : decode prog_9_method_17_code 46 = .ok (.baload, 1) := by decide +kernel
theorem k_MD_surrogate_47 : px_dec prog_9_method_17_code [.iload_n 3] 47 = true := by decide +kernel
theorem d_MD_surrogate_48 : decode prog_9_method_17_code 48 = .ok (.if_icmp .ne 5, 3) := by decide +kernel
theorem k_MD_surrogate_53 : px_dec prog_9_method_17_code [.aload_n 0] 53 = true := by decide +kernel
theorem d_MD_surrogate_54 : decode prog_9_method_17_code 54 = .ok (.getfield 26, 3) := by decide +kernel
theorem k_MD_surrogate_57 : px_dec prog_9_method_17_code [.bipush 41, .iload_n 1, .imul, .iload_n 2, .iadd, .iload_n 3] 57 = true := by decide +kernel
theorem d_MD_surrogate_64 : decode prog_9_method_17_code 64 = .ok (.bastore, 1) := by decide +kernel
theorem k_MD_surrogate_65 : px_dec prog_9_method_17_code [.iconst 1] 65 = true := by decide +kernel
theorem d_MD_surrogate_66 : decode prog_9_method_17_code 66 = .ok (.ireturn, 1) := by decide +kernel
set_option maxRecDepth 100000 in
set_option maxHeartbeats 4000000 in
theorem c_MD_surrogate (l : Launch) (D : va_G) (HB : Heap) (h : hp_T) (h0 : hp_T) (y : Nat) (A : Nat → Nat) (V : vT) (u : Int32) (w : Int32) (b : Int32) (hU : ok_ (V 8 0) 40) (hb : b = 0 ∨ b = 1) (hM : mq D h0 h y A V) : ct_M l y_MD_surrogate (.code y_MD_surrogate prog_9_method_17_code 4 (Option.some Jvm.ClassFile.FieldType.int)) ({ frames := 1, cells := 0, slots := 0, locals := 30 }) D HB [.ref y, .int u, .int w, .int b] h (fun o h2 => ∃ (cd r : Int32) (V2 : vT), sp_surrogate V u w b = (cd, r, V2) ∧ o = .inl (some (.int r)) ∧ mq D h0 h2 y A V2) := by
  refine ct_of (by decide) (Nat.le_of_ble_eq_true rfl) rfl ?_
  intro p_ e_ s_ m_ r_ b_ t_ c_ C hnm
  refine wk_run C k_MD_surrogate_0 (pc2 := 3) (lv2 := [(0, .ref y), (1, .int u), (2, .int w), (3, .int b)]) (st2 := [.int u, .ref y, .ref y]) rfl ?_
  refine wk_callV (cl := ("ProfileRightsModel", T_MD, 27)) (rest := [.ref y]) C (c_MD_isUser l D HB h h0 y A (V) u hM) cs_MD_92 kc_MD_isUser ki_MD hM.ob rfl rfl rfl (Nat.le_of_ble_eq_true rfl) (Nat.le_of_ble_eq_true rfl) (Nat.le_of_ble_eq_true rfl) (Nat.le_of_ble_eq_true rfl) (Nat.le_of_ble_eq_true rfl) d_MD_surrogate_3 (fun v h2 hq => ?_) (fun _ _ z => nomatch z.1)
  obtain ⟨e1, e2⟩ := hq; cases e1; replace e2 := e2.symm; subst e2
  show Wk _ _ _ _ _ _ _ _ _ _ _ _ _ _ _ _ _ _ _ (.int (if ¬ u < 1 ∧ u ≤ V 8 0 then (1 : Int32) else 0) :: _)
  refine wk_br C d_MD_surrogate_6 (P := (if ¬ u < 1 ∧ u ≤ V 8 0 then (1 : Int32) else 0) = 0) (tgt := 17) (rest := [.ref y]) rfl (by decide) (fun c1 => ?_) (fun c1 => ?_)
  ·
    replace c1 := bz_ c1
    refine wk_run C k_MD_surrogate_17 (pc2 := 18) (lv2 := [(0, .ref y), (1, .int u), (2, .int w), (3, .int b)]) (st2 := [.int 1, .ref y]) rfl ?_
    refine wk_goto C d_MD_surrogate_18 (tgt := 22) (by decide) ?_
    refine wk_run C k_MD_surrogate_22 (pc2 := 23) (lv2 := [(0, .ref y), (1, .int u), (2, .int w), (3, .int b)]) (st2 := [.int 0, .int 1, .ref y]) rfl ?_
    refine wk_callV (cl := ("ProfileRightsModel", T_MD, 27)) (rest := []) C (c_MD_f1 l D HB h h0 y A (V) hM) cs_MD_88 kc_MD_fails ki_MD hM.ob rfl rfl rfl (Nat.le_of_ble_eq_true rfl) (Nat.le_of_ble_eq_true rfl) (Nat.le_of_ble_eq_true rfl) (Nat.le_of_ble_eq_true rfl) (Nat.le_of_ble_eq_true rfl) d_MD_surrogate_23 (fun v h hq => ?_) (fun _ _ z => nomatch z.1)
    obtain ⟨e1, hM⟩ := hq; cases e1
    refine wk_br C d_MD_surrogate_26 (P := 1 = 0) (tgt := 31) (rest := []) rfl (by decide) (fun c2 => ?_) (fun c2 => ?_)
    ·
      exact absurd c2 (by decide)
    ·
      refine wk_run C k_MD_surrogate_29 (pc2 := 30) (lv2 := [(0, .ref y), (1, .int u), (2, .int w), (3, .int b)]) (st2 := [.int 0]) rfl ?_
      exact wk_iret C ⟨1, 0, vc (V) 0 1, by clear C hM hnm; grind [sp_surrogate], rfl, hM⟩ (by decide) (by decide) d_MD_surrogate_30
  ·
    replace c1 := bn_ c1
    refine wk_run C k_MD_surrogate_9 (pc2 := 11) (lv2 := [(0, .ref y), (1, .int u), (2, .int w), (3, .int b)]) (st2 := [.int w, .ref y, .ref y]) rfl ?_
    refine wk_callV (cl := ("ProfileRightsModel", T_MD, 27)) (rest := [.ref y]) C (c_MD_isUser l D HB h h0 y A (V) w hM) cs_MD_92 kc_MD_isUser ki_MD hM.ob rfl rfl rfl (Nat.le_of_ble_eq_true rfl) (Nat.le_of_ble_eq_true rfl) (Nat.le_of_ble_eq_true rfl) (Nat.le_of_ble_eq_true rfl) (Nat.le_of_ble_eq_true rfl) d_MD_surrogate_11 (fun v h2 hq => ?_) (fun _ _ z => nomatch z.1)
    obtain ⟨e1, e2⟩ := hq; cases e1; replace e2 := e2.symm; subst e2
    show Wk _ _ _ _ _ _ _ _ _ _ _ _ _ _ _ _ _ _ _ (.int (if ¬ w < 1 ∧ w ≤ V 8 0 then (1 : Int32) else 0) :: _)
    refine wk_br C d_MD_surrogate_14 (P := ¬ (if ¬ w < 1 ∧ w ≤ V 8 0 then (1 : Int32) else 0) = 0) (tgt := 21) (rest := [.ref y]) rfl (by decide) (fun c3 => ?_) (fun c3 => ?_)
    ·
      replace c3 := bn_ c3
      refine wk_run C k_MD_surrogate_21 (pc2 := 23) (lv2 := [(0, .ref y), (1, .int u), (2, .int w), (3, .int b)]) (st2 := [.int 0, .int 0, .ref y]) rfl ?_
      refine wk_callV (cl := ("ProfileRightsModel", T_MD, 27)) (rest := []) C (c_MD_f0 l D HB h h0 y A (V) hM) cs_MD_88 kc_MD_fails ki_MD hM.ob rfl rfl rfl (Nat.le_of_ble_eq_true rfl) (Nat.le_of_ble_eq_true rfl) (Nat.le_of_ble_eq_true rfl) (Nat.le_of_ble_eq_true rfl) (Nat.le_of_ble_eq_true rfl) d_MD_surrogate_23 (fun v h hq => ?_) (fun _ _ z => nomatch z.1)
      obtain ⟨e1, hM⟩ := hq; cases e1
      refine wk_br C d_MD_surrogate_26 (P := 0 = 0) (tgt := 31) (rest := []) rfl (by decide) (fun c4 => ?_) (fun c4 => ?_)
      ·
        refine wk_run C k_MD_surrogate_31 (pc2 := 33) (lv2 := [(0, .ref y), (1, .int u), (2, .int w), (3, .int b)]) (st2 := [.int w, .int u]) rfl ?_
        refine wk_br C d_MD_surrogate_33 (P := u = w) (tgt := 51) (rest := []) rfl (by decide) (fun c5 => ?_) (fun c5 => ?_)
        ·
          refine wk_run C k_MD_surrogate_51 (pc2 := 52) (lv2 := [(0, .ref y), (1, .int u), (2, .int w), (3, .int b)]) (st2 := [.int 0]) rfl ?_
          exact wk_iret C ⟨0, 0, vc (V) 0 0, by clear C hM hnm; grind [sp_surrogate], rfl, hM⟩ (by decide) (by decide) d_MD_surrogate_52
        ·
          refine wk_run C k_MD_surrogate_36 (pc2 := 37) (lv2 := [(0, .ref y), (1, .int u), (2, .int w), (3, .int b)]) (st2 := [.ref y]) rfl ?_
          refine wk_get (v := .ref (A 6)) C fd_MD_26 hM.ob rfl d_MD_surrogate_37 ?_
          refine wk_run C k_MD_surrogate_40 (pc2 := 46) (lv2 := [(0, .ref y), (1, .int u), (2, .int w), (3, .int b)]) (st2 := [.int ((41 * u) + w), .ref (A 6)]) rfl ?_
          refine wm_ldz C hM 6 (j := 41 * nu u + nu w) rfl (nx_ (k := 41) (m := 40) (n := 40) (N := 1681) (ok_r c1.1 c1.2 hU (by decide)) (ok_r c3.1 c3.2 hU (by decide)) (by decide) (by decide)).1 (nx_ (k := 41) (m := 40) (n := 40) (N := 1681) (ok_r c1.1 c1.2 hU (by decide)) (ok_r c3.1 c3.2 hU (by decide)) (by decide) (by decide)).2 d_MD_surrogate_46 ?_
          show Wk _ _ _ _ _ _ _ _ _ _ _ _ _ _ _ _ _ _ _ (.int (V 6 (41 * nu u + nu w)) :: _)
          refine wk_run C k_MD_surrogate_47 (pc2 := 48) (lv2 := [(0, .ref y), (1, .int u), (2, .int w), (3, .int b)]) (st2 := [.int b, .int (V 6 (41 * nu u + nu w))]) rfl ?_
          refine wk_br C d_MD_surrogate_48 (P := ¬ (V 6 (41 * nu u + nu w)) = b) (tgt := 53) (rest := []) rfl (by decide) (fun c6 => ?_) (fun c6 => ?_)
          ·
            refine wk_run C k_MD_surrogate_53 (pc2 := 54) (lv2 := [(0, .ref y), (1, .int u), (2, .int w), (3, .int b)]) (st2 := [.ref y]) rfl ?_
            refine wk_get (v := .ref (A 6)) C fd_MD_26 hM.ob rfl d_MD_surrogate_54 ?_
            refine wk_run C k_MD_surrogate_57 (pc2 := 64) (lv2 := [(0, .ref y), (1, .int u), (2, .int w), (3, .int b)]) (st2 := [.int b, .int ((41 * u) + w), .ref (A 6)]) rfl ?_
            refine wm_stz C hM 6 (j := (41 * nu u + nu w)) rfl (nx_ (k := 41) (m := 40) (n := 40) (N := 1681) (ok_r c1.1 c1.2 hU (by decide)) (ok_r c3.1 c3.2 hU (by decide)) (by decide) (by decide)).1 (nx_ (k := 41) (m := 40) (n := 40) (N := 1681) (ok_r c1.1 c1.2 hU (by decide)) (ok_r c3.1 c3.2 hU (by decide)) (by decide) (by decide)).2 (vn_z hb) d_MD_surrogate_64 (fun h (hM : mq D h0 h y A (vs (vc (V) 0 0) 6 (upd (V 6) (41 * nu u + nu w) b))) => ?_)
            refine wk_run C k_MD_surrogate_65 (pc2 := 66) (lv2 := [(0, .ref y), (1, .int u), (2, .int w), (3, .int b)]) (st2 := [.int 1]) rfl ?_
            exact wk_iret C ⟨0, 1, vs (vc (V) 0 0) 6 (upd (V 6) (41 * nu u + nu w) b), by clear C hM hnm; grind [sp_surrogate], rfl, hM⟩ (by decide) (by decide) d_MD_surrogate_66
          ·
            refine wk_run C k_MD_surrogate_51 (pc2 := 52) (lv2 := [(0, .ref y), (1, .int u), (2, .int w), (3, .int b)]) (st2 := [.int 0]) rfl ?_
            exact wk_iret C ⟨0, 0, vc (V) 0 0, by clear C hM hnm; grind [sp_surrogate], rfl, hM⟩ (by decide) (by decide) d_MD_surrogate_52
      ·
        exact absurd (by decide) c4
    ·
      replace c3 := bz_ (Classical.not_not.mp c3)
      refine wk_run C k_MD_surrogate_17 (pc2 := 18) (lv2 := [(0, .ref y), (1, .int u), (2, .int w), (3, .int b)]) (st2 := [.int 1, .ref y]) rfl ?_
      refine wk_goto C d_MD_surrogate_18 (tgt := 22) (by decide) ?_
      refine wk_run C k_MD_surrogate_22 (pc2 := 23) (lv2 := [(0, .ref y), (1, .int u), (2, .int w), (3, .int b)]) (st2 := [.int 0, .int 1, .ref y]) rfl ?_
      refine wk_callV (cl := ("ProfileRightsModel", T_MD, 27)) (rest := []) C (c_MD_f1 l D HB h h0 y A (V) hM) cs_MD_88 kc_MD_fails ki_MD hM.ob rfl rfl rfl (Nat.le_of_ble_eq_true rfl) (Nat.le_of_ble_eq_true rfl) (Nat.le_of_ble_eq_true rfl) (Nat.le_of_ble_eq_true rfl) (Nat.le_of_ble_eq_true rfl) d_MD_surrogate_23 (fun v h hq => ?_) (fun _ _ z => nomatch z.1)
      obtain ⟨e1, hM⟩ := hq; cases e1
      refine wk_br C d_MD_surrogate_26 (P := 1 = 0) (tgt := 31) (rest := []) rfl (by decide) (fun c7 => ?_) (fun c7 => ?_)
      ·
        exact absurd c7 (by decide)
      ·
        refine wk_run C k_MD_surrogate_29 (pc2 := 30) (lv2 := [(0, .ref y), (1, .int u), (2, .int w), (3, .int b)]) (st2 := [.int 0]) rfl ?_
        exact wk_iret C ⟨1, 0, vc (V) 0 1, by clear C hM hnm; grind [sp_surrogate], rfl, hM⟩ (by decide) (by decide) d_MD_surrogate_30
theorem k_MD_name_0 : px_dec prog_9_method_20_code [.aload_n 0, .iload_n 1] 0 = true := by decide +kernel
theorem d_MD_name_2 : decode prog_9_method_20_code 2 = .ok (.invokevirtual 101, 3) := by decide +kernel
theorem d_MD_name_5 : decode prog_9_method_20_code 5 = .ok (.ifCond .eq 10, 3) := by decide +kernel
theorem k_MD_name_15 : px_dec prog_9_method_20_code [.iconst 1] 15 = true := by decide +kernel
theorem d_MD_name_16 : decode prog_9_method_20_code 16 = .ok (.goto 4, 3) := by decide +kernel
theorem k_MD_name_20 : px_dec prog_9_method_20_code [.istore_n 3, .aload_n 0, .iload_n 3, .iload_n 3] 20 = true := by decide +kernel
theorem d_MD_name_24 : decode prog_9_method_20_code 24 = .ok (.ifCond .ne 18, 3) := by decide +kernel
theorem k_MD_name_42 : px_dec prog_9_method_20_code [.iconst 0] 42 = true := by decide +kernel
theorem d_MD_name_43 : decode prog_9_method_20_code 43 = .ok (.invokevirtual 88, 3) := by decide +kernel
theorem d_MD_name_46 : decode prog_9_method_20_code 46 = .ok (.ifCond .eq 5, 3) := by decide +kernel
theorem k_MD_name_49 : px_dec prog_9_method_20_code [.iconst 0] 49 = true := by decide +kernel
theorem d_MD_name_50 : decode prog_9_method_20_code 50 = .ok (.ireturn, 1) := by decide +kernel
theorem k_MD_name_8 : px_dec prog_9_method_20_code [.iload_n 2] 8 = true := by decide +kernel
theorem d_MD_name_9 : decode prog_9_method_20_code 9 = .ok (.invokestatic 104, 3) := by decide +kernel
theorem d_MD_name_12 : decode prog_9_method_20_code 12 = .ok (.ifCond .ne 7, 3) := by decide +kernel
theorem k_MD_name_19 : px_dec prog_9_method_20_code [.iconst 0, .istore_n 3, .aload_n 0, .iload_n 3, .iload_n 3] 19 = true := by decide +kernel
theorem k_MD_name_27 : px_dec prog_9_method_20_code [.aload_n 0] 27 = true := by decide +kernel
theorem d_MD_name_28 : decode prog_9_method_20_code 28 = .ok (.getfield 38, 3) := by decide +kernel
theorem k_MD_name_31 : px_dec prog_9_method_20_code [.iload_n 1] 31 = true := by decide +kernel
theorem d_MD_name_32 : decode prog_9_method_20_code 32 = .ok (.iaload, 1) := by decide +kernel
theorem k_MD_name_33 : px_dec prog_9_method_20_code [.bipush 20] 33 = true := by decide +kernel
theorem d_MD_name_35 : decode prog_9_method_20_code 35 = .ok (.if_icmp .ne 7, 3) := by decide +kernel
theorem k_MD_name_51 : px_dec prog_9_method_20_code [.aload_n 0] 51 = true := by decide +kernel
theorem d_MD_name_52 : decode prog_9_method_20_code 52 = .ok (.getfield 35, 3) := by decide +kernel
theorem k_MD_name_55 : px_dec prog_9_method_20_code [.bipush 20, .iload_n 1, .imul, .aload_n 0] 55 = true := by decide +kernel
theorem d_MD_name_60 : decode prog_9_method_20_code 60 = .ok (.getfield 38, 3) := by decide +kernel
theorem k_MD_name_63 : px_dec prog_9_method_20_code [.iload_n 1] 63 = true := by decide +kernel
theorem d_MD_name_64 : decode prog_9_method_20_code 64 = .ok (.iaload, 1) := by decide +kernel
theorem k_MD_name_65 : px_dec prog_9_method_20_code [.iadd, .iload_n 2] 65 = true := by decide +kernel
theorem d_MD_name_67 : decode prog_9_method_20_code 67 = .ok (.iastore, 1) := by decide +kernel
theorem k_MD_name_68 : px_dec prog_9_method_20_code [.aload_n 0] 68 = true := by decide +kernel
theorem d_MD_name_69 : decode prog_9_method_20_code 69 = .ok (.getfield 38, 3) := by decide +kernel
theorem k_MD_name_72 : px_dec prog_9_method_20_code [.iload_n 1, .dup2] 72 = true := by decide +kernel
theorem d_MD_name_74 : decode prog_9_method_20_code 74 = .ok (.iaload, 1) := by decide +kernel
theorem k_MD_name_75 : px_dec prog_9_method_20_code [.iconst 1, .iadd] 75 = true := by decide +kernel
theorem d_MD_name_77 : decode prog_9_method_20_code 77 = .ok (.iastore, 1) := by decide +kernel
theorem k_MD_name_78 : px_dec prog_9_method_20_code [.aload_n 0] 78 = true := by decide +kernel
theorem d_MD_name_79 : decode prog_9_method_20_code 79 = .ok (.getfield 38, 3) := by decide +kernel
theorem k_MD_name_82 : px_dec prog_9_method_20_code [.iload_n 1] 82 = true := by decide +kernel
theorem d_MD_name_83 : decode prog_9_method_20_code 83 = .ok (.iaload, 1) := by decide +kernel
theorem d_MD_name_84 : decode prog_9_method_20_code 84 = .ok (.ireturn, 1) := by decide +kernel
theorem k_MD_name_38 : px_dec prog_9_method_20_code [.iconst 1] 38 = true := by decide +kernel
theorem d_MD_name_39 : decode prog_9_method_20_code 39 = .ok (.goto 4, 3) := by decide +kernel
set_option maxRecDepth 100000 in
set_option maxHeartbeats 4000000 in
theorem c_MD_name (l : Launch) (D : va_G) (HB : Heap) (h : hp_T) (h0 : hp_T) (y : Nat) (A : Nat → Nat) (V : vT) (p : Int32) (c : Int32) (hP : ok_ (V 9 0) 60) (hL : ok_ (V 13 (nu p)) 20) (hM : mq D h0 h y A V) : ct_M l y_MD_name (.code y_MD_name prog_9_method_20_code 4 (Option.some Jvm.ClassFile.FieldType.int)) ({ frames := 1, cells := 0, slots := 0, locals := 30 }) D HB [.ref y, .int p, .int c] h (fun o h2 => ∃ (cd r : Int32) (V2 : vT), sp_name V p c = (cd, r, V2) ∧ o = .inl (some (.int r)) ∧ mq D h0 h2 y A V2) := by
  refine ct_of (by decide) (Nat.le_of_ble_eq_true rfl) rfl ?_
  intro p_ e_ s_ m_ r_ b_ t_ c_ C hnm
  refine wk_run C k_MD_name_0 (pc2 := 2) (lv2 := [(0, .ref y), (1, .int p), (2, .int c)]) (st2 := [.int p, .ref y]) rfl ?_
  refine wk_callV (cl := ("ProfileRightsModel", T_MD, 27)) (rest := []) C (c_MD_isProfile l D HB h h0 y A (V) p hM) cs_MD_101 kc_MD_isProfile ki_MD hM.ob rfl rfl rfl (Nat.le_of_ble_eq_true rfl) (Nat.le_of_ble_eq_true rfl) (Nat.le_of_ble_eq_true rfl) (Nat.le_of_ble_eq_true rfl) (Nat.le_of_ble_eq_true rfl) d_MD_name_2 (fun v h2 hq => ?_) (fun _ _ z => nomatch z.1)
  obtain ⟨e1, e2⟩ := hq; cases e1; replace e2 := e2.symm; subst e2
  show Wk _ _ _ _ _ _ _ _ _ _ _ _ _ _ _ _ _ _ _ (.int (if ¬ p < 1 ∧ p ≤ V 9 0 then (1 : Int32) else 0) :: _)
  refine wk_br C d_MD_name_5 (P := (if ¬ p < 1 ∧ p ≤ V 9 0 then (1 : Int32) else 0) = 0) (tgt := 15) (rest := []) rfl (by decide) (fun c1 => ?_) (fun c1 => ?_)
  ·
    replace c1 := bz_ c1
    refine wk_run C k_MD_name_15 (pc2 := 16) (lv2 := [(0, .ref y), (1, .int p), (2, .int c)]) (st2 := [.int 1]) rfl ?_
    refine wk_goto C d_MD_name_16 (tgt := 20) (by decide) ?_
    refine wk_run C k_MD_name_20 (pc2 := 24) (lv2 := [(3, .int 1), (0, .ref y), (1, .int p), (2, .int c)]) (st2 := [.int 1, .int 1, .ref y]) rfl ?_
    refine wk_br C d_MD_name_24 (P := ¬ 1 = 0) (tgt := 42) (rest := [.int 1, .ref y]) rfl (by decide) (fun c2 => ?_) (fun c2 => ?_)
    ·
      refine wk_run C k_MD_name_42 (pc2 := 43) (lv2 := [(3, .int 1), (0, .ref y), (1, .int p), (2, .int c)]) (st2 := [.int 0, .int 1, .ref y]) rfl ?_
      refine wk_callV (cl := ("ProfileRightsModel", T_MD, 27)) (rest := []) C (c_MD_f1 l D HB h h0 y A (V) hM) cs_MD_88 kc_MD_fails ki_MD hM.ob rfl rfl rfl (Nat.le_of_ble_eq_true rfl) (Nat.le_of_ble_eq_true rfl) (Nat.le_of_ble_eq_true rfl) (Nat.le_of_ble_eq_true rfl) (Nat.le_of_ble_eq_true rfl) d_MD_name_43 (fun v h hq => ?_) (fun _ _ z => nomatch z.1)
      obtain ⟨e1, hM⟩ := hq; cases e1
      refine wk_br C d_MD_name_46 (P := 1 = 0) (tgt := 51) (rest := []) rfl (by decide) (fun c3 => ?_) (fun c3 => ?_)
      ·
        exact absurd c3 (by decide)
      ·
        refine wk_run C k_MD_name_49 (pc2 := 50) (lv2 := [(3, .int 1), (0, .ref y), (1, .int p), (2, .int c)]) (st2 := [.int 0]) rfl ?_
        exact wk_iret C ⟨1, 0, vc (V) 0 1, by clear C hM hnm; grind [sp_name, upd_s], rfl, hM⟩ (by decide) (by decide) d_MD_name_50
    ·
      exact absurd (by decide) c2
  ·
    replace c1 := bn_ c1
    refine wk_run C k_MD_name_8 (pc2 := 9) (lv2 := [(0, .ref y), (1, .int p), (2, .int c)]) (st2 := [.int c]) rfl ?_
    refine wk_callS (rest := []) C (c_MD_isSign l D HB h c) cs_MD_104 kc_MD_isSign ki_MD rfl rfl (Nat.le_of_ble_eq_true rfl) (Nat.le_of_ble_eq_true rfl) (Nat.le_of_ble_eq_true rfl) (Nat.le_of_ble_eq_true rfl) (Nat.le_of_ble_eq_true rfl) d_MD_name_9 (fun v h2 hq => ?_) (fun _ _ z => nomatch z.1)
    obtain ⟨e1, e2⟩ := hq; cases e1; replace e2 := e2.symm; subst e2
    refine wk_br C d_MD_name_12 (P := ¬ (if ¬ c < 33 ∧ ¬ 126 < c then (1 : Int32) else 0) = 0) (tgt := 19) (rest := []) rfl (by decide) (fun c4 => ?_) (fun c4 => ?_)
    ·
      replace c4 := bn_ c4
      refine wk_run C k_MD_name_19 (pc2 := 24) (lv2 := [(3, .int 0), (0, .ref y), (1, .int p), (2, .int c)]) (st2 := [.int 0, .int 0, .ref y]) rfl ?_
      refine wk_br C d_MD_name_24 (P := ¬ 0 = 0) (tgt := 42) (rest := [.int 0, .ref y]) rfl (by decide) (fun c5 => ?_) (fun c5 => ?_)
      ·
        exact absurd c5 (by decide)
      ·
        refine wk_run C k_MD_name_27 (pc2 := 28) (lv2 := [(3, .int 0), (0, .ref y), (1, .int p), (2, .int c)]) (st2 := [.ref y, .int 0, .ref y]) rfl ?_
        refine wk_get (v := .ref (A 13)) C fd_MD_38 hM.ob rfl d_MD_name_28 ?_
        refine wk_run C k_MD_name_31 (pc2 := 32) (lv2 := [(3, .int 0), (0, .ref y), (1, .int p), (2, .int c)]) (st2 := [.int p, .ref (A 13), .int 0, .ref y]) rfl ?_
        refine wm_ld C hM 13 (j := nu p) rfl (vi_ c1.1 c1.2 hP (by decide) (by decide)) rfl d_MD_name_32 ?_
        show Wk _ _ _ _ _ _ _ _ _ _ _ _ _ _ _ _ _ _ _ (.int (V 13 (nu p)) :: _)
        refine wk_run C k_MD_name_33 (pc2 := 35) (lv2 := [(3, .int 0), (0, .ref y), (1, .int p), (2, .int c)]) (st2 := [.int 20, .int (V 13 (nu p)), .int 0, .ref y]) rfl ?_
        refine wk_br C d_MD_name_35 (P := ¬ (V 13 (nu p)) = 20) (tgt := 42) (rest := [.int 0, .ref y]) rfl (by decide) (fun c6 => ?_) (fun c6 => ?_)
        ·
          refine wk_run C k_MD_name_42 (pc2 := 43) (lv2 := [(3, .int 0), (0, .ref y), (1, .int p), (2, .int c)]) (st2 := [.int 0, .int 0, .ref y]) rfl ?_
          refine wk_callV (cl := ("ProfileRightsModel", T_MD, 27)) (rest := []) C (c_MD_f0 l D HB h h0 y A (V) hM) cs_MD_88 kc_MD_fails ki_MD hM.ob rfl rfl rfl (Nat.le_of_ble_eq_true rfl) (Nat.le_of_ble_eq_true rfl) (Nat.le_of_ble_eq_true rfl) (Nat.le_of_ble_eq_true rfl) (Nat.le_of_ble_eq_true rfl) d_MD_name_43 (fun v h hq => ?_) (fun _ _ z => nomatch z.1)
          obtain ⟨e1, hM⟩ := hq; cases e1
          refine wk_br C d_MD_name_46 (P := 0 = 0) (tgt := 51) (rest := []) rfl (by decide) (fun c7 => ?_) (fun c7 => ?_)
          ·
            refine wk_run C k_MD_name_51 (pc2 := 52) (lv2 := [(3, .int 0), (0, .ref y), (1, .int p), (2, .int c)]) (st2 := [.ref y]) rfl ?_
            refine wk_get (v := .ref (A 12)) C fd_MD_35 hM.ob rfl d_MD_name_52 ?_
            refine wk_run C k_MD_name_55 (pc2 := 60) (lv2 := [(3, .int 0), (0, .ref y), (1, .int p), (2, .int c)]) (st2 := [.ref y, .int (20 * p), .ref (A 12)]) rfl ?_
            refine wk_get (v := .ref (A 13)) C fd_MD_38 hM.ob rfl d_MD_name_60 ?_
            refine wk_run C k_MD_name_63 (pc2 := 64) (lv2 := [(3, .int 0), (0, .ref y), (1, .int p), (2, .int c)]) (st2 := [.int p, .ref (A 13), .int (20 * p), .ref (A 12)]) rfl ?_
            refine wm_ld C hM 13 (j := nu p) rfl (vi_ c1.1 c1.2 hP (by decide) (by decide)) rfl d_MD_name_64 ?_
            show Wk _ _ _ _ _ _ _ _ _ _ _ _ _ _ _ _ _ _ _ (.int (V 13 (nu p)) :: _)
            refine wk_run C k_MD_name_65 (pc2 := 67) (lv2 := [(3, .int 0), (0, .ref y), (1, .int p), (2, .int c)]) (st2 := [.int c, .int ((20 * p) + (V 13 (nu p))), .ref (A 12)]) rfl ?_
            refine wm_st C hM 12 (j := (20 * nu p + nu (V 13 (nu p)))) rfl (nx_ (k := 20) (m := 60) (n := 19) (N := 1220) (ok_r c1.1 c1.2 hP (by decide)) (ok_ne hL c6) (by decide) (by decide)).1 (nx_ (k := 20) (m := 60) (n := 19) (N := 1220) (ok_r c1.1 c1.2 hP (by decide)) (ok_ne hL c6) (by decide) (by decide)).2 d_MD_name_67 (fun h (hM : mq D h0 h y A (vs (vc (V) 0 0) 12 (upd (V 12) (20 * nu p + nu (V 13 (nu p))) c))) => ?_)
            refine wk_run C k_MD_name_68 (pc2 := 69) (lv2 := [(3, .int 0), (0, .ref y), (1, .int p), (2, .int c)]) (st2 := [.ref y]) rfl ?_
            refine wk_get (v := .ref (A 13)) C fd_MD_38 hM.ob rfl d_MD_name_69 ?_
            refine wk_run C k_MD_name_72 (pc2 := 74) (lv2 := [(3, .int 0), (0, .ref y), (1, .int p), (2, .int c)]) (st2 := [.int p, .ref (A 13), .int p, .ref (A 13)]) rfl ?_
            refine wm_ld C hM 13 (j := nu p) rfl (vi_ c1.1 c1.2 hP (by decide) (by decide)) rfl d_MD_name_74 ?_
            show Wk _ _ _ _ _ _ _ _ _ _ _ _ _ _ _ _ _ _ _ (.int (V 13 (nu p)) :: _)
            refine wk_run C k_MD_name_75 (pc2 := 77) (lv2 := [(3, .int 0), (0, .ref y), (1, .int p), (2, .int c)]) (st2 := [.int ((V 13 (nu p)) + 1), .int p, .ref (A 13)]) rfl ?_
            refine wm_st C hM 13 (j := (nu p)) rfl (vi_ c1.1 c1.2 hP (by decide) (by decide)) rfl d_MD_name_77 (fun h (hM : mq D h0 h y A (vs (vs (vc (V) 0 0) 12 (upd (V 12) (20 * nu p + nu (V 13 (nu p))) c)) 13 (upd (V 13) (nu p) ((V 13 (nu p)) + 1)))) => ?_)
            refine wk_run C k_MD_name_78 (pc2 := 79) (lv2 := [(3, .int 0), (0, .ref y), (1, .int p), (2, .int c)]) (st2 := [.ref y]) rfl ?_
            refine wk_get (v := .ref (A 13)) C fd_MD_38 hM.ob rfl d_MD_name_79 ?_
            refine wk_run C k_MD_name_82 (pc2 := 83) (lv2 := [(3, .int 0), (0, .ref y), (1, .int p), (2, .int c)]) (st2 := [.int p, .ref (A 13)]) rfl ?_
            refine wm_ld C hM 13 (j := nu p) rfl (vi_ c1.1 c1.2 hP (by decide) (by decide)) rfl d_MD_name_83 ?_
            show Wk _ _ _ _ _ _ _ _ _ _ _ _ _ _ _ _ _ _ _ (.int ((upd (V 13) (nu p) ((V 13 (nu p)) + 1)) (nu p)) :: _)
            exact wk_iret C ⟨0, ((upd (V 13) (nu p) ((V 13 (nu p)) + 1)) (nu p)), vs (vs (vc (V) 0 0) 12 (upd (V 12) (20 * nu p + nu (V 13 (nu p))) c)) 13 (upd (V 13) (nu p) ((V 13 (nu p)) + 1)), by clear C hM hnm; grind [sp_name, upd_s], rfl, hM⟩ (by decide) (by decide) d_MD_name_84
          ·
            exact absurd (by decide) c7
        ·
          refine wk_run C k_MD_name_38 (pc2 := 39) (lv2 := [(3, .int 0), (0, .ref y), (1, .int p), (2, .int c)]) (st2 := [.int 1, .int 0, .ref y]) rfl ?_
          refine wk_goto C d_MD_name_39 (tgt := 43) (by decide) ?_
          refine wk_callV (cl := ("ProfileRightsModel", T_MD, 27)) (rest := []) C (c_MD_f2 l D HB h h0 y A (V) hM) cs_MD_88 kc_MD_fails ki_MD hM.ob rfl rfl rfl (Nat.le_of_ble_eq_true rfl) (Nat.le_of_ble_eq_true rfl) (Nat.le_of_ble_eq_true rfl) (Nat.le_of_ble_eq_true rfl) (Nat.le_of_ble_eq_true rfl) d_MD_name_43 (fun v h hq => ?_) (fun _ _ z => nomatch z.1)
          obtain ⟨e1, hM⟩ := hq; cases e1
          refine wk_br C d_MD_name_46 (P := 1 = 0) (tgt := 51) (rest := []) rfl (by decide) (fun c8 => ?_) (fun c8 => ?_)
          ·
            exact absurd c8 (by decide)
          ·
            refine wk_run C k_MD_name_49 (pc2 := 50) (lv2 := [(3, .int 0), (0, .ref y), (1, .int p), (2, .int c)]) (st2 := [.int 0]) rfl ?_
            exact wk_iret C ⟨2, 0, vc (V) 0 2, by clear C hM hnm; grind [sp_name, upd_s], rfl, hM⟩ (by decide) (by decide) d_MD_name_50
    ·
      replace c4 := bz_ (Classical.not_not.mp c4)
      refine wk_run C k_MD_name_15 (pc2 := 16) (lv2 := [(0, .ref y), (1, .int p), (2, .int c)]) (st2 := [.int 1]) rfl ?_
      refine wk_goto C d_MD_name_16 (tgt := 20) (by decide) ?_
      refine wk_run C k_MD_name_20 (pc2 := 24) (lv2 := [(3, .int 1), (0, .ref y), (1, .int p), (2, .int c)]) (st2 := [.int 1, .int 1, .ref y]) rfl ?_
      refine wk_br C d_MD_name_24 (P := ¬ 1 = 0) (tgt := 42) (rest := [.int 1, .ref y]) rfl (by decide) (fun c9 => ?_) (fun c9 => ?_)
      ·
        refine wk_run C k_MD_name_42 (pc2 := 43) (lv2 := [(3, .int 1), (0, .ref y), (1, .int p), (2, .int c)]) (st2 := [.int 0, .int 1, .ref y]) rfl ?_
        refine wk_callV (cl := ("ProfileRightsModel", T_MD, 27)) (rest := []) C (c_MD_f1 l D HB h h0 y A (V) hM) cs_MD_88 kc_MD_fails ki_MD hM.ob rfl rfl rfl (Nat.le_of_ble_eq_true rfl) (Nat.le_of_ble_eq_true rfl) (Nat.le_of_ble_eq_true rfl) (Nat.le_of_ble_eq_true rfl) (Nat.le_of_ble_eq_true rfl) d_MD_name_43 (fun v h hq => ?_) (fun _ _ z => nomatch z.1)
        obtain ⟨e1, hM⟩ := hq; cases e1
        refine wk_br C d_MD_name_46 (P := 1 = 0) (tgt := 51) (rest := []) rfl (by decide) (fun c10 => ?_) (fun c10 => ?_)
        ·
          exact absurd c10 (by decide)
        ·
          refine wk_run C k_MD_name_49 (pc2 := 50) (lv2 := [(3, .int 1), (0, .ref y), (1, .int p), (2, .int c)]) (st2 := [.int 0]) rfl ?_
          exact wk_iret C ⟨1, 0, vc (V) 0 1, by clear C hM hnm; grind [sp_name, upd_s], rfl, hM⟩ (by decide) (by decide) d_MD_name_50
      ·
        exact absurd (by decide) c9
theorem k_MD_who_0 : px_dec prog_9_method_26_code [.aload_n 0, .aload_n 0, .iload_n 1] 0 = true := by decide +kernel
theorem d_MD_who_3 : decode prog_9_method_26_code 3 = .ok (.invokevirtual 101, 3) := by decide +kernel
theorem d_MD_who_6 : decode prog_9_method_26_code 6 = .ok (.ifCond .ne 7, 3) := by decide +kernel
theorem k_MD_who_13 : px_dec prog_9_method_26_code [.iconst 0, .iconst 0] 13 = true := by decide +kernel
theorem d_MD_who_15 : decode prog_9_method_26_code 15 = .ok (.invokevirtual 88, 3) := by decide +kernel
theorem d_MD_who_18 : decode prog_9_method_26_code 18 = .ok (.ifCond .eq 5, 3) := by decide +kernel
theorem k_MD_who_23 : px_dec prog_9_method_26_code [.iload_n 2] 23 = true := by decide +kernel
theorem d_MD_who_24 : decode prog_9_method_26_code 24 = .ok (.ifCond .lt 13, 3) := by decide +kernel
theorem k_MD_who_37 : px_dec prog_9_method_26_code [.iconst 0] 37 = true := by decide +kernel
theorem d_MD_who_38 : decode prog_9_method_26_code 38 = .ok (.goto 14, 3) := by decide +kernel
theorem d_MD_who_52 : decode prog_9_method_26_code 52 = .ok (.ireturn, 1) := by decide +kernel
theorem k_MD_who_27 : px_dec prog_9_method_26_code [.iload_n 2, .aload_n 0] 27 = true := by decide +kernel
theorem d_MD_who_29 : decode prog_9_method_26_code 29 = .ok (.getfield 47, 3) := by decide +kernel
theorem k_MD_who_32 : px_dec prog_9_method_26_code [.iload_n 1] 32 = true := by decide +kernel
theorem d_MD_who_33 : decode prog_9_method_26_code 33 = .ok (.iaload, 1) := by decide +kernel
theorem d_MD_who_34 : decode prog_9_method_26_code 34 = .ok (.if_icmp .lt 7, 3) := by decide +kernel
theorem k_MD_who_41 : px_dec prog_9_method_26_code [.aload_n 0] 41 = true := by decide +kernel
theorem d_MD_who_42 : decode prog_9_method_26_code 42 = .ok (.getfield 50, 3) := by decide +kernel
theorem k_MD_who_45 : px_dec prog_9_method_26_code [.bipush 10, .iload_n 1, .imul, .iload_n 2, .iadd] 45 = true := by decide +kernel
theorem d_MD_who_51 : decode prog_9_method_26_code 51 = .ok (.iaload, 1) := by decide +kernel
theorem k_MD_who_9 : px_dec prog_9_method_26_code [.iconst 1] 9 = true := by decide +kernel
theorem d_MD_who_10 : decode prog_9_method_26_code 10 = .ok (.goto 4, 3) := by decide +kernel
theorem k_MD_who_14 : px_dec prog_9_method_26_code [.iconst 0] 14 = true := by decide +kernel
theorem k_MD_who_21 : px_dec prog_9_method_26_code [.iconst 0] 21 = true := by decide +kernel
theorem d_MD_who_22 : decode prog_9_method_26_code 22 = .ok (.ireturn, 1) := by decide +kernel
set_option maxRecDepth 100000 in
set_option maxHeartbeats 4000000 in
theorem c_MD_who (l : Launch) (D : va_G) (HB : Heap) (h : hp_T) (h0 : hp_T) (y : Nat) (A : Nat → Nat) (V : vT) (p : Int32) (i : Int32) (hP : ok_ (V 9 0) 60) (hE : ok_ (V 16 (nu p)) (9 + 1)) (hM : mq D h0 h y A V) : ct_M l y_MD_who (.code y_MD_who prog_9_method_26_code 3 (Option.some Jvm.ClassFile.FieldType.int)) ({ frames := 1, cells := 0, slots := 0, locals := 30 }) D HB [.ref y, .int p, .int i] h (fun o h2 => ∃ (cd r : Int32) (V2 : vT), sp_who V p i = (cd, r, V2) ∧ o = .inl (some (.int r)) ∧ mq D h0 h2 y A V2) := by
  refine ct_of (by decide) (Nat.le_of_ble_eq_true rfl) rfl ?_
  intro p_ e_ s_ m_ r_ b_ t_ c_ C hnm
  refine wk_run C k_MD_who_0 (pc2 := 3) (lv2 := [(0, .ref y), (1, .int p), (2, .int i)]) (st2 := [.int p, .ref y, .ref y]) rfl ?_
  refine wk_callV (cl := ("ProfileRightsModel", T_MD, 27)) (rest := [.ref y]) C (c_MD_isProfile l D HB h h0 y A (V) p hM) cs_MD_101 kc_MD_isProfile ki_MD hM.ob rfl rfl rfl (Nat.le_of_ble_eq_true rfl) (Nat.le_of_ble_eq_true rfl) (Nat.le_of_ble_eq_true rfl) (Nat.le_of_ble_eq_true rfl) (Nat.le_of_ble_eq_true rfl) d_MD_who_3 (fun v h2 hq => ?_) (fun _ _ z => nomatch z.1)
  obtain ⟨e1, e2⟩ := hq; cases e1; replace e2 := e2.symm; subst e2
  show Wk _ _ _ _ _ _ _ _ _ _ _ _ _ _ _ _ _ _ _ (.int (if ¬ p < 1 ∧ p ≤ V 9 0 then (1 : Int32) else 0) :: _)
  refine wk_br C d_MD_who_6 (P := ¬ (if ¬ p < 1 ∧ p ≤ V 9 0 then (1 : Int32) else 0) = 0) (tgt := 13) (rest := [.ref y]) rfl (by decide) (fun c1 => ?_) (fun c1 => ?_)
  ·
    replace c1 := bn_ c1
    refine wk_run C k_MD_who_13 (pc2 := 15) (lv2 := [(0, .ref y), (1, .int p), (2, .int i)]) (st2 := [.int 0, .int 0, .ref y]) rfl ?_
    refine wk_callV (cl := ("ProfileRightsModel", T_MD, 27)) (rest := []) C (c_MD_f0 l D HB h h0 y A (V) hM) cs_MD_88 kc_MD_fails ki_MD hM.ob rfl rfl rfl (Nat.le_of_ble_eq_true rfl) (Nat.le_of_ble_eq_true rfl) (Nat.le_of_ble_eq_true rfl) (Nat.le_of_ble_eq_true rfl) (Nat.le_of_ble_eq_true rfl) d_MD_who_15 (fun v h hq => ?_) (fun _ _ z => nomatch z.1)
    obtain ⟨e1, hM⟩ := hq; cases e1
    refine wk_br C d_MD_who_18 (P := 0 = 0) (tgt := 23) (rest := []) rfl (by decide) (fun c2 => ?_) (fun c2 => ?_)
    ·
      refine wk_run C k_MD_who_23 (pc2 := 24) (lv2 := [(0, .ref y), (1, .int p), (2, .int i)]) (st2 := [.int i]) rfl ?_
      refine wk_br C d_MD_who_24 (P := i < 0) (tgt := 37) (rest := []) rfl (by decide) (fun c3 => ?_) (fun c3 => ?_)
      ·
        refine wk_run C k_MD_who_37 (pc2 := 38) (lv2 := [(0, .ref y), (1, .int p), (2, .int i)]) (st2 := [.int 0]) rfl ?_
        refine wk_goto C d_MD_who_38 (tgt := 52) (by decide) ?_
        exact wk_iret C ⟨0, 0, vc (V) 0 0, by clear C hM hnm; grind [sp_who], rfl, hM⟩ (by decide) (by decide) d_MD_who_52
      ·
        refine wk_run C k_MD_who_27 (pc2 := 29) (lv2 := [(0, .ref y), (1, .int p), (2, .int i)]) (st2 := [.ref y, .int i]) rfl ?_
        refine wk_get (v := .ref (A 16)) C fd_MD_47 hM.ob rfl d_MD_who_29 ?_
        refine wk_run C k_MD_who_32 (pc2 := 33) (lv2 := [(0, .ref y), (1, .int p), (2, .int i)]) (st2 := [.int p, .ref (A 16), .int i]) rfl ?_
        refine wm_ld C hM 16 (j := nu p) rfl (vi_ c1.1 c1.2 hP (by decide) (by decide)) rfl d_MD_who_33 ?_
        show Wk _ _ _ _ _ _ _ _ _ _ _ _ _ _ _ _ _ _ _ (.int (V 16 (nu p)) :: _)
        refine wk_br C d_MD_who_34 (P := i < (V 16 (nu p))) (tgt := 41) (rest := []) rfl (by decide) (fun c4 => ?_) (fun c4 => ?_)
        ·
          refine wk_run C k_MD_who_41 (pc2 := 42) (lv2 := [(0, .ref y), (1, .int p), (2, .int i)]) (st2 := [.ref y]) rfl ?_
          refine wk_get (v := .ref (A 17)) C fd_MD_50 hM.ob rfl d_MD_who_42 ?_
          refine wk_run C k_MD_who_45 (pc2 := 51) (lv2 := [(0, .ref y), (1, .int p), (2, .int i)]) (st2 := [.int ((10 * p) + i), .ref (A 17)]) rfl ?_
          refine wm_ld C hM 17 (j := 10 * nu p + nu i) rfl (nx_ (k := 10) (m := 60) (n := 9) (N := 610) (ok_r c1.1 c1.2 hP (by decide)) (ok_lo c3 c4 hE (by decide)) (by decide) (by decide)).1 (nx_ (k := 10) (m := 60) (n := 9) (N := 610) (ok_r c1.1 c1.2 hP (by decide)) (ok_lo c3 c4 hE (by decide)) (by decide) (by decide)).2 d_MD_who_51 ?_
          show Wk _ _ _ _ _ _ _ _ _ _ _ _ _ _ _ _ _ _ _ (.int (V 17 (10 * nu p + nu i)) :: _)
          exact wk_iret C ⟨0, (V 17 (10 * nu p + nu i)), vc (V) 0 0, by clear C hM hnm; grind [sp_who], rfl, hM⟩ (by decide) (by decide) d_MD_who_52
        ·
          refine wk_run C k_MD_who_37 (pc2 := 38) (lv2 := [(0, .ref y), (1, .int p), (2, .int i)]) (st2 := [.int 0]) rfl ?_
          refine wk_goto C d_MD_who_38 (tgt := 52) (by decide) ?_
          exact wk_iret C ⟨0, 0, vc (V) 0 0, by clear C hM hnm; grind [sp_who], rfl, hM⟩ (by decide) (by decide) d_MD_who_52
    ·
      exact absurd (by decide) c2
  ·
    replace c1 := bz_ (Classical.not_not.mp c1)
    refine wk_run C k_MD_who_9 (pc2 := 10) (lv2 := [(0, .ref y), (1, .int p), (2, .int i)]) (st2 := [.int 1, .ref y]) rfl ?_
    refine wk_goto C d_MD_who_10 (tgt := 14) (by decide) ?_
    refine wk_run C k_MD_who_14 (pc2 := 15) (lv2 := [(0, .ref y), (1, .int p), (2, .int i)]) (st2 := [.int 0, .int 1, .ref y]) rfl ?_
    refine wk_callV (cl := ("ProfileRightsModel", T_MD, 27)) (rest := []) C (c_MD_f1 l D HB h h0 y A (V) hM) cs_MD_88 kc_MD_fails ki_MD hM.ob rfl rfl rfl (Nat.le_of_ble_eq_true rfl) (Nat.le_of_ble_eq_true rfl) (Nat.le_of_ble_eq_true rfl) (Nat.le_of_ble_eq_true rfl) (Nat.le_of_ble_eq_true rfl) d_MD_who_15 (fun v h hq => ?_) (fun _ _ z => nomatch z.1)
    obtain ⟨e1, hM⟩ := hq; cases e1
    refine wk_br C d_MD_who_18 (P := 1 = 0) (tgt := 23) (rest := []) rfl (by decide) (fun c5 => ?_) (fun c5 => ?_)
    ·
      exact absurd c5 (by decide)
    ·
      refine wk_run C k_MD_who_21 (pc2 := 22) (lv2 := [(0, .ref y), (1, .int p), (2, .int i)]) (st2 := [.int 0]) rfl ?_
      exact wk_iret C ⟨1, 0, vc (V) 0 1, by clear C hM hnm; grind [sp_who], rfl, hM⟩ (by decide) (by decide) d_MD_who_22
theorem k_MD_audit_0 : px_dec prog_9_method_38_code [.aload_n 0, .iconst 0] 0 = true := by decide +kernel
theorem d_MD_audit_2 : decode prog_9_method_38_code 2 = .ok (.putfield 71, 3) := by decide +kernel
theorem k_MD_audit_5 : px_dec prog_9_method_38_code [.iload_n 1] 5 = true := by decide +kernel
theorem d_MD_audit_6 : decode prog_9_method_38_code 6 = .ok (.ifCond .lt 27, 3) := by decide +kernel
theorem k_MD_audit_33 : px_dec prog_9_method_38_code [.iconst (-1)] 33 = true := by decide +kernel
theorem d_MD_audit_34 : decode prog_9_method_38_code 34 = .ok (.goto 13, 3) := by decide +kernel
theorem d_MD_audit_47 : decode prog_9_method_38_code 47 = .ok (.ireturn, 1) := by decide +kernel
theorem k_MD_audit_9 : px_dec prog_9_method_38_code [.iload_n 1, .aload_n 0] 9 = true := by decide +kernel
theorem d_MD_audit_11 : decode prog_9_method_38_code 11 = .ok (.getfield 143, 3) := by decide +kernel
theorem d_MD_audit_14 : decode prog_9_method_38_code 14 = .ok (.if_icmp .ge 19, 3) := by decide +kernel
theorem k_MD_audit_17 : px_dec prog_9_method_38_code [.iload_n 1, .sipush 200] 17 = true := by decide +kernel
theorem d_MD_audit_21 : decode prog_9_method_38_code 21 = .ok (.if_icmp .ge 12, 3) := by decide +kernel
theorem k_MD_audit_24 : px_dec prog_9_method_38_code [.iload_n 2] 24 = true := by decide +kernel
theorem d_MD_audit_25 : decode prog_9_method_38_code 25 = .ok (.ifCond .lt 8, 3) := by decide +kernel
theorem k_MD_audit_28 : px_dec prog_9_method_38_code [.iload_n 2, .iconst 4] 28 = true := by decide +kernel
theorem d_MD_audit_30 : decode prog_9_method_38_code 30 = .ok (.if_icmp .le 7, 3) := by decide +kernel
theorem k_MD_audit_37 : px_dec prog_9_method_38_code [.aload_n 0] 37 = true := by decide +kernel
theorem d_MD_audit_38 : decode prog_9_method_38_code 38 = .ok (.getfield 65, 3) := by decide +kernel
theorem k_MD_audit_41 : px_dec prog_9_method_38_code [.iconst 5, .iload_n 1, .imul, .iload_n 2, .iadd] 41 = true := by decide +kernel
theorem d_MD_audit_46 : decode prog_9_method_38_code 46 = .ok (.iaload, 1) := by decide +kernel
set_option maxRecDepth 100000 in
set_option maxHeartbeats 4000000 in
theorem c_MD_audit (l : Launch) (D : va_G) (HB : Heap) (h : hp_T) (h0 : hp_T) (y : Nat) (A : Nat → Nat) (V : vT) (i : Int32) (w : Int32)  (hM : mq D h0 h y A V) : ct_M l y_MD_audit (.code y_MD_audit prog_9_method_38_code 3 (Option.some Jvm.ClassFile.FieldType.int)) ({ frames := 1, cells := 0, slots := 0, locals := 30 }) D HB [.ref y, .int i, .int w] h (fun o h2 => ∃ (cd r : Int32) (V2 : vT), sp_audit V i w = (cd, r, V2) ∧ o = .inl (some (.int r)) ∧ mq D h0 h2 y A V2) := by
  refine ct_of (by decide) (Nat.le_of_ble_eq_true rfl) rfl ?_
  intro p_ e_ s_ m_ r_ b_ t_ c_ C hnm
  refine wk_run C k_MD_audit_0 (pc2 := 2) (lv2 := [(0, .ref y), (1, .int i), (2, .int w)]) (st2 := [.int 0, .ref y]) rfl ?_
  refine wm_put C hM 0 (by simp [sc_]) fd_MD_71 rfl d_MD_audit_2 (fun h (hM : mq D h0 h y A (vc (V) 0 0)) => ?_)
  refine wk_run C k_MD_audit_5 (pc2 := 6) (lv2 := [(0, .ref y), (1, .int i), (2, .int w)]) (st2 := [.int i]) rfl ?_
  refine wk_br C d_MD_audit_6 (P := i < 0) (tgt := 33) (rest := []) rfl (by decide) (fun c1 => ?_) (fun c1 => ?_)
  ·
    refine wk_run C k_MD_audit_33 (pc2 := 34) (lv2 := [(0, .ref y), (1, .int i), (2, .int w)]) (st2 := [.int (-1)]) rfl ?_
    refine wk_goto C d_MD_audit_34 (tgt := 47) (by decide) ?_
    exact wk_iret C ⟨0, (-1), vc (V) 0 0, by clear C hM hnm; grind [sp_audit], rfl, hM⟩ (by decide) (by decide) d_MD_audit_47
  ·
    refine wk_run C k_MD_audit_9 (pc2 := 11) (lv2 := [(0, .ref y), (1, .int i), (2, .int w)]) (st2 := [.ref y, .int i]) rfl ?_
    refine wk_get (v := .int (V 25 0)) C fd_MD_143 hM.ob rfl d_MD_audit_11 ?_
    refine wk_br C d_MD_audit_14 (P := (V 25 0) ≤ i) (tgt := 33) (rest := []) rfl (by decide) (fun c2 => ?_) (fun c2 => ?_)
    ·
      refine wk_run C k_MD_audit_33 (pc2 := 34) (lv2 := [(0, .ref y), (1, .int i), (2, .int w)]) (st2 := [.int (-1)]) rfl ?_
      refine wk_goto C d_MD_audit_34 (tgt := 47) (by decide) ?_
      exact wk_iret C ⟨0, (-1), vc (V) 0 0, by clear C hM hnm; grind [sp_audit], rfl, hM⟩ (by decide) (by decide) d_MD_audit_47
    ·
      refine wk_run C k_MD_audit_17 (pc2 := 21) (lv2 := [(0, .ref y), (1, .int i), (2, .int w)]) (st2 := [.int 200, .int i]) rfl ?_
      refine wk_br C d_MD_audit_21 (P := 200 ≤ i) (tgt := 33) (rest := []) rfl (by decide) (fun c3 => ?_) (fun c3 => ?_)
      ·
        refine wk_run C k_MD_audit_33 (pc2 := 34) (lv2 := [(0, .ref y), (1, .int i), (2, .int w)]) (st2 := [.int (-1)]) rfl ?_
        refine wk_goto C d_MD_audit_34 (tgt := 47) (by decide) ?_
        exact wk_iret C ⟨0, (-1), vc (V) 0 0, by clear C hM hnm; grind [sp_audit], rfl, hM⟩ (by decide) (by decide) d_MD_audit_47
      ·
        refine wk_run C k_MD_audit_24 (pc2 := 25) (lv2 := [(0, .ref y), (1, .int i), (2, .int w)]) (st2 := [.int w]) rfl ?_
        refine wk_br C d_MD_audit_25 (P := w < 0) (tgt := 33) (rest := []) rfl (by decide) (fun c4 => ?_) (fun c4 => ?_)
        ·
          refine wk_run C k_MD_audit_33 (pc2 := 34) (lv2 := [(0, .ref y), (1, .int i), (2, .int w)]) (st2 := [.int (-1)]) rfl ?_
          refine wk_goto C d_MD_audit_34 (tgt := 47) (by decide) ?_
          exact wk_iret C ⟨0, (-1), vc (V) 0 0, by clear C hM hnm; grind [sp_audit], rfl, hM⟩ (by decide) (by decide) d_MD_audit_47
        ·
          refine wk_run C k_MD_audit_28 (pc2 := 30) (lv2 := [(0, .ref y), (1, .int i), (2, .int w)]) (st2 := [.int 4, .int w]) rfl ?_
          refine wk_br C d_MD_audit_30 (P := w ≤ 4) (tgt := 37) (rest := []) rfl (by decide) (fun c5 => ?_) (fun c5 => ?_)
          ·
            refine wk_run C k_MD_audit_37 (pc2 := 38) (lv2 := [(0, .ref y), (1, .int i), (2, .int w)]) (st2 := [.ref y]) rfl ?_
            refine wk_get (v := .ref (A 24)) C fd_MD_65 hM.ob rfl d_MD_audit_38 ?_
            refine wk_run C k_MD_audit_41 (pc2 := 46) (lv2 := [(0, .ref y), (1, .int i), (2, .int w)]) (st2 := [.int ((5 * i) + w), .ref (A 24)]) rfl ?_
            refine wm_ld C hM 24 (j := 5 * nu i + nu w) rfl (nx_ (k := 5) (m := 199) (n := 4) (N := 1000) (ok_c c1 (by grind) (show (200 : Int32) = nI (199 + 1) from rfl) (by decide)) (ok_le c4 c5 (show (4 : Int32) = nI 4 from rfl) (by decide)) (by decide) (by decide)).1 (nx_ (k := 5) (m := 199) (n := 4) (N := 1000) (ok_c c1 (by grind) (show (200 : Int32) = nI (199 + 1) from rfl) (by decide)) (ok_le c4 c5 (show (4 : Int32) = nI 4 from rfl) (by decide)) (by decide) (by decide)).2 d_MD_audit_46 ?_
            show Wk _ _ _ _ _ _ _ _ _ _ _ _ _ _ _ _ _ _ _ (.int (V 24 (5 * nu i + nu w)) :: _)
            exact wk_iret C ⟨0, (V 24 (5 * nu i + nu w)), vc (V) 0 0, by clear C hM hnm; grind [sp_audit], rfl, hM⟩ (by decide) (by decide) d_MD_audit_47
          ·
            refine wk_run C k_MD_audit_33 (pc2 := 34) (lv2 := [(0, .ref y), (1, .int i), (2, .int w)]) (st2 := [.int (-1)]) rfl ?_
            refine wk_goto C d_MD_audit_34 (tgt := 47) (by decide) ?_
            exact wk_iret C ⟨0, (-1), vc (V) 0 0, by clear C hM hnm; grind [sp_audit], rfl, hM⟩ (by decide) (by decide) d_MD_audit_47
def an_ (V : vT) (u c a r p w : Int32) : vT := if w = 0 then vc (vc V 23 p) 22 0 else if 200 ≤ V 25 0 then vc (vc (vc V 23 p) 22 0) 25 (V 25 0 + 1) else
  vc (vs (vs (vs (vs (vs (vc (vc V 23 p) 22 0) 24 (upd (V 24) (5 * nu (V 25 0)) u)) 24 (upd (upd (V 24) (5 * nu (V 25 0)) u) (5 * nu (V 25 0) + 1) c)) 24 (upd (upd (upd (V 24) (5 * nu (V 25 0)) u) (5 * nu (V 25 0) + 1) c) (5 * nu (V 25 0) + 2) a)) 24 (upd (upd (upd (upd (V 24) (5 * nu (V 25 0)) u) (5 * nu (V 25 0) + 1) c) (5 * nu (V 25 0) + 2) a) (5 * nu (V 25 0) + 3) r)) 24 (upd (upd (upd (upd (upd (V 24) (5 * nu (V 25 0)) u) (5 * nu (V 25 0) + 1) c) (5 * nu (V 25 0) + 2) a) (5 * nu (V 25 0) + 3) r) (5 * nu (V 25 0) + 4) p)) 25 (V 25 0 + 1)
theorem ok_2h {x : Int32} (h : ok_ x 1000000) (h2 : ¬ 200 ≤ x) : ok_ x 199 := by
  refine ⟨h.1, ?_⟩
  rw [h.1, show (200 : Int32) = nI 200 from rfl, nI_leI (by decide) (by have := h.2; omega)] at h2
  omega

theorem an_e {D : va_G} {h0 h : hp_T} {y : Nat} {A : Nat → Nat} {V W : vT} (e : V = W) (hM : mq D h0 h y A W) : mq D h0 h y A V := e ▸ hM
theorem k_MD_answered_0 : px_dec prog_9_method_35_code [.aload_n 0, .iload 5] 0 = true := by decide +kernel
theorem d_MD_answered_3 : decode prog_9_method_35_code 3 = .ok (.putfield 140, 3) := by decide +kernel
theorem k_MD_answered_6 : px_dec prog_9_method_35_code [.aload_n 0, .iconst 0] 6 = true := by decide +kernel
theorem d_MD_answered_8 : decode prog_9_method_35_code 8 = .ok (.putfield 115, 3) := by decide +kernel
theorem k_MD_answered_11 : px_dec prog_9_method_35_code [.iload 6] 11 = true := by decide +kernel
theorem d_MD_answered_13 : decode prog_9_method_35_code 13 = .ok (.ifCond .ne 6, 3) := by decide +kernel
theorem k_MD_answered_19 : px_dec prog_9_method_35_code [.aload_n 0] 19 = true := by decide +kernel
theorem d_MD_answered_20 : decode prog_9_method_35_code 20 = .ok (.getfield 143, 3) := by decide +kernel
theorem k_MD_answered_23 : px_dec prog_9_method_35_code [.sipush 200] 23 = true := by decide +kernel
theorem d_MD_answered_26 : decode prog_9_method_35_code 26 = .ok (.if_icmp .ge 73, 3) := by decide +kernel
theorem k_MD_answered_99 : px_dec prog_9_method_35_code [.aload_n 0, .dup] 99 = true := by decide +kernel
theorem d_MD_answered_101 : decode prog_9_method_35_code 101 = .ok (.getfield 143, 3) := by decide +kernel
theorem k_MD_answered_104 : px_dec prog_9_method_35_code [.iconst 1, .iadd] 104 = true := by decide +kernel
theorem d_MD_answered_106 : decode prog_9_method_35_code 106 = .ok (.putfield 143, 3) := by decide +kernel
theorem k_MD_answered_109 : px_dec prog_9_method_35_code [.iload 4] 109 = true := by decide +kernel
theorem d_MD_answered_111 : decode prog_9_method_35_code 111 = .ok (.ireturn, 1) := by decide +kernel
theorem k_MD_answered_29 : px_dec prog_9_method_35_code [.aload_n 0] 29 = true := by decide +kernel
theorem d_MD_answered_30 : decode prog_9_method_35_code 30 = .ok (.getfield 65, 3) := by decide +kernel
theorem k_MD_answered_33 : px_dec prog_9_method_35_code [.iconst 5, .aload_n 0] 33 = true := by decide +kernel
theorem d_MD_answered_35 : decode prog_9_method_35_code 35 = .ok (.getfield 143, 3) := by decide +kernel
theorem k_MD_answered_38 : px_dec prog_9_method_35_code [.imul, .iload_n 1] 38 = true := by decide +kernel
theorem d_MD_answered_40 : decode prog_9_method_35_code 40 = .ok (.iastore, 1) := by decide +kernel
theorem k_MD_answered_41 : px_dec prog_9_method_35_code [.aload_n 0] 41 = true := by decide +kernel
theorem d_MD_answered_42 : decode prog_9_method_35_code 42 = .ok (.getfield 65, 3) := by decide +kernel
theorem k_MD_answered_45 : px_dec prog_9_method_35_code [.iconst 5, .aload_n 0] 45 = true := by decide +kernel
theorem d_MD_answered_47 : decode prog_9_method_35_code 47 = .ok (.getfield 143, 3) := by decide +kernel
theorem k_MD_answered_50 : px_dec prog_9_method_35_code [.imul, .iconst 1, .iadd, .iload_n 2] 50 = true := by decide +kernel
theorem d_MD_answered_54 : decode prog_9_method_35_code 54 = .ok (.iastore, 1) := by decide +kernel
theorem k_MD_answered_55 : px_dec prog_9_method_35_code [.aload_n 0] 55 = true := by decide +kernel
theorem d_MD_answered_56 : decode prog_9_method_35_code 56 = .ok (.getfield 65, 3) := by decide +kernel
theorem k_MD_answered_59 : px_dec prog_9_method_35_code [.iconst 5, .aload_n 0] 59 = true := by decide +kernel
theorem d_MD_answered_61 : decode prog_9_method_35_code 61 = .ok (.getfield 143, 3) := by decide +kernel
theorem k_MD_answered_64 : px_dec prog_9_method_35_code [.imul, .iconst 2, .iadd, .iload_n 3] 64 = true := by decide +kernel
theorem d_MD_answered_68 : decode prog_9_method_35_code 68 = .ok (.iastore, 1) := by decide +kernel
theorem k_MD_answered_69 : px_dec prog_9_method_35_code [.aload_n 0] 69 = true := by decide +kernel
theorem d_MD_answered_70 : decode prog_9_method_35_code 70 = .ok (.getfield 65, 3) := by decide +kernel
theorem k_MD_answered_73 : px_dec prog_9_method_35_code [.iconst 5, .aload_n 0] 73 = true := by decide +kernel
theorem d_MD_answered_75 : decode prog_9_method_35_code 75 = .ok (.getfield 143, 3) := by decide +kernel
theorem k_MD_answered_78 : px_dec prog_9_method_35_code [.imul, .iconst 3, .iadd, .iload 4] 78 = true := by decide +kernel
theorem d_MD_answered_83 : decode prog_9_method_35_code 83 = .ok (.iastore, 1) := by decide +kernel
theorem k_MD_answered_84 : px_dec prog_9_method_35_code [.aload_n 0] 84 = true := by decide +kernel
theorem d_MD_answered_85 : decode prog_9_method_35_code 85 = .ok (.getfield 65, 3) := by decide +kernel
theorem k_MD_answered_88 : px_dec prog_9_method_35_code [.iconst 5, .aload_n 0] 88 = true := by decide +kernel
theorem d_MD_answered_90 : decode prog_9_method_35_code 90 = .ok (.getfield 143, 3) := by decide +kernel
theorem k_MD_answered_93 : px_dec prog_9_method_35_code [.imul, .iconst 4, .iadd, .iload 5] 93 = true := by decide +kernel
theorem d_MD_answered_98 : decode prog_9_method_35_code 98 = .ok (.iastore, 1) := by decide +kernel
theorem k_MD_answered_16 : px_dec prog_9_method_35_code [.iload 4] 16 = true := by decide +kernel
theorem d_MD_answered_18 : decode prog_9_method_35_code 18 = .ok (.ireturn, 1) := by decide +kernel
set_option maxRecDepth 100000 in
set_option maxHeartbeats 4000000 in
theorem c_MD_answered (l : Launch) (D : va_G) (HB : Heap) (h : hp_T) (h0 : hp_T) (y : Nat) (A : Nat → Nat) (V : vT) (u c a r p w : Int32) (hR : ok_ (V 25 0) 1000000) (hM : mq D h0 h y A V) : ct_M l y_MD_answered (.code y_MD_answered prog_9_method_35_code 7 (Option.some Jvm.ClassFile.FieldType.int)) ({ frames := 0, cells := 0, slots := 0, locals := 0 }) D HB [.ref y, .int u, .int c, .int a, .int r, .int p, .int w] h (fun o h2 => o = .inl (some (.int r)) ∧ mq D h0 h2 y A (an_ V u c a r p w)) := by
  refine ct_of (by decide) (Nat.le_of_ble_eq_true rfl) rfl ?_
  intro p_ e_ s_ m_ r_ b_ t_ c_ C hnm
  refine wk_run C k_MD_answered_0 (pc2 := 3) (lv2 := [(0, .ref y), (1, .int u), (2, .int c), (3, .int a), (4, .int r), (5, .int p), (6, .int w)]) (st2 := [.int p, .ref y]) rfl ?_
  refine wm_put C hM 23 (by simp [sc_]) fd_MD_140 rfl d_MD_answered_3 (fun h (hM : mq D h0 h y A (vc (V) 23 p)) => ?_)
  refine wk_run C k_MD_answered_6 (pc2 := 8) (lv2 := [(0, .ref y), (1, .int u), (2, .int c), (3, .int a), (4, .int r), (5, .int p), (6, .int w)]) (st2 := [.int 0, .ref y]) rfl ?_
  refine wm_put C hM 22 (by simp [sc_]) fd_MD_115 rfl d_MD_answered_8 (fun h (hM : mq D h0 h y A (vc (vc (V) 23 p) 22 0)) => ?_)
  refine wk_run C k_MD_answered_11 (pc2 := 13) (lv2 := [(0, .ref y), (1, .int u), (2, .int c), (3, .int a), (4, .int r), (5, .int p), (6, .int w)]) (st2 := [.int w]) rfl ?_
  refine wk_br C d_MD_answered_13 (P := ¬ w = 0) (tgt := 19) (rest := []) rfl (by decide) (fun c1 => ?_) (fun c1 => ?_)
  ·
    refine wk_run C k_MD_answered_19 (pc2 := 20) (lv2 := [(0, .ref y), (1, .int u), (2, .int c), (3, .int a), (4, .int r), (5, .int p), (6, .int w)]) (st2 := [.ref y]) rfl ?_
    refine wk_get (v := .int (V 25 0)) C fd_MD_143 hM.ob rfl d_MD_answered_20 ?_
    refine wk_run C k_MD_answered_23 (pc2 := 26) (lv2 := [(0, .ref y), (1, .int u), (2, .int c), (3, .int a), (4, .int r), (5, .int p), (6, .int w)]) (st2 := [.int 200, .int (V 25 0)]) rfl ?_
    refine wk_br C d_MD_answered_26 (P := 200 ≤ (V 25 0)) (tgt := 99) (rest := []) rfl (by decide) (fun c2 => ?_) (fun c2 => ?_)
    ·
      refine wk_run C k_MD_answered_99 (pc2 := 101) (lv2 := [(0, .ref y), (1, .int u), (2, .int c), (3, .int a), (4, .int r), (5, .int p), (6, .int w)]) (st2 := [.ref y, .ref y]) rfl ?_
      refine wk_get (v := .int (V 25 0)) C fd_MD_143 hM.ob rfl d_MD_answered_101 ?_
      refine wk_run C k_MD_answered_104 (pc2 := 106) (lv2 := [(0, .ref y), (1, .int u), (2, .int c), (3, .int a), (4, .int r), (5, .int p), (6, .int w)]) (st2 := [.int ((V 25 0) + 1), .ref y]) rfl ?_
      refine wm_put C hM 25 (by simp [sc_]) fd_MD_143 rfl d_MD_answered_106 (fun h (hM : mq D h0 h y A (vc (vc (vc (V) 23 p) 22 0) 25 ((V 25 0) + 1))) => ?_)
      refine wk_run C k_MD_answered_109 (pc2 := 111) (lv2 := [(0, .ref y), (1, .int u), (2, .int c), (3, .int a), (4, .int r), (5, .int p), (6, .int w)]) (st2 := [.int r]) rfl ?_
      exact wk_iret C ⟨rfl, an_e (by clear C hnm hM; grind [an_]) hM⟩ (by decide) (by decide) d_MD_answered_111
    ·
      refine wk_run C k_MD_answered_29 (pc2 := 30) (lv2 := [(0, .ref y), (1, .int u), (2, .int c), (3, .int a), (4, .int r), (5, .int p), (6, .int w)]) (st2 := [.ref y]) rfl ?_
      refine wk_get (v := .ref (A 24)) C fd_MD_65 hM.ob rfl d_MD_answered_30 ?_
      refine wk_run C k_MD_answered_33 (pc2 := 35) (lv2 := [(0, .ref y), (1, .int u), (2, .int c), (3, .int a), (4, .int r), (5, .int p), (6, .int w)]) (st2 := [.ref y, .int 5, .ref (A 24)]) rfl ?_
      refine wk_get (v := .int (V 25 0)) C fd_MD_143 hM.ob rfl d_MD_answered_35 ?_
      refine wk_run C k_MD_answered_38 (pc2 := 40) (lv2 := [(0, .ref y), (1, .int u), (2, .int c), (3, .int a), (4, .int r), (5, .int p), (6, .int w)]) (st2 := [.int u, .int (5 * (V 25 0)), .ref (A 24)]) rfl ?_
      refine wm_st C hM 24 (j := (5 * nu (V 25 0))) rfl (nx0_ (k := 5) (m := 199) (ok_2h hR c2) (by decide) (by decide)).1 (nx0_ (k := 5) (m := 199) (N := 1000) (ok_2h hR c2) (by decide) (by decide)).2 d_MD_answered_40 (fun h (hM : mq D h0 h y A (vs (vc (vc (V) 23 p) 22 0) 24 (upd (V 24) (5 * nu (V 25 0)) u))) => ?_)
      refine wk_run C k_MD_answered_41 (pc2 := 42) (lv2 := [(0, .ref y), (1, .int u), (2, .int c), (3, .int a), (4, .int r), (5, .int p), (6, .int w)]) (st2 := [.ref y]) rfl ?_
      refine wk_get (v := .ref (A 24)) C fd_MD_65 hM.ob rfl d_MD_answered_42 ?_
      refine wk_run C k_MD_answered_45 (pc2 := 47) (lv2 := [(0, .ref y), (1, .int u), (2, .int c), (3, .int a), (4, .int r), (5, .int p), (6, .int w)]) (st2 := [.ref y, .int 5, .ref (A 24)]) rfl ?_
      refine wk_get (v := .int (V 25 0)) C fd_MD_143 hM.ob rfl d_MD_answered_47 ?_
      refine wk_run C k_MD_answered_50 (pc2 := 54) (lv2 := [(0, .ref y), (1, .int u), (2, .int c), (3, .int a), (4, .int r), (5, .int p), (6, .int w)]) (st2 := [.int c, .int ((5 * (V 25 0)) + 1), .ref (A 24)]) rfl ?_
      refine wm_st C hM 24 (j := (5 * nu (V 25 0) + 1)) rfl (nx_ (k := 5) (m := 199) (n := 4) (N := 1000) (b := 1) (ok_2h hR c2) (ok_nI (m := 1) (by decide) (by decide)) (by decide) (by decide)).1 (nx_ (k := 5) (m := 199) (n := 4) (N := 1000) (b := 1) (ok_2h hR c2) (ok_nI (m := 1) (by decide) (by decide)) (by decide) (by decide)).2 d_MD_answered_54 (fun h (hM : mq D h0 h y A (vs (vs (vc (vc (V) 23 p) 22 0) 24 (upd (V 24) (5 * nu (V 25 0)) u)) 24 (upd (upd (V 24) (5 * nu (V 25 0)) u) (5 * nu (V 25 0) + 1) c))) => ?_)
      refine wk_run C k_MD_answered_55 (pc2 := 56) (lv2 := [(0, .ref y), (1, .int u), (2, .int c), (3, .int a), (4, .int r), (5, .int p), (6, .int w)]) (st2 := [.ref y]) rfl ?_
      refine wk_get (v := .ref (A 24)) C fd_MD_65 hM.ob rfl d_MD_answered_56 ?_
      refine wk_run C k_MD_answered_59 (pc2 := 61) (lv2 := [(0, .ref y), (1, .int u), (2, .int c), (3, .int a), (4, .int r), (5, .int p), (6, .int w)]) (st2 := [.ref y, .int 5, .ref (A 24)]) rfl ?_
      refine wk_get (v := .int (V 25 0)) C fd_MD_143 hM.ob rfl d_MD_answered_61 ?_
      refine wk_run C k_MD_answered_64 (pc2 := 68) (lv2 := [(0, .ref y), (1, .int u), (2, .int c), (3, .int a), (4, .int r), (5, .int p), (6, .int w)]) (st2 := [.int a, .int ((5 * (V 25 0)) + 2), .ref (A 24)]) rfl ?_
      refine wm_st C hM 24 (j := (5 * nu (V 25 0) + 2)) rfl (nx_ (k := 5) (m := 199) (n := 4) (N := 1000) (b := 2) (ok_2h hR c2) (ok_nI (m := 2) (by decide) (by decide)) (by decide) (by decide)).1 (nx_ (k := 5) (m := 199) (n := 4) (N := 1000) (b := 2) (ok_2h hR c2) (ok_nI (m := 2) (by decide) (by decide)) (by decide) (by decide)).2 d_MD_answered_68 (fun h (hM : mq D h0 h y A (vs (vs (vs (vc (vc (V) 23 p) 22 0) 24 (upd (V 24) (5 * nu (V 25 0)) u)) 24 (upd (upd (V 24) (5 * nu (V 25 0)) u) (5 * nu (V 25 0) + 1) c)) 24 (upd (upd (upd (V 24) (5 * nu (V 25 0)) u) (5 * nu (V 25 0) + 1) c) (5 * nu (V 25 0) + 2) a))) => ?_)
      refine wk_run C k_MD_answered_69 (pc2 := 70) (lv2 := [(0, .ref y), (1, .int u), (2, .int c), (3, .int a), (4, .int r), (5, .int p), (6, .int w)]) (st2 := [.ref y]) rfl ?_
      refine wk_get (v := .ref (A 24)) C fd_MD_65 hM.ob rfl d_MD_answered_70 ?_
      refine wk_run C k_MD_answered_73 (pc2 := 75) (lv2 := [(0, .ref y), (1, .int u), (2, .int c), (3, .int a), (4, .int r), (5, .int p), (6, .int w)]) (st2 := [.ref y, .int 5, .ref (A 24)]) rfl ?_
      refine wk_get (v := .int (V 25 0)) C fd_MD_143 hM.ob rfl d_MD_answered_75 ?_
      refine wk_run C k_MD_answered_78 (pc2 := 83) (lv2 := [(0, .ref y), (1, .int u), (2, .int c), (3, .int a), (4, .int r), (5, .int p), (6, .int w)]) (st2 := [.int r, .int ((5 * (V 25 0)) + 3), .ref (A 24)]) rfl ?_
      refine wm_st C hM 24 (j := (5 * nu (V 25 0) + 3)) rfl (nx_ (k := 5) (m := 199) (n := 4) (N := 1000) (b := 3) (ok_2h hR c2) (ok_nI (m := 3) (by decide) (by decide)) (by decide) (by decide)).1 (nx_ (k := 5) (m := 199) (n := 4) (N := 1000) (b := 3) (ok_2h hR c2) (ok_nI (m := 3) (by decide) (by decide)) (by decide) (by decide)).2 d_MD_answered_83 (fun h (hM : mq D h0 h y A (vs (vs (vs (vs (vc (vc (V) 23 p) 22 0) 24 (upd (V 24) (5 * nu (V 25 0)) u)) 24 (upd (upd (V 24) (5 * nu (V 25 0)) u) (5 * nu (V 25 0) + 1) c)) 24 (upd (upd (upd (V 24) (5 * nu (V 25 0)) u) (5 * nu (V 25 0) + 1) c) (5 * nu (V 25 0) + 2) a)) 24 (upd (upd (upd (upd (V 24) (5 * nu (V 25 0)) u) (5 * nu (V 25 0) + 1) c) (5 * nu (V 25 0) + 2) a) (5 * nu (V 25 0) + 3) r))) => ?_)
      refine wk_run C k_MD_answered_84 (pc2 := 85) (lv2 := [(0, .ref y), (1, .int u), (2, .int c), (3, .int a), (4, .int r), (5, .int p), (6, .int w)]) (st2 := [.ref y]) rfl ?_
      refine wk_get (v := .ref (A 24)) C fd_MD_65 hM.ob rfl d_MD_answered_85 ?_
      refine wk_run C k_MD_answered_88 (pc2 := 90) (lv2 := [(0, .ref y), (1, .int u), (2, .int c), (3, .int a), (4, .int r), (5, .int p), (6, .int w)]) (st2 := [.ref y, .int 5, .ref (A 24)]) rfl ?_
      refine wk_get (v := .int (V 25 0)) C fd_MD_143 hM.ob rfl d_MD_answered_90 ?_
      refine wk_run C k_MD_answered_93 (pc2 := 98) (lv2 := [(0, .ref y), (1, .int u), (2, .int c), (3, .int a), (4, .int r), (5, .int p), (6, .int w)]) (st2 := [.int p, .int ((5 * (V 25 0)) + 4), .ref (A 24)]) rfl ?_
      refine wm_st C hM 24 (j := (5 * nu (V 25 0) + 4)) rfl (nx_ (k := 5) (m := 199) (n := 4) (N := 1000) (b := 4) (ok_2h hR c2) (ok_nI (m := 4) (by decide) (by decide)) (by decide) (by decide)).1 (nx_ (k := 5) (m := 199) (n := 4) (N := 1000) (b := 4) (ok_2h hR c2) (ok_nI (m := 4) (by decide) (by decide)) (by decide) (by decide)).2 d_MD_answered_98 (fun h (hM : mq D h0 h y A (vs (vs (vs (vs (vs (vc (vc (V) 23 p) 22 0) 24 (upd (V 24) (5 * nu (V 25 0)) u)) 24 (upd (upd (V 24) (5 * nu (V 25 0)) u) (5 * nu (V 25 0) + 1) c)) 24 (upd (upd (upd (V 24) (5 * nu (V 25 0)) u) (5 * nu (V 25 0) + 1) c) (5 * nu (V 25 0) + 2) a)) 24 (upd (upd (upd (upd (V 24) (5 * nu (V 25 0)) u) (5 * nu (V 25 0) + 1) c) (5 * nu (V 25 0) + 2) a) (5 * nu (V 25 0) + 3) r)) 24 (upd (upd (upd (upd (upd (V 24) (5 * nu (V 25 0)) u) (5 * nu (V 25 0) + 1) c) (5 * nu (V 25 0) + 2) a) (5 * nu (V 25 0) + 3) r) (5 * nu (V 25 0) + 4) p))) => ?_)
      refine wk_run C k_MD_answered_99 (pc2 := 101) (lv2 := [(0, .ref y), (1, .int u), (2, .int c), (3, .int a), (4, .int r), (5, .int p), (6, .int w)]) (st2 := [.ref y, .ref y]) rfl ?_
      refine wk_get (v := .int (V 25 0)) C fd_MD_143 hM.ob rfl d_MD_answered_101 ?_
      refine wk_run C k_MD_answered_104 (pc2 := 106) (lv2 := [(0, .ref y), (1, .int u), (2, .int c), (3, .int a), (4, .int r), (5, .int p), (6, .int w)]) (st2 := [.int ((V 25 0) + 1), .ref y]) rfl ?_
      refine wm_put C hM 25 (by simp [sc_]) fd_MD_143 rfl d_MD_answered_106 (fun h (hM : mq D h0 h y A (vc (vs (vs (vs (vs (vs (vc (vc (V) 23 p) 22 0) 24 (upd (V 24) (5 * nu (V 25 0)) u)) 24 (upd (upd (V 24) (5 * nu (V 25 0)) u) (5 * nu (V 25 0) + 1) c)) 24 (upd (upd (upd (V 24) (5 * nu (V 25 0)) u) (5 * nu (V 25 0) + 1) c) (5 * nu (V 25 0) + 2) a)) 24 (upd (upd (upd (upd (V 24) (5 * nu (V 25 0)) u) (5 * nu (V 25 0) + 1) c) (5 * nu (V 25 0) + 2) a) (5 * nu (V 25 0) + 3) r)) 24 (upd (upd (upd (upd (upd (V 24) (5 * nu (V 25 0)) u) (5 * nu (V 25 0) + 1) c) (5 * nu (V 25 0) + 2) a) (5 * nu (V 25 0) + 3) r) (5 * nu (V 25 0) + 4) p)) 25 ((V 25 0) + 1))) => ?_)
      refine wk_run C k_MD_answered_109 (pc2 := 111) (lv2 := [(0, .ref y), (1, .int u), (2, .int c), (3, .int a), (4, .int r), (5, .int p), (6, .int w)]) (st2 := [.int r]) rfl ?_
      exact wk_iret C ⟨rfl, an_e (by clear C hnm hM; grind [an_]) hM⟩ (by decide) (by decide) d_MD_answered_111
  ·
    refine wk_run C k_MD_answered_16 (pc2 := 18) (lv2 := [(0, .ref y), (1, .int u), (2, .int c), (3, .int a), (4, .int r), (5, .int p), (6, .int w)]) (st2 := [.int r]) rfl ?_
    exact wk_iret C ⟨rfl, an_e (by clear C hnm hM; grind [an_]) hM⟩ (by decide) (by decide) d_MD_answered_18
/-- the hour of a time -/
abbrev hr_ (t : Int64) : Int32 := ((t / 60) - (t / 60) / 24 * 24).toInt32
abbrev io_ (V : vT) (a u : Nat) (t : Int64) : Prop := (V 19 a = 0 ∨ V 19 a = V 3 u) ∧ ((V 20 a) >>> ((hr_ t) &&& 31)) &&& 1 = 1
theorem k_MD_isOpen_0 : px_dec prog_9_method_33_code [.iload_n 1, .iconst (-1)] 0 = true := by decide +kernel
theorem d_MD_isOpen_2 : decode prog_9_method_33_code 2 = .ok (.if_icmp .ne 5, 3) := by decide +kernel
theorem k_MD_isOpen_5 : px_dec prog_9_method_33_code [.iconst 0] 5 = true := by decide +kernel
theorem d_MD_isOpen_6 : decode prog_9_method_33_code 6 = .ok (.ireturn, 1) := by decide +kernel
set_option maxRecDepth 100000 in
set_option maxHeartbeats 4000000 in
theorem c_MD_isOpenN (l : Launch) (D : va_G) (HB : Heap) (h : hp_T) (h0 : hp_T) (y : Nat) (A : Nat → Nat) (V : vT) (u : Int32) (t : Int64) (hM : mq D h0 h y A V) : ct_M l y_MD_isOpen (.code y_MD_isOpen prog_9_method_33_code 6 (Option.some Jvm.ClassFile.FieldType.boolean)) ({ frames := 0, cells := 0, slots := 0, locals := 0 }) D HB [.ref y, .int (-1), .int u, .long t] h (fun o h2 => o = .inl (some (.int 0)) ∧ h2 = h) := by
  refine ct_of (by decide) (Nat.le_of_ble_eq_true rfl) rfl ?_
  intro p_ e_ s_ m_ r_ b_ t_ c_ C hnm
  refine wk_run C k_MD_isOpen_0 (pc2 := 2) (lv2 := [(0, .ref y), (1, .int (-1)), (2, .int u), (3, .long t)]) (st2 := [.int (-1), .int (-1)]) rfl ?_
  refine wk_br C d_MD_isOpen_2 (P := ¬ (-1) = (-1)) (tgt := 7) (rest := []) rfl (by decide) (fun c1 => ?_) (fun c1 => ?_)
  ·
    exact absurd c1 (by decide)
  ·
    refine wk_run C k_MD_isOpen_5 (pc2 := 6) (lv2 := [(0, .ref y), (1, .int (-1)), (2, .int u), (3, .long t)]) (st2 := [.int 0]) rfl ?_
    exact wk_zret C rfl ⟨rfl, rfl⟩ (by decide) (by decide) d_MD_isOpen_6
theorem nI_nm {a : Nat} (h : a < 2 ^ 31) : ¬ nI a = -1 := by
  intro z
  have := congrArg Int32.toInt z
  rw [nI_toInt h, show (-1 : Int32).toInt = -1 by decide] at this
  omega
theorem k_MD_isOpen_7 : px_dec prog_9_method_33_code [.aload_n 0] 7 = true := by decide +kernel
theorem d_MD_isOpen_8 : decode prog_9_method_33_code 8 = .ok (.getfield 56, 3) := by decide +kernel
theorem k_MD_isOpen_11 : px_dec prog_9_method_33_code [.iload_n 1] 11 = true := by decide +kernel
theorem d_MD_isOpen_12 : decode prog_9_method_33_code 12 = .ok (.iaload, 1) := by decide +kernel
theorem d_MD_isOpen_13 : decode prog_9_method_33_code 13 = .ok (.ifCond .eq 18, 3) := by decide +kernel
theorem k_MD_isOpen_31 : px_dec prog_9_method_33_code [.iconst 1] 31 = true := by decide +kernel
theorem d_MD_isOpen_32 : decode prog_9_method_33_code 32 = .ok (.goto 4, 3) := by decide +kernel
theorem k_MD_isOpen_36 : px_dec prog_9_method_33_code [.istore 5, .iload 5] 36 = true := by decide +kernel
theorem d_MD_isOpen_40 : decode prog_9_method_33_code 40 = .ok (.ifCond .eq 30, 3) := by decide +kernel
theorem k_MD_isOpen_43 : px_dec prog_9_method_33_code [.aload_n 0] 43 = true := by decide +kernel
theorem d_MD_isOpen_44 : decode prog_9_method_33_code 44 = .ok (.getfield 59, 3) := by decide +kernel
theorem k_MD_isOpen_47 : px_dec prog_9_method_33_code [.iload_n 1] 47 = true := by decide +kernel
theorem d_MD_isOpen_48 : decode prog_9_method_33_code 48 = .ok (.iaload, 1) := by decide +kernel
theorem k_MD_isOpen_49 : px_dec prog_9_method_33_code [.lload_n 3] 49 = true := by decide +kernel
theorem d_MD_isOpen_50 : decode prog_9_method_33_code 50 = .ok (.ldc2_w 132, 3) := by decide +kernel
theorem d_MD_isOpen_53 : decode prog_9_method_33_code 53 = .ok (.ldiv, 1) := by decide +kernel
theorem d_MD_isOpen_54 : decode prog_9_method_33_code 54 = .ok (.ldc2_w 134, 3) := by decide +kernel
theorem d_MD_isOpen_57 : decode prog_9_method_33_code 57 = .ok (.lrem, 1) := by decide +kernel
theorem k_MD_isOpen_58 : px_dec prog_9_method_33_code [.l2i, .ishr, .iconst 1, .iand, .iconst 1] 58 = true := by decide +kernel
theorem d_MD_isOpen_63 : decode prog_9_method_33_code 63 = .ok (.if_icmp .ne 7, 3) := by decide +kernel
theorem k_MD_isOpen_70 : px_dec prog_9_method_33_code [.iconst 0] 70 = true := by decide +kernel
theorem d_MD_isOpen_71 : decode prog_9_method_33_code 71 = .ok (.ireturn, 1) := by decide +kernel
theorem k_MD_isOpen_66 : px_dec prog_9_method_33_code [.iconst 1] 66 = true := by decide +kernel
theorem d_MD_isOpen_67 : decode prog_9_method_33_code 67 = .ok (.goto 4, 3) := by decide +kernel
theorem k_MD_isOpen_16 : px_dec prog_9_method_33_code [.aload_n 0] 16 = true := by decide +kernel
theorem d_MD_isOpen_17 : decode prog_9_method_33_code 17 = .ok (.getfield 56, 3) := by decide +kernel
theorem k_MD_isOpen_20 : px_dec prog_9_method_33_code [.iload_n 1] 20 = true := by decide +kernel
theorem d_MD_isOpen_21 : decode prog_9_method_33_code 21 = .ok (.iaload, 1) := by decide +kernel
theorem k_MD_isOpen_22 : px_dec prog_9_method_33_code [.aload_n 0] 22 = true := by decide +kernel
theorem d_MD_isOpen_23 : decode prog_9_method_33_code 23 = .ok (.getfield 16, 3) := by decide +kernel
theorem k_MD_isOpen_26 : px_dec prog_9_method_33_code [.iload_n 2] 26 = true := by decide +kernel
theorem d_MD_isOpen_27 : decode prog_9_method_33_code 27 = .ok (.iaload, 1) := by decide +kernel
theorem d_MD_isOpen_28 : decode prog_9_method_33_code 28 = .ok (.if_icmp .ne 7, 3) := by decide +kernel
theorem k_MD_isOpen_35 : px_dec prog_9_method_33_code [.iconst 0, .istore 5, .iload 5] 35 = true := by decide +kernel
set_option maxRecDepth 100000 in
set_option maxHeartbeats 4000000 in
theorem c_MD_isOpen (l : Launch) (D : va_G) (HB : Heap) (h : hp_T) (h0 : hp_T) (y : Nat) (A : Nat → Nat) (V : vT) (a : Nat) (u : Int32) (t : Int64) (ha : a < 610) (hu : ok_ u 40) (hM : mq D h0 h y A V) : ct_M l y_MD_isOpen (.code y_MD_isOpen prog_9_method_33_code 6 (Option.some Jvm.ClassFile.FieldType.boolean)) ({ frames := 0, cells := 0, slots := 0, locals := 0 }) D HB [.ref y, .int (nI a), .int u, .long t] h (fun o h2 => o = .inl (some (.int (if io_ V a (nu u) t then (1 : Int32) else 0))) ∧ h2 = h) := by
  refine ct_of (by decide) (Nat.le_of_ble_eq_true rfl) rfl ?_
  intro p_ e_ s_ m_ r_ b_ t_ c_ C hnm
  refine wk_run C k_MD_isOpen_0 (pc2 := 2) (lv2 := [(0, .ref y), (1, .int (nI a)), (2, .int u), (3, .long t)]) (st2 := [.int (-1), .int (nI a)]) rfl ?_
  refine wk_br C d_MD_isOpen_2 (P := ¬ (nI a) = (-1)) (tgt := 7) (rest := []) rfl (by decide) (fun c1 => ?_) (fun c1 => ?_)
  ·
    refine wk_run C k_MD_isOpen_7 (pc2 := 8) (lv2 := [(0, .ref y), (1, .int (nI a)), (2, .int u), (3, .long t)]) (st2 := [.ref y]) rfl ?_
    refine wk_get (v := .ref (A 19)) C fd_MD_56 hM.ob rfl d_MD_isOpen_8 ?_
    refine wk_run C k_MD_isOpen_11 (pc2 := 12) (lv2 := [(0, .ref y), (1, .int (nI a)), (2, .int u), (3, .long t)]) (st2 := [.int (nI a), .ref (A 19)]) rfl ?_
    refine wm_ld C hM 19 (j := a) rfl (vi_k (ok_nI (Nat.le_of_lt_succ ha) (by decide)) (by decide) (by decide)) (nu_nI (by omega)) d_MD_isOpen_12 ?_
    show Wk _ _ _ _ _ _ _ _ _ _ _ _ _ _ _ _ _ _ _ (.int (V 19 a) :: _)
    refine wk_br C d_MD_isOpen_13 (P := (V 19 a) = 0) (tgt := 31) (rest := []) rfl (by decide) (fun c2 => ?_) (fun c2 => ?_)
    ·
      refine wk_run C k_MD_isOpen_31 (pc2 := 32) (lv2 := [(0, .ref y), (1, .int (nI a)), (2, .int u), (3, .long t)]) (st2 := [.int 1]) rfl ?_
      refine wk_goto C d_MD_isOpen_32 (tgt := 36) (by decide) ?_
      refine wk_run C k_MD_isOpen_36 (pc2 := 40) (lv2 := [(5, .int 1), (0, .ref y), (1, .int (nI a)), (2, .int u), (3, .long t)]) (st2 := [.int 1]) rfl ?_
      refine wk_br C d_MD_isOpen_40 (P := 1 = 0) (tgt := 70) (rest := []) rfl (by decide) (fun c3 => ?_) (fun c3 => ?_)
      ·
        exact absurd c3 (by decide)
      ·
        refine wk_run C k_MD_isOpen_43 (pc2 := 44) (lv2 := [(5, .int 1), (0, .ref y), (1, .int (nI a)), (2, .int u), (3, .long t)]) (st2 := [.ref y]) rfl ?_
        refine wk_get (v := .ref (A 20)) C fd_MD_59 hM.ob rfl d_MD_isOpen_44 ?_
        refine wk_run C k_MD_isOpen_47 (pc2 := 48) (lv2 := [(5, .int 1), (0, .ref y), (1, .int (nI a)), (2, .int u), (3, .long t)]) (st2 := [.int (nI a), .ref (A 20)]) rfl ?_
        refine wm_ld C hM 20 (j := a) rfl (vi_k (ok_nI (Nat.le_of_lt_succ ha) (by decide)) (by decide) (by decide)) (nu_nI (by omega)) d_MD_isOpen_48 ?_
        show Wk _ _ _ _ _ _ _ _ _ _ _ _ _ _ _ _ _ _ _ (.int (V 20 a) :: _)
        refine wk_run C k_MD_isOpen_49 (pc2 := 50) (lv2 := [(5, .int 1), (0, .ref y), (1, .int (nI a)), (2, .int u), (3, .long t)]) (st2 := [.long t, .int (V 20 a)]) rfl ?_
        refine wk_ldc2 C kl_MD_132 d_MD_isOpen_50 ?_
        refine wk_ldiv C d_MD_isOpen_53 (by decide) ?_
        refine wk_ldc2 C kl_MD_134 d_MD_isOpen_54 ?_
        refine wk_lrem C d_MD_isOpen_57 (by decide) ?_
        refine wk_run C k_MD_isOpen_58 (pc2 := 63) (lv2 := [(5, .int 1), (0, .ref y), (1, .int (nI a)), (2, .int u), (3, .long t)]) (st2 := [.int 1, .int (((V 20 a) >>> ((((t / 60) - (t / 60) / 24 * 24).toInt32) &&& 31)) &&& 1)]) rfl ?_
        refine wk_br C d_MD_isOpen_63 (P := ¬ (((V 20 a) >>> ((((t / 60) - (t / 60) / 24 * 24).toInt32) &&& 31)) &&& 1) = 1) (tgt := 70) (rest := []) rfl (by decide) (fun c4 => ?_) (fun c4 => ?_)
        ·
          refine wk_run C k_MD_isOpen_70 (pc2 := 71) (lv2 := [(5, .int 1), (0, .ref y), (1, .int (nI a)), (2, .int u), (3, .long t)]) (st2 := [.int 0]) rfl ?_
          exact wk_zret C rfl ⟨by rw [if_neg (by clear C hM hnm; grind)], rfl⟩ (by decide) (by decide) d_MD_isOpen_71
        ·
          refine wk_run C k_MD_isOpen_66 (pc2 := 67) (lv2 := [(5, .int 1), (0, .ref y), (1, .int (nI a)), (2, .int u), (3, .long t)]) (st2 := [.int 1]) rfl ?_
          refine wk_goto C d_MD_isOpen_67 (tgt := 71) (by decide) ?_
          exact wk_zret C rfl ⟨by rw [if_pos (by clear C hM hnm; grind)], rfl⟩ (by decide) (by decide) d_MD_isOpen_71
    ·
      refine wk_run C k_MD_isOpen_16 (pc2 := 17) (lv2 := [(0, .ref y), (1, .int (nI a)), (2, .int u), (3, .long t)]) (st2 := [.ref y]) rfl ?_
      refine wk_get (v := .ref (A 19)) C fd_MD_56 hM.ob rfl d_MD_isOpen_17 ?_
      refine wk_run C k_MD_isOpen_20 (pc2 := 21) (lv2 := [(0, .ref y), (1, .int (nI a)), (2, .int u), (3, .long t)]) (st2 := [.int (nI a), .ref (A 19)]) rfl ?_
      refine wm_ld C hM 19 (j := a) rfl (vi_k (ok_nI (Nat.le_of_lt_succ ha) (by decide)) (by decide) (by decide)) (nu_nI (by omega)) d_MD_isOpen_21 ?_
      show Wk _ _ _ _ _ _ _ _ _ _ _ _ _ _ _ _ _ _ _ (.int (V 19 a) :: _)
      refine wk_run C k_MD_isOpen_22 (pc2 := 23) (lv2 := [(0, .ref y), (1, .int (nI a)), (2, .int u), (3, .long t)]) (st2 := [.ref y, .int (V 19 a)]) rfl ?_
      refine wk_get (v := .ref (A 3)) C fd_MD_16 hM.ob rfl d_MD_isOpen_23 ?_
      refine wk_run C k_MD_isOpen_26 (pc2 := 27) (lv2 := [(0, .ref y), (1, .int (nI a)), (2, .int u), (3, .long t)]) (st2 := [.int u, .ref (A 3), .int (V 19 a)]) rfl ?_
      refine wm_ld C hM 3 (j := nu u) rfl (vi_k hu (by decide) (by decide)) rfl d_MD_isOpen_27 ?_
      show Wk _ _ _ _ _ _ _ _ _ _ _ _ _ _ _ _ _ _ _ (.int (V 3 (nu u)) :: _)
      refine wk_br C d_MD_isOpen_28 (P := ¬ (V 19 a) = (V 3 (nu u))) (tgt := 35) (rest := []) rfl (by decide) (fun c5 => ?_) (fun c5 => ?_)
      ·
        refine wk_run C k_MD_isOpen_35 (pc2 := 40) (lv2 := [(5, .int 0), (0, .ref y), (1, .int (nI a)), (2, .int u), (3, .long t)]) (st2 := [.int 0]) rfl ?_
        refine wk_br C d_MD_isOpen_40 (P := 0 = 0) (tgt := 70) (rest := []) rfl (by decide) (fun c6 => ?_) (fun c6 => ?_)
        ·
          refine wk_run C k_MD_isOpen_70 (pc2 := 71) (lv2 := [(5, .int 0), (0, .ref y), (1, .int (nI a)), (2, .int u), (3, .long t)]) (st2 := [.int 0]) rfl ?_
          exact wk_zret C rfl ⟨by rw [if_neg (by clear C hM hnm; grind)], rfl⟩ (by decide) (by decide) d_MD_isOpen_71
        ·
          exact absurd (by decide) c6
      ·
        refine wk_run C k_MD_isOpen_31 (pc2 := 32) (lv2 := [(0, .ref y), (1, .int (nI a)), (2, .int u), (3, .long t)]) (st2 := [.int 1]) rfl ?_
        refine wk_goto C d_MD_isOpen_32 (tgt := 36) (by decide) ?_
        refine wk_run C k_MD_isOpen_36 (pc2 := 40) (lv2 := [(5, .int 1), (0, .ref y), (1, .int (nI a)), (2, .int u), (3, .long t)]) (st2 := [.int 1]) rfl ?_
        refine wk_br C d_MD_isOpen_40 (P := 1 = 0) (tgt := 70) (rest := []) rfl (by decide) (fun c7 => ?_) (fun c7 => ?_)
        ·
          exact absurd c7 (by decide)
        ·
          refine wk_run C k_MD_isOpen_43 (pc2 := 44) (lv2 := [(5, .int 1), (0, .ref y), (1, .int (nI a)), (2, .int u), (3, .long t)]) (st2 := [.ref y]) rfl ?_
          refine wk_get (v := .ref (A 20)) C fd_MD_59 hM.ob rfl d_MD_isOpen_44 ?_
          refine wk_run C k_MD_isOpen_47 (pc2 := 48) (lv2 := [(5, .int 1), (0, .ref y), (1, .int (nI a)), (2, .int u), (3, .long t)]) (st2 := [.int (nI a), .ref (A 20)]) rfl ?_
          refine wm_ld C hM 20 (j := a) rfl (vi_k (ok_nI (Nat.le_of_lt_succ ha) (by decide)) (by decide) (by decide)) (nu_nI (by omega)) d_MD_isOpen_48 ?_
          show Wk _ _ _ _ _ _ _ _ _ _ _ _ _ _ _ _ _ _ _ (.int (V 20 a) :: _)
          refine wk_run C k_MD_isOpen_49 (pc2 := 50) (lv2 := [(5, .int 1), (0, .ref y), (1, .int (nI a)), (2, .int u), (3, .long t)]) (st2 := [.long t, .int (V 20 a)]) rfl ?_
          refine wk_ldc2 C kl_MD_132 d_MD_isOpen_50 ?_
          refine wk_ldiv C d_MD_isOpen_53 (by decide) ?_
          refine wk_ldc2 C kl_MD_134 d_MD_isOpen_54 ?_
          refine wk_lrem C d_MD_isOpen_57 (by decide) ?_
          refine wk_run C k_MD_isOpen_58 (pc2 := 63) (lv2 := [(5, .int 1), (0, .ref y), (1, .int (nI a)), (2, .int u), (3, .long t)]) (st2 := [.int 1, .int (((V 20 a) >>> ((((t / 60) - (t / 60) / 24 * 24).toInt32) &&& 31)) &&& 1)]) rfl ?_
          refine wk_br C d_MD_isOpen_63 (P := ¬ (((V 20 a) >>> ((((t / 60) - (t / 60) / 24 * 24).toInt32) &&& 31)) &&& 1) = 1) (tgt := 70) (rest := []) rfl (by decide) (fun c8 => ?_) (fun c8 => ?_)
          ·
            refine wk_run C k_MD_isOpen_70 (pc2 := 71) (lv2 := [(5, .int 1), (0, .ref y), (1, .int (nI a)), (2, .int u), (3, .long t)]) (st2 := [.int 0]) rfl ?_
            exact wk_zret C rfl ⟨by rw [if_neg (by clear C hM hnm; grind)], rfl⟩ (by decide) (by decide) d_MD_isOpen_71
          ·
            refine wk_run C k_MD_isOpen_66 (pc2 := 67) (lv2 := [(5, .int 1), (0, .ref y), (1, .int (nI a)), (2, .int u), (3, .long t)]) (st2 := [.int 1]) rfl ?_
            refine wk_goto C d_MD_isOpen_67 (tgt := 71) (by decide) ?_
            exact wk_zret C rfl ⟨by rw [if_pos (by clear C hM hnm; grind)], rfl⟩ (by decide) (by decide) d_MD_isOpen_71
  ·
    refine wk_run C k_MD_isOpen_5 (pc2 := 6) (lv2 := [(0, .ref y), (1, .int (nI a)), (2, .int u), (3, .long t)]) (st2 := [.int 0]) rfl ?_
    exact wk_zret C rfl ⟨absurd (Classical.not_not.mp c1) (nI_nm (by omega)), rfl⟩ (by decide) (by decide) d_MD_isOpen_6
