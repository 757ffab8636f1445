theorem ok_u {u : Int32} {n : Nat} (hu : ¬ u < 1 ∧ u ≤ nI n) (hn : n ≤ 100) : 1 ≤ nu u ∧ nu u ≤ n ∧ u = nI (nu u) ∧ u - 1 = nI (nu u - 1) := by
  have k := ok_r hu.1 hu.2 (ok_nI (Nat.le_refl n) (by omega)) (by omega)
  have k1 := ok_1 k hu.1 (by omega)
  refine ⟨k1, k.2, k.1, ?_⟩
  rw [k.1, nu_nI (by have := k.2; omega), ← nI_pred (nu u - 1), show nu u - 1 + 1 = nu u by omega]
theorem k_PR_groupAt_0 : px_dec prog_1_method_22_code [.iload_n 1, .iconst 1] 0 = true := by decide +kernel
theorem d_PR_groupAt_2 : decode prog_1_method_22_code 2 = .ok (.if_icmp .lt 14, 3) := by decide +kernel
theorem k_PR_groupAt_5 : px_dec prog_1_method_22_code [.iload_n 1, .aload_n 0] 5 = true := by decide +kernel
theorem d_PR_groupAt_7 : decode prog_1_method_22_code 7 = .ok (.getfield 12, 3) := by decide +kernel
theorem d_PR_groupAt_10 : decode prog_1_method_22_code 10 = .ok (.invokevirtual 48, 3) := by decide +kernel
theorem d_PR_groupAt_13 : decode prog_1_method_22_code 13 = .ok (.if_icmp .le 13, 3) := by decide +kernel
theorem k_PR_groupAt_26 : px_dec prog_1_method_22_code [.aload_n 0] 26 = true := by decide +kernel
theorem d_PR_groupAt_27 : decode prog_1_method_22_code 27 = .ok (.getfield 12, 3) := by decide +kernel
theorem k_PR_groupAt_30 : px_dec prog_1_method_22_code [.iload_n 1, .iconst 1, .isub] 30 = true := by decide +kernel
theorem d_PR_groupAt_33 : decode prog_1_method_22_code 33 = .ok (.invokevirtual 201, 3) := by decide +kernel
theorem d_PR_groupAt_36 : decode prog_1_method_22_code 36 = .ok (.checkcast 59, 3) := by decide +kernel
theorem d_PR_groupAt_39 : decode prog_1_method_22_code 39 = .ok (.areturn, 1) := by decide +kernel
set_option maxRecDepth 100000 in
set_option maxHeartbeats 4000000 in
theorem c_PR_groupAtY (l : Launch) (D : va_G) (HB : Heap) (h : hp_T) (x gl ul pl mo aq tr : Nat) (la : Int32) (hx : h x = some (.inr (0, [.ref gl, .ref ul, .ref pl, .ref mo, .ref aq, .ref tr, .int la]))) (b n : Nat) (f : Nat → Nat) (hL : al_ok D h gl b n f) (hn : n ≤ 100) (u : Int32) (fs : List Value) (hf : h (f (nu u - 1)) = some (.inr (1, fs))) (hu : ¬ u < 1 ∧ u ≤ nI n) : ct_M l y_PR_groupAt (.code y_PR_groupAt prog_1_method_22_code 2 (Option.some (Jvm.ClassFile.FieldType.object "ProfileRights$Group"))) ({ frames := 6, cells := 1, slots := 6, locals := 90 }) D HB [.ref x, .int u] h (fun o h2 => o = .inl (some (.ref (f (nu u - 1)))) ∧ h2 = h) := by
  refine ct_of (by decide) (Nat.le_of_ble_eq_true rfl) rfl ?_
  intro p_ e_ s_ m_ r_ b_ t_ c_ C hnm
  obtain ⟨md, hl, -⟩ := id hL
  have ku := ok_u hu hn
  refine wk_run C k_PR_groupAt_0 (pc2 := 2) (lv2 := [(0, .ref x), (1, .int u)]) (st2 := [.int 1, .int u]) rfl ?_
  refine wk_br C d_PR_groupAt_2 (P := u < 1) (tgt := 16) (rest := []) rfl (by decide) (fun c1 => ?_) (fun c1 => ?_)
  ·
    exact absurd (show u < 1 from c1) hu.1
  ·
    refine wk_run C k_PR_groupAt_5 (pc2 := 7) (lv2 := [(0, .ref x), (1, .int u)]) (st2 := [.ref x, .int u]) rfl ?_
    refine wk_get C fd_PR_12 hx rfl d_PR_groupAt_7 ?_
    refine wk_callV (cl := ("java/util/ArrayList", T_AL, 3)) (rest := [.int u]) C (al_size l HB hL) cs_PR_48 kc_AL_size ki_AL hl rfl rfl rfl (Nat.le_of_ble_eq_true rfl) (Nat.le_of_ble_eq_true rfl) (Nat.le_of_ble_eq_true rfl) (Nat.le_of_ble_eq_true rfl) (Nat.le_of_ble_eq_true rfl) d_PR_groupAt_10 (fun v h2 hq => ?_) (fun _ _ z => nomatch z.1)
    obtain ⟨e1, e2⟩ := hq; cases e1; replace e2 := e2.symm; subst e2
    refine wk_br C d_PR_groupAt_13 (P := u ≤ (nI n)) (tgt := 26) (rest := []) rfl (by decide) (fun c2 => ?_) (fun c2 => ?_)
    ·
      refine wk_run C k_PR_groupAt_26 (pc2 := 27) (lv2 := [(0, .ref x), (1, .int u)]) (st2 := [.ref x]) rfl ?_
      refine wk_get C fd_PR_12 hx rfl d_PR_groupAt_27 ?_
      refine wk_run C k_PR_groupAt_30 (pc2 := 33) (lv2 := [(0, .ref x), (1, .int u)]) (st2 := [.int (u - 1), .ref gl]) rfl ?_
      rw [ku.2.2.2]
      refine wk_callV (cl := ("java/util/ArrayList", T_AL, 3)) (rest := []) C (al_get (j := nu u - 1) l HB hL (by omega)) cs_PR_201 kc_AL_get ki_AL hl rfl rfl rfl (Nat.le_of_ble_eq_true rfl) (Nat.le_of_ble_eq_true rfl) (Nat.le_of_ble_eq_true rfl) (Nat.le_of_ble_eq_true rfl) (Nat.le_of_ble_eq_true rfl) d_PR_groupAt_33 (fun v h2 hq => ?_) (fun _ _ z => nomatch z.1)
      obtain ⟨e1, e2⟩ := hq; cases e1; replace e2 := e2.symm; subst e2
      refine wk_cast C hf rfl cl_PR_59 d_PR_groupAt_36 ?_
      exact wk_aret C rfl (Or.inl ⟨_, rfl⟩) (Or.inr ⟨_, rfl⟩) ⟨rfl, rfl⟩ (by decide) (by decide) d_PR_groupAt_39
    ·
      exact absurd hu.2 c2
theorem d_PR_groupAt_16 : decode prog_1_method_22_code 16 = .ok (.new 105, 3) := by decide +kernel
theorem d_PR_groupAt_19 : decode prog_1_method_22_code 19 = .ok (.dup, 1) := by decide +kernel
theorem d_PR_groupAt_20 : decode prog_1_method_22_code 20 = .ok (.ldc 225, 2) := by decide +kernel
theorem d_PR_groupAt_22 : decode prog_1_method_22_code 22 = .ok (.invokespecial 109, 3) := by decide +kernel
theorem d_PR_groupAt_25 : decode prog_1_method_22_code 25 = .ok (.athrow, 1) := by decide +kernel
set_option maxRecDepth 100000 in
set_option maxHeartbeats 4000000 in
theorem c_PR_groupAtN (l : Launch) (D : va_G) (HB : Heap) (h : hp_T) (x gl ul pl mo aq tr : Nat) (la : Int32) (hx : h x = some (.inr (0, [.ref gl, .ref ul, .ref pl, .ref mo, .ref aq, .ref tr, .int la]))) (b n : Nat) (f : Nat → Nat) (hL : al_ok D h gl b n f) (hn : n ≤ 100) (u : Int32) (hlt : l.stackTraces = false) (hu : ¬ (¬ u < 1 ∧ u ≤ nI n)) : ct_M l y_PR_groupAt (.code y_PR_groupAt prog_1_method_22_code 2 (Option.some (Jvm.ClassFile.FieldType.object "ProfileRights$Group"))) ({ frames := 6, cells := 1, slots := 6, locals := 90 }) D HB [.ref x, .int u] h (fun o h2 => o = .inr eA ∧ h2 = h) := by
  refine ct_of (by decide) (Nat.le_of_ble_eq_true rfl) rfl ?_
  intro p_ e_ s_ m_ r_ b_ t_ c_ C hnm
  obtain ⟨md, hl, -⟩ := id hL
  refine wk_run C k_PR_groupAt_0 (pc2 := 2) (lv2 := [(0, .ref x), (1, .int u)]) (st2 := [.int 1, .int u]) rfl ?_
  refine wk_br C d_PR_groupAt_2 (P := u < 1) (tgt := 16) (rest := []) rfl (by decide) (fun c1 => ?_) (fun c1 => ?_)
  ·
    exact wk_thrA C hlt (text := "no such group") (is := 225) (by decide) d_PR_groupAt_16 d_PR_groupAt_19 d_PR_groupAt_20 d_PR_groupAt_22 d_PR_groupAt_25 (by decide) (Nat.le_of_ble_eq_true rfl) (by decide) (by decide) (by decide) (by decide) ⟨rfl, rfl⟩
  ·
    refine wk_run C k_PR_groupAt_5 (pc2 := 7) (lv2 := [(0, .ref x), (1, .int u)]) (st2 := [.ref x, .int u]) rfl ?_
    refine wk_get C fd_PR_12 hx rfl d_PR_groupAt_7 ?_
    refine wk_callV (cl := ("java/util/ArrayList", T_AL, 3)) (rest := [.int u]) C (al_size l HB hL) cs_PR_48 kc_AL_size ki_AL hl rfl rfl rfl (Nat.le_of_ble_eq_true rfl) (Nat.le_of_ble_eq_true rfl) (Nat.le_of_ble_eq_true rfl) (Nat.le_of_ble_eq_true rfl) (Nat.le_of_ble_eq_true rfl) d_PR_groupAt_10 (fun v h2 hq => ?_) (fun _ _ z => nomatch z.1)
    obtain ⟨e1, e2⟩ := hq; cases e1; replace e2 := e2.symm; subst e2
    refine wk_br C d_PR_groupAt_13 (P := u ≤ (nI n)) (tgt := 26) (rest := []) rfl (by decide) (fun c2 => ?_) (fun c2 => ?_)
    ·
      exact absurd ⟨c1, c2⟩ hu
    ·
      exact wk_thrA C hlt (text := "no such group") (is := 225) (by decide) d_PR_groupAt_16 d_PR_groupAt_19 d_PR_groupAt_20 d_PR_groupAt_22 d_PR_groupAt_25 (by decide) (Nat.le_of_ble_eq_true rfl) (by decide) (by decide) (by decide) (by decide) ⟨rfl, rfl⟩
theorem k_PR_userAt_0 : px_dec prog_1_method_24_code [.iload_n 1, .iconst 1] 0 = true := by decide +kernel
theorem d_PR_userAt_2 : decode prog_1_method_24_code 2 = .ok (.if_icmp .lt 14, 3) := by decide +kernel
theorem k_PR_userAt_5 : px_dec prog_1_method_24_code [.iload_n 1, .aload_n 0] 5 = true := by decide +kernel
theorem d_PR_userAt_7 : decode prog_1_method_24_code 7 = .ok (.getfield 16, 3) := by decide +kernel
theorem d_PR_userAt_10 : decode prog_1_method_24_code 10 = .ok (.invokevirtual 48, 3) := by decide +kernel
theorem d_PR_userAt_13 : decode prog_1_method_24_code 13 = .ok (.if_icmp .le 13, 3) := by decide +kernel
theorem k_PR_userAt_26 : px_dec prog_1_method_24_code [.aload_n 0] 26 = true := by decide +kernel
theorem d_PR_userAt_27 : decode prog_1_method_24_code 27 = .ok (.getfield 16, 3) := by decide +kernel
theorem k_PR_userAt_30 : px_dec prog_1_method_24_code [.iload_n 1, .iconst 1, .isub] 30 = true := by decide +kernel
theorem d_PR_userAt_33 : decode prog_1_method_24_code 33 = .ok (.invokevirtual 201, 3) := by decide +kernel
theorem d_PR_userAt_36 : decode prog_1_method_24_code 36 = .ok (.checkcast 81, 3) := by decide +kernel
theorem d_PR_userAt_39 : decode prog_1_method_24_code 39 = .ok (.areturn, 1) := by decide +kernel
set_option maxRecDepth 100000 in
set_option maxHeartbeats 4000000 in
theorem c_PR_userAtY (l : Launch) (D : va_G) (HB : Heap) (h : hp_T) (x gl ul pl mo aq tr : Nat) (la : Int32) (hx : h x = some (.inr (0, [.ref gl, .ref ul, .ref pl, .ref mo, .ref aq, .ref tr, .int la]))) (b n : Nat) (f : Nat → Nat) (hL : al_ok D h ul b n f) (hn : n ≤ 100) (u : Int32) (fs : List Value) (hf : h (f (nu u - 1)) = some (.inr (2, fs))) (hu : ¬ u < 1 ∧ u ≤ nI n) : ct_M l y_PR_userAt (.code y_PR_userAt prog_1_method_24_code 2 (Option.some (Jvm.ClassFile.FieldType.object "ProfileRights$User"))) ({ frames := 6, cells := 1, slots := 6, locals := 90 }) D HB [.ref x, .int u] h (fun o h2 => o = .inl (some (.ref (f (nu u - 1)))) ∧ h2 = h) := by
  refine ct_of (by decide) (Nat.le_of_ble_eq_true rfl) rfl ?_
  intro p_ e_ s_ m_ r_ b_ t_ c_ C hnm
  obtain ⟨md, hl, -⟩ := id hL
  have ku := ok_u hu hn
  refine wk_run C k_PR_userAt_0 (pc2 := 2) (lv2 := [(0, .ref x), (1, .int u)]) (st2 := [.int 1, .int u]) rfl ?_
  refine wk_br C d_PR_userAt_2 (P := u < 1) (tgt := 16) (rest := []) rfl (by decide) (fun c1 => ?_) (fun c1 => ?_)
  ·
    exact absurd (show u < 1 from c1) hu.1
  ·
    refine wk_run C k_PR_userAt_5 (pc2 := 7) (lv2 := [(0, .ref x), (1, .int u)]) (st2 := [.ref x, .int u]) rfl ?_
    refine wk_get C fd_PR_16 hx rfl d_PR_userAt_7 ?_
    refine wk_callV (cl := ("java/util/ArrayList", T_AL, 3)) (rest := [.int u]) C (al_size l HB hL) cs_PR_48 kc_AL_size ki_AL hl rfl rfl rfl (Nat.le_of_ble_eq_true rfl) (Nat.le_of_ble_eq_true rfl) (Nat.le_of_ble_eq_true rfl) (Nat.le_of_ble_eq_true rfl) (Nat.le_of_ble_eq_true rfl) d_PR_userAt_10 (fun v h2 hq => ?_) (fun _ _ z => nomatch z.1)
    obtain ⟨e1, e2⟩ := hq; cases e1; replace e2 := e2.symm; subst e2
    refine wk_br C d_PR_userAt_13 (P := u ≤ (nI n)) (tgt := 26) (rest := []) rfl (by decide) (fun c2 => ?_) (fun c2 => ?_)
    ·
      refine wk_run C k_PR_userAt_26 (pc2 := 27) (lv2 := [(0, .ref x), (1, .int u)]) (st2 := [.ref x]) rfl ?_
      refine wk_get C fd_PR_16 hx rfl d_PR_userAt_27 ?_
      refine wk_run C k_PR_userAt_30 (pc2 := 33) (lv2 := [(0, .ref x), (1, .int u)]) (st2 := [.int (u - 1), .ref ul]) rfl ?_
      rw [ku.2.2.2]
      refine wk_callV (cl := ("java/util/ArrayList", T_AL, 3)) (rest := []) C (al_get (j := nu u - 1) l HB hL (by omega)) cs_PR_201 kc_AL_get ki_AL hl rfl rfl rfl (Nat.le_of_ble_eq_true rfl) (Nat.le_of_ble_eq_true rfl) (Nat.le_of_ble_eq_true rfl) (Nat.le_of_ble_eq_true rfl) (Nat.le_of_ble_eq_true rfl) d_PR_userAt_33 (fun v h2 hq => ?_) (fun _ _ z => nomatch z.1)
      obtain ⟨e1, e2⟩ := hq; cases e1; replace e2 := e2.symm; subst e2
      refine wk_cast C hf rfl cl_PR_81 d_PR_userAt_36 ?_
      exact wk_aret C rfl (Or.inl ⟨_, rfl⟩) (Or.inr ⟨_, rfl⟩) ⟨rfl, rfl⟩ (by decide) (by decide) d_PR_userAt_39
    ·
      exact absurd hu.2 c2
theorem d_PR_userAt_16 : decode prog_1_method_24_code 16 = .ok (.new 105, 3) := by decide +kernel
theorem d_PR_userAt_19 : decode prog_1_method_24_code 19 = .ok (.dup, 1) := by decide +kernel
theorem d_PR_userAt_20 : decode prog_1_method_24_code 20 = .ok (.ldc 227, 2) := by decide +kernel
theorem d_PR_userAt_22 : decode prog_1_method_24_code 22 = .ok (.invokespecial 109, 3) := by decide +kernel
theorem d_PR_userAt_25 : decode prog_1_method_24_code 25 = .ok (.athrow, 1) := by decide +kernel
set_option maxRecDepth 100000 in
set_option maxHeartbeats 4000000 in
theorem c_PR_userAtN (l : Launch) (D : va_G) (HB : Heap) (h : hp_T) (x gl ul pl mo aq tr : Nat) (la : Int32) (hx : h x = some (.inr (0, [.ref gl, .ref ul, .ref pl, .ref mo, .ref aq, .ref tr, .int la]))) (b n : Nat) (f : Nat → Nat) (hL : al_ok D h ul b n f) (hn : n ≤ 100) (u : Int32) (hlt : l.stackTraces = false) (hu : ¬ (¬ u < 1 ∧ u ≤ nI n)) : ct_M l y_PR_userAt (.code y_PR_userAt prog_1_method_24_code 2 (Option.some (Jvm.ClassFile.FieldType.object "ProfileRights$User"))) ({ frames := 6, cells := 1, slots := 6, locals := 90 }) D HB [.ref x, .int u] h (fun o h2 => o = .inr eA ∧ h2 = h) := by
  refine ct_of (by decide) (Nat.le_of_ble_eq_true rfl) rfl ?_
  intro p_ e_ s_ m_ r_ b_ t_ c_ C hnm
  obtain ⟨md, hl, -⟩ := id hL
  refine wk_run C k_PR_userAt_0 (pc2 := 2) (lv2 := [(0, .ref x), (1, .int u)]) (st2 := [.int 1, .int u]) rfl ?_
  refine wk_br C d_PR_userAt_2 (P := u < 1) (tgt := 16) (rest := []) rfl (by decide) (fun c1 => ?_) (fun c1 => ?_)
  ·
    exact wk_thrA C hlt (text := "no such user") (is := 227) (by decide) d_PR_userAt_16 d_PR_userAt_19 d_PR_userAt_20 d_PR_userAt_22 d_PR_userAt_25 (by decide) (Nat.le_of_ble_eq_true rfl) (by decide) (by decide) (by decide) (by decide) ⟨rfl, rfl⟩
  ·
    refine wk_run C k_PR_userAt_5 (pc2 := 7) (lv2 := [(0, .ref x), (1, .int u)]) (st2 := [.ref x, .int u]) rfl ?_
    refine wk_get C fd_PR_16 hx rfl d_PR_userAt_7 ?_
    refine wk_callV (cl := ("java/util/ArrayList", T_AL, 3)) (rest := [.int u]) C (al_size l HB hL) cs_PR_48 kc_AL_size ki_AL hl rfl rfl rfl (Nat.le_of_ble_eq_true rfl) (Nat.le_of_ble_eq_true rfl) (Nat.le_of_ble_eq_true rfl) (Nat.le_of_ble_eq_true rfl) (Nat.le_of_ble_eq_true rfl) d_PR_userAt_10 (fun v h2 hq => ?_) (fun _ _ z => nomatch z.1)
    obtain ⟨e1, e2⟩ := hq; cases e1; replace e2 := e2.symm; subst e2
    refine wk_br C d_PR_userAt_13 (P := u ≤ (nI n)) (tgt := 26) (rest := []) rfl (by decide) (fun c2 => ?_) (fun c2 => ?_)
    ·
      exact absurd ⟨c1, c2⟩ hu
    ·
      exact wk_thrA C hlt (text := "no such user") (is := 227) (by decide) d_PR_userAt_16 d_PR_userAt_19 d_PR_userAt_20 d_PR_userAt_22 d_PR_userAt_25 (by decide) (Nat.le_of_ble_eq_true rfl) (by decide) (by decide) (by decide) (by decide) ⟨rfl, rfl⟩
theorem k_PR_profileAt_0 : px_dec prog_1_method_25_code [.iload_n 1, .iconst 1] 0 = true := by decide +kernel
theorem d_PR_profileAt_2 : decode prog_1_method_25_code 2 = .ok (.if_icmp .lt 14, 3) := by decide +kernel
theorem k_PR_profileAt_5 : px_dec prog_1_method_25_code [.iload_n 1, .aload_n 0] 5 = true := by decide +kernel
theorem d_PR_profileAt_7 : decode prog_1_method_25_code 7 = .ok (.getfield 19, 3) := by decide +kernel
theorem d_PR_profileAt_10 : decode prog_1_method_25_code 10 = .ok (.invokevirtual 48, 3) := by decide +kernel
theorem d_PR_profileAt_13 : decode prog_1_method_25_code 13 = .ok (.if_icmp .le 13, 3) := by decide +kernel
theorem k_PR_profileAt_26 : px_dec prog_1_method_25_code [.aload_n 0] 26 = true := by decide +kernel
theorem d_PR_profileAt_27 : decode prog_1_method_25_code 27 = .ok (.getfield 19, 3) := by decide +kernel
theorem k_PR_profileAt_30 : px_dec prog_1_method_25_code [.iload_n 1, .iconst 1, .isub] 30 = true := by decide +kernel
theorem d_PR_profileAt_33 : decode prog_1_method_25_code 33 = .ok (.invokevirtual 201, 3) := by decide +kernel
theorem d_PR_profileAt_36 : decode prog_1_method_25_code 36 = .ok (.checkcast 112, 3) := by decide +kernel
theorem d_PR_profileAt_39 : decode prog_1_method_25_code 39 = .ok (.areturn, 1) := by decide +kernel
set_option maxRecDepth 100000 in
set_option maxHeartbeats 4000000 in
theorem c_PR_profileAtY (l : Launch) (D : va_G) (HB : Heap) (h : hp_T) (x gl ul pl mo aq tr : Nat) (la : Int32) (hx : h x = some (.inr (0, [.ref gl, .ref ul, .ref pl, .ref mo, .ref aq, .ref tr, .int la]))) (b n : Nat) (f : Nat → Nat) (hL : al_ok D h pl b n f) (hn : n ≤ 100) (u : Int32) (fs : List Value) (hf : h (f (nu u - 1)) = some (.inr (5, fs))) (hu : ¬ u < 1 ∧ u ≤ nI n) : ct_M l y_PR_profileAt (.code y_PR_profileAt prog_1_method_25_code 2 (Option.some (Jvm.ClassFile.FieldType.object "ProfileRights$Profile"))) ({ frames := 6, cells := 1, slots := 6, locals := 90 }) D HB [.ref x, .int u] h (fun o h2 => o = .inl (some (.ref (f (nu u - 1)))) ∧ h2 = h) := by
  refine ct_of (by decide) (Nat.le_of_ble_eq_true rfl) rfl ?_
  intro p_ e_ s_ m_ r_ b_ t_ c_ C hnm
  obtain ⟨md, hl, -⟩ := id hL
  have ku := ok_u hu hn
  refine wk_run C k_PR_profileAt_0 (pc2 := 2) (lv2 := [(0, .ref x), (1, .int u)]) (st2 := [.int 1, .int u]) rfl ?_
  refine wk_br C d_PR_profileAt_2 (P := u < 1) (tgt := 16) (rest := []) rfl (by decide) (fun c1 => ?_) (fun c1 => ?_)
  ·
    exact absurd (show u < 1 from c1) hu.1
  ·
    refine wk_run C k_PR_profileAt_5 (pc2 := 7) (lv2 := [(0, .ref x), (1, .int u)]) (st2 := [.ref x, .int u]) rfl ?_
    refine wk_get C fd_PR_19 hx rfl d_PR_profileAt_7 ?_
    refine wk_callV (cl := ("java/util/ArrayList", T_AL, 3)) (rest := [.int u]) C (al_size l HB hL) cs_PR_48 kc_AL_size ki_AL hl rfl rfl rfl (Nat.le_of_ble_eq_true rfl) (Nat.le_of_ble_eq_true rfl) (Nat.le_of_ble_eq_true rfl) (Nat.le_of_ble_eq_true rfl) (Nat.le_of_ble_eq_true rfl) d_PR_profileAt_10 (fun v h2 hq => ?_) (fun _ _ z => nomatch z.1)
    obtain ⟨e1, e2⟩ := hq; cases e1; replace e2 := e2.symm; subst e2
    refine wk_br C d_PR_profileAt_13 (P := u ≤ (nI n)) (tgt := 26) (rest := []) rfl (by decide) (fun c2 => ?_) (fun c2 => ?_)
    ·
      refine wk_run C k_PR_profileAt_26 (pc2 := 27) (lv2 := [(0, .ref x), (1, .int u)]) (st2 := [.ref x]) rfl ?_
      refine wk_get C fd_PR_19 hx rfl d_PR_profileAt_27 ?_
      refine wk_run C k_PR_profileAt_30 (pc2 := 33) (lv2 := [(0, .ref x), (1, .int u)]) (st2 := [.int (u - 1), .ref pl]) rfl ?_
      rw [ku.2.2.2]
      refine wk_callV (cl := ("java/util/ArrayList", T_AL, 3)) (rest := []) C (al_get (j := nu u - 1) l HB hL (by omega)) cs_PR_201 kc_AL_get ki_AL hl rfl rfl rfl (Nat.le_of_ble_eq_true rfl) (Nat.le_of_ble_eq_true rfl) (Nat.le_of_ble_eq_true rfl) (Nat.le_of_ble_eq_true rfl) (Nat.le_of_ble_eq_true rfl) d_PR_profileAt_33 (fun v h2 hq => ?_) (fun _ _ z => nomatch z.1)
      obtain ⟨e1, e2⟩ := hq; cases e1; replace e2 := e2.symm; subst e2
      refine wk_cast C hf rfl cl_PR_112 d_PR_profileAt_36 ?_
      exact wk_aret C rfl (Or.inl ⟨_, rfl⟩) (Or.inr ⟨_, rfl⟩) ⟨rfl, rfl⟩ (by decide) (by decide) d_PR_profileAt_39
    ·
      exact absurd hu.2 c2
theorem d_PR_profileAt_16 : decode prog_1_method_25_code 16 = .ok (.new 105, 3) := by decide +kernel
theorem d_PR_profileAt_19 : decode prog_1_method_25_code 19 = .ok (.dup, 1) := by decide +kernel
theorem d_PR_profileAt_20 : decode prog_1_method_25_code 20 = .ok (.ldc 229, 2) := by decide +kernel
theorem d_PR_profileAt_22 : decode prog_1_method_25_code 22 = .ok (.invokespecial 109, 3) := by decide +kernel
theorem d_PR_profileAt_25 : decode prog_1_method_25_code 25 = .ok (.athrow, 1) := by decide +kernel
set_option maxRecDepth 100000 in
set_option maxHeartbeats 4000000 in
theorem c_PR_profileAtN (l : Launch) (D : va_G) (HB : Heap) (h : hp_T) (x gl ul pl mo aq tr : Nat) (la : Int32) (hx : h x = some (.inr (0, [.ref gl, .ref ul, .ref pl, .ref mo, .ref aq, .ref tr, .int la]))) (b n : Nat) (f : Nat → Nat) (hL : al_ok D h pl b n f) (hn : n ≤ 100) (u : Int32) (hlt : l.stackTraces = false) (hu : ¬ (¬ u < 1 ∧ u ≤ nI n)) : ct_M l y_PR_profileAt (.code y_PR_profileAt prog_1_method_25_code 2 (Option.some (Jvm.ClassFile.FieldType.object "ProfileRights$Profile"))) ({ frames := 6, cells := 1, slots := 6, locals := 90 }) D HB [.ref x, .int u] h (fun o h2 => o = .inr eA ∧ h2 = h) := by
  refine ct_of (by decide) (Nat.le_of_ble_eq_true rfl) rfl ?_
  intro p_ e_ s_ m_ r_ b_ t_ c_ C hnm
  obtain ⟨md, hl, -⟩ := id hL
  refine wk_run C k_PR_profileAt_0 (pc2 := 2) (lv2 := [(0, .ref x), (1, .int u)]) (st2 := [.int 1, .int u]) rfl ?_
  refine wk_br C d_PR_profileAt_2 (P := u < 1) (tgt := 16) (rest := []) rfl (by decide) (fun c1 => ?_) (fun c1 => ?_)
  ·
    exact wk_thrA C hlt (text := "no such profile") (is := 229) (by decide) d_PR_profileAt_16 d_PR_profileAt_19 d_PR_profileAt_20 d_PR_profileAt_22 d_PR_profileAt_25 (by decide) (Nat.le_of_ble_eq_true rfl) (by decide) (by decide) (by decide) (by decide) ⟨rfl, rfl⟩
  ·
    refine wk_run C k_PR_profileAt_5 (pc2 := 7) (lv2 := [(0, .ref x), (1, .int u)]) (st2 := [.ref x, .int u]) rfl ?_
    refine wk_get C fd_PR_19 hx rfl d_PR_profileAt_7 ?_
    refine wk_callV (cl := ("java/util/ArrayList", T_AL, 3)) (rest := [.int u]) C (al_size l HB hL) cs_PR_48 kc_AL_size ki_AL hl rfl rfl rfl (Nat.le_of_ble_eq_true rfl) (Nat.le_of_ble_eq_true rfl) (Nat.le_of_ble_eq_true rfl) (Nat.le_of_ble_eq_true rfl) (Nat.le_of_ble_eq_true rfl) d_PR_profileAt_10 (fun v h2 hq => ?_) (fun _ _ z => nomatch z.1)
    obtain ⟨e1, e2⟩ := hq; cases e1; replace e2 := e2.symm; subst e2
    refine wk_br C d_PR_profileAt_13 (P := u ≤ (nI n)) (tgt := 26) (rest := []) rfl (by decide) (fun c2 => ?_) (fun c2 => ?_)
    ·
      exact absurd ⟨c1, c2⟩ hu
    ·
      exact wk_thrA C hlt (text := "no such profile") (is := 229) (by decide) d_PR_profileAt_16 d_PR_profileAt_19 d_PR_profileAt_20 d_PR_profileAt_22 d_PR_profileAt_25 (by decide) (Nat.le_of_ble_eq_true rfl) (by decide) (by decide) (by decide) (by decide) ⟨rfl, rfl⟩
theorem k_PR_groupOrNone_0 : px_dec prog_1_method_23_code [.iload_n 1] 0 = true := by decide +kernel
theorem d_PR_groupOrNone_1 : decode prog_1_method_23_code 1 = .ok (.ifCond .ne 7, 3) := by decide +kernel
theorem k_PR_groupOrNone_4 : px_dec prog_1_method_23_code [.aconst_null] 4 = true := by decide +kernel
theorem d_PR_groupOrNone_5 : decode prog_1_method_23_code 5 = .ok (.goto 8, 3) := by decide +kernel
theorem d_PR_groupOrNone_13 : decode prog_1_method_23_code 13 = .ok (.areturn, 1) := by decide +kernel
set_option maxRecDepth 100000 in
set_option maxHeartbeats 4000000 in
theorem c_PR_groupOrNoneZ (l : Launch) (D : va_G) (HB : Heap) (h : hp_T) (x gl ul pl mo aq tr : Nat) (la : Int32) (hx : h x = some (.inr (0, [.ref gl, .ref ul, .ref pl, .ref mo, .ref aq, .ref tr, .int la]))) : ct_M l y_PR_groupOrNone (.code y_PR_groupOrNone prog_1_method_23_code 2 (Option.some (Jvm.ClassFile.FieldType.object "ProfileRights$Group"))) ({ frames := 7, cells := 1, slots := 6, locals := 111 }) D HB [.ref x, .int 0] h (fun o h2 => o = .inl (some .null) ∧ h2 = h) := by
  refine ct_of (by decide) (Nat.le_of_ble_eq_true rfl) rfl ?_
  intro p_ e_ s_ m_ r_ b_ t_ c_ C hnm
  refine wk_run C k_PR_groupOrNone_0 (pc2 := 1) (lv2 := [(0, .ref x), (1, .int 0)]) (st2 := [.int 0]) rfl ?_
  refine wk_br C d_PR_groupOrNone_1 (P := ¬ 0 = 0) (tgt := 8) (rest := []) rfl (by decide) (fun c1 => ?_) (fun c1 => ?_)
  ·
    exact absurd rfl c1
  ·
    refine wk_run C k_PR_groupOrNone_4 (pc2 := 5) (lv2 := [(0, .ref x), (1, .int 0)]) (st2 := [.null]) rfl ?_
    refine wk_goto C d_PR_groupOrNone_5 (tgt := 13) (by decide) ?_
    exact wk_aret C rfl (Or.inl ⟨_, rfl⟩) (Or.inl rfl) ⟨rfl, rfl⟩ (by decide) (by decide) d_PR_groupOrNone_13
theorem k_PR_groupOrNone_8 : px_dec prog_1_method_23_code [.aload_n 0, .iload_n 1] 8 = true := by decide +kernel
theorem d_PR_groupOrNone_10 : decode prog_1_method_23_code 10 = .ok (.invokevirtual 68, 3) := by decide +kernel
set_option maxRecDepth 100000 in
set_option maxHeartbeats 4000000 in
theorem c_PR_groupOrNoneY (l : Launch) (D : va_G) (HB : Heap) (h : hp_T) (x gl ul pl mo aq tr : Nat) (la : Int32) (hx : h x = some (.inr (0, [.ref gl, .ref ul, .ref pl, .ref mo, .ref aq, .ref tr, .int la]))) (b n : Nat) (f : Nat → Nat) (hL : al_ok D h gl b n f) (hn : n ≤ 100) (u : Int32) (h0 : ¬ u = 0) (fs : List Value) (hf : h (f (nu u - 1)) = some (.inr (1, fs))) (hu : ¬ u < 1 ∧ u ≤ nI n) : ct_M l y_PR_groupOrNone (.code y_PR_groupOrNone prog_1_method_23_code 2 (Option.some (Jvm.ClassFile.FieldType.object "ProfileRights$Group"))) ({ frames := 7, cells := 1, slots := 6, locals := 111 }) D HB [.ref x, .int u] h (fun o h2 => o = .inl (some (.ref (f (nu u - 1)))) ∧ h2 = h) := by
  refine ct_of (by decide) (Nat.le_of_ble_eq_true rfl) rfl ?_
  intro p_ e_ s_ m_ r_ b_ t_ c_ C hnm
  refine wk_run C k_PR_groupOrNone_0 (pc2 := 1) (lv2 := [(0, .ref x), (1, .int u)]) (st2 := [.int u]) rfl ?_
  refine wk_br C d_PR_groupOrNone_1 (P := ¬ u = 0) (tgt := 8) (rest := []) rfl (by decide) (fun c1 => ?_) (fun c1 => ?_)
  ·
    refine wk_run C k_PR_groupOrNone_8 (pc2 := 10) (lv2 := [(0, .ref x), (1, .int u)]) (st2 := [.int u, .ref x]) rfl ?_
    refine wk_callV (cl := ("ProfileRights", T_PR, 7)) (rest := []) C (c_PR_groupAtY l D HB h x gl ul pl mo aq tr la hx b n f hL hn u fs hf hu) cs_PR_68 kc_PR_groupAt ki_PR hx rfl rfl rfl (Nat.le_of_ble_eq_true rfl) (Nat.le_of_ble_eq_true rfl) (Nat.le_of_ble_eq_true rfl) (Nat.le_of_ble_eq_true rfl) (Nat.le_of_ble_eq_true rfl) d_PR_groupOrNone_10 (fun v h2 hq => ?_) (fun _ _ z => nomatch z.1)
    obtain ⟨e1, e2⟩ := hq; cases e1; replace e2 := e2.symm; subst e2
    exact wk_aret C rfl (Or.inl ⟨_, rfl⟩) (Or.inr ⟨_, rfl⟩) ⟨rfl, rfl⟩ (by decide) (by decide) d_PR_groupOrNone_13
  ·
    exact absurd (Classical.not_not.mp c1) h0

set_option maxRecDepth 100000 in
set_option maxHeartbeats 4000000 in
theorem c_PR_groupOrNoneN (l : Launch) (D : va_G) (HB : Heap) (h : hp_T) (x gl ul pl mo aq tr : Nat) (la : Int32) (hx : h x = some (.inr (0, [.ref gl, .ref ul, .ref pl, .ref mo, .ref aq, .ref tr, .int la]))) (b n : Nat) (f : Nat → Nat) (hL : al_ok D h gl b n f) (hn : n ≤ 100) (u : Int32) (h0 : ¬ u = 0) (hlt : l.stackTraces = false) (hu : ¬ (¬ u < 1 ∧ u ≤ nI n)) : ct_M l y_PR_groupOrNone (.code y_PR_groupOrNone prog_1_method_23_code 2 (Option.some (Jvm.ClassFile.FieldType.object "ProfileRights$Group"))) ({ frames := 7, cells := 1, slots := 6, locals := 111 }) D HB [.ref x, .int u] h (fun o h2 => o = .inr eA ∧ h2 = h) := by
  refine ct_of (by decide) (Nat.le_of_ble_eq_true rfl) rfl ?_
  intro p_ e_ s_ m_ r_ b_ t_ c_ C hnm
  refine wk_run C k_PR_groupOrNone_0 (pc2 := 1) (lv2 := [(0, .ref x), (1, .int u)]) (st2 := [.int u]) rfl ?_
  refine wk_br C d_PR_groupOrNone_1 (P := ¬ u = 0) (tgt := 8) (rest := []) rfl (by decide) (fun c1 => ?_) (fun c1 => ?_)
  ·
    refine wk_run C k_PR_groupOrNone_8 (pc2 := 10) (lv2 := [(0, .ref x), (1, .int u)]) (st2 := [.int u, .ref x]) rfl ?_
    refine wk_callV (cl := ("ProfileRights", T_PR, 7)) (rest := []) C (c_PR_groupAtN l D HB h x gl ul pl mo aq tr la hx b n f hL hn u hlt hu) cs_PR_68 kc_PR_groupAt ki_PR hx rfl rfl rfl (Nat.le_of_ble_eq_true rfl) (Nat.le_of_ble_eq_true rfl) (Nat.le_of_ble_eq_true rfl) (Nat.le_of_ble_eq_true rfl) (Nat.le_of_ble_eq_true rfl) d_PR_groupOrNone_10 (fun v h2 hq => ?_) (fun E h2 hq => by obtain ⟨e1, e2⟩ := hq; cases e1; replace e2 := e2.symm; subst e2; exact wx_out C ⟨rfl, rfl⟩ (by decide) (by decide))
    exact nomatch hq.1
  ·
    exact absurd (Classical.not_not.mp c1) h0
theorem neg_0 (x : Int32) : -x = 0 - x := (Int32.zero_sub x).symm
theorem k_PR_testHolder_0 : px_dec prog_1_method_26_code [.iload_n 1] 0 = true := by decide +kernel
theorem d_PR_testHolder_1 : decode prog_1_method_26_code 1 = .ok (.ifCond .le 12, 3) := by decide +kernel
theorem k_PR_testHolder_4 : px_dec prog_1_method_26_code [.aload_n 0, .iload_n 1] 4 = true := by decide +kernel
theorem d_PR_testHolder_6 : decode prog_1_method_26_code 6 = .ok (.invokevirtual 84, 3) := by decide +kernel
theorem k_PR_testHolder_9 : px_dec prog_1_method_26_code [.pop] 9 = true := by decide +kernel
theorem d_PR_testHolder_10 : decode prog_1_method_26_code 10 = .ok (.goto 10, 3) := by decide +kernel
theorem d_PR_testHolder_20 : decode prog_1_method_26_code 20 = .ok (.return_, 1) := by decide +kernel
set_option maxRecDepth 100000 in
set_option maxHeartbeats 4000000 in
theorem c_PR_testHolderU (l : Launch) (D : va_G) (HB : Heap) (h : hp_T) (x gl ul pl mo aq tr : Nat) (la : Int32) (hx : h x = some (.inr (0, [.ref gl, .ref ul, .ref pl, .ref mo, .ref aq, .ref tr, .int la]))) (b n : Nat) (f : Nat → Nat) (hL : al_ok D h ul b n f) (hn : n ≤ 100) (b2 n2 : Nat) (f2 : Nat → Nat) (hL2 : al_ok D h gl b2 n2 f2) (hn2 : n2 ≤ 100) (u : Int32) (hp : 0 < u) (fs : List Value) (hf : h (f (nu u - 1)) = some (.inr (2, fs))) (hu : ¬ u < 1 ∧ u ≤ nI n) : ct_M l y_PR_testHolder (.code y_PR_testHolder prog_1_method_26_code 2 (Option.none : Option Jvm.ClassFile.FieldType)) ({ frames := 7, cells := 1, slots := 6, locals := 111 }) D HB [.ref x, .int u] h (fun o h2 => o = .inl none ∧ h2 = h) := by
  refine ct_of (by decide) (Nat.le_of_ble_eq_true rfl) rfl ?_
  intro p_ e_ s_ m_ r_ b_ t_ c_ C hnm
  refine wk_run C k_PR_testHolder_0 (pc2 := 1) (lv2 := [(0, .ref x), (1, .int u)]) (st2 := [.int u]) rfl ?_
  refine wk_br C d_PR_testHolder_1 (P := u ≤ 0) (tgt := 13) (rest := []) rfl (by decide) (fun c1 => ?_) (fun c1 => ?_)
  ·
    exact absurd hp (by clear C; grind)
  ·
    refine wk_run C k_PR_testHolder_4 (pc2 := 6) (lv2 := [(0, .ref x), (1, .int u)]) (st2 := [.int u, .ref x]) rfl ?_
    refine wk_callV (cl := ("ProfileRights", T_PR, 7)) (rest := []) C (c_PR_userAtY l D HB h x gl ul pl mo aq tr la hx b n f hL hn u fs hf hu) cs_PR_84 kc_PR_userAt ki_PR hx rfl rfl rfl (Nat.le_of_ble_eq_true rfl) (Nat.le_of_ble_eq_true rfl) (Nat.le_of_ble_eq_true rfl) (Nat.le_of_ble_eq_true rfl) (Nat.le_of_ble_eq_true rfl) d_PR_testHolder_6 (fun v h2 hq => ?_) (fun _ _ z => nomatch z.1)
    obtain ⟨e1, e2⟩ := hq; cases e1; replace e2 := e2.symm; subst e2
    refine wk_run C k_PR_testHolder_9 (pc2 := 10) (lv2 := [(0, .ref x), (1, .int u)]) (st2 := []) rfl ?_
    refine wk_goto C d_PR_testHolder_10 (tgt := 20) (by decide) ?_
    exact wk_vret C ⟨rfl, rfl⟩ (by decide) (by decide) d_PR_testHolder_20

set_option maxRecDepth 100000 in
set_option maxHeartbeats 4000000 in
theorem c_PR_testHolderV (l : Launch) (D : va_G) (HB : Heap) (h : hp_T) (x gl ul pl mo aq tr : Nat) (la : Int32) (hx : h x = some (.inr (0, [.ref gl, .ref ul, .ref pl, .ref mo, .ref aq, .ref tr, .int la]))) (b n : Nat) (f : Nat → Nat) (hL : al_ok D h ul b n f) (hn : n ≤ 100) (b2 n2 : Nat) (f2 : Nat → Nat) (hL2 : al_ok D h gl b2 n2 f2) (hn2 : n2 ≤ 100) (u : Int32) (hp : 0 < u) (hlt : l.stackTraces = false) (hu : ¬ (¬ u < 1 ∧ u ≤ nI n)) : ct_M l y_PR_testHolder (.code y_PR_testHolder prog_1_method_26_code 2 (Option.none : Option Jvm.ClassFile.FieldType)) ({ frames := 7, cells := 1, slots := 6, locals := 111 }) D HB [.ref x, .int u] h (fun o h2 => o = .inr eA ∧ h2 = h) := by
  refine ct_of (by decide) (Nat.le_of_ble_eq_true rfl) rfl ?_
  intro p_ e_ s_ m_ r_ b_ t_ c_ C hnm
  refine wk_run C k_PR_testHolder_0 (pc2 := 1) (lv2 := [(0, .ref x), (1, .int u)]) (st2 := [.int u]) rfl ?_
  refine wk_br C d_PR_testHolder_1 (P := u ≤ 0) (tgt := 13) (rest := []) rfl (by decide) (fun c1 => ?_) (fun c1 => ?_)
  ·
    exact absurd hp (by clear C; grind)
  ·
    refine wk_run C k_PR_testHolder_4 (pc2 := 6) (lv2 := [(0, .ref x), (1, .int u)]) (st2 := [.int u, .ref x]) rfl ?_
    refine wk_callV (cl := ("ProfileRights", T_PR, 7)) (rest := []) C (c_PR_userAtN l D HB h x gl ul pl mo aq tr la hx b n f hL hn u hlt hu) cs_PR_84 kc_PR_userAt ki_PR hx rfl rfl rfl (Nat.le_of_ble_eq_true rfl) (Nat.le_of_ble_eq_true rfl) (Nat.le_of_ble_eq_true rfl) (Nat.le_of_ble_eq_true rfl) (Nat.le_of_ble_eq_true rfl) d_PR_testHolder_6 (fun v h2 hq => ?_) (fun E h2 hq => by obtain ⟨e1, e2⟩ := hq; cases e1; replace e2 := e2.symm; subst e2; exact wx_out C ⟨rfl, rfl⟩ (by decide) (by decide))
    exact nomatch hq.1
theorem k_PR_testHolder_13 : px_dec prog_1_method_26_code [.aload_n 0, .iload_n 1, .ineg] 13 = true := by decide +kernel
theorem d_PR_testHolder_16 : decode prog_1_method_26_code 16 = .ok (.invokevirtual 68, 3) := by decide +kernel
theorem k_PR_testHolder_19 : px_dec prog_1_method_26_code [.pop] 19 = true := by decide +kernel
set_option maxRecDepth 100000 in
set_option maxHeartbeats 4000000 in
theorem c_PR_testHolderG (l : Launch) (D : va_G) (HB : Heap) (h : hp_T) (x gl ul pl mo aq tr : Nat) (la : Int32) (hx : h x = some (.inr (0, [.ref gl, .ref ul, .ref pl, .ref mo, .ref aq, .ref tr, .int la]))) (b n : Nat) (f : Nat → Nat) (hL : al_ok D h ul b n f) (hn : n ≤ 100) (b2 n2 : Nat) (f2 : Nat → Nat) (hL2 : al_ok D h gl b2 n2 f2) (hn2 : n2 ≤ 100) (u : Int32) (hp : ¬ 0 < u) (fs : List Value) (hf : h (f2 (nu (0 - u) - 1)) = some (.inr (1, fs))) (hu : ¬ (0 - u) < 1 ∧ (0 - u) ≤ nI n2) : ct_M l y_PR_testHolder (.code y_PR_testHolder prog_1_method_26_code 2 (Option.none : Option Jvm.ClassFile.FieldType)) ({ frames := 7, cells := 1, slots := 6, locals := 111 }) D HB [.ref x, .int u] h (fun o h2 => o = .inl none ∧ h2 = h) := by
  refine ct_of (by decide) (Nat.le_of_ble_eq_true rfl) rfl ?_
  intro p_ e_ s_ m_ r_ b_ t_ c_ C hnm
  refine wk_run C k_PR_testHolder_0 (pc2 := 1) (lv2 := [(0, .ref x), (1, .int u)]) (st2 := [.int u]) rfl ?_
  refine wk_br C d_PR_testHolder_1 (P := u ≤ 0) (tgt := 13) (rest := []) rfl (by decide) (fun c1 => ?_) (fun c1 => ?_)
  ·
    refine wk_run C k_PR_testHolder_13 (pc2 := 16) (lv2 := [(0, .ref x), (1, .int u)]) (st2 := [.int (-u), .ref x]) rfl ?_
    rw [neg_0]
    refine wk_callV (cl := ("ProfileRights", T_PR, 7)) (rest := []) C (c_PR_groupAtY l D HB h x gl ul pl mo aq tr la hx b2 n2 f2 hL2 hn2 (0 - u) fs hf hu) cs_PR_68 kc_PR_groupAt ki_PR hx rfl rfl rfl (Nat.le_of_ble_eq_true rfl) (Nat.le_of_ble_eq_true rfl) (Nat.le_of_ble_eq_true rfl) (Nat.le_of_ble_eq_true rfl) (Nat.le_of_ble_eq_true rfl) d_PR_testHolder_16 (fun v h2 hq => ?_) (fun _ _ z => nomatch z.1)
    obtain ⟨e1, e2⟩ := hq; cases e1; replace e2 := e2.symm; subst e2
    refine wk_run C k_PR_testHolder_19 (pc2 := 20) (lv2 := [(0, .ref x), (1, .int u)]) (st2 := []) rfl ?_
    exact wk_vret C ⟨rfl, rfl⟩ (by decide) (by decide) d_PR_testHolder_20
  ·
    exact absurd (by clear C; grind) hp

set_option maxRecDepth 100000 in
set_option maxHeartbeats 4000000 in
theorem c_PR_testHolderH (l : Launch) (D : va_G) (HB : Heap) (h : hp_T) (x gl ul pl mo aq tr : Nat) (la : Int32) (hx : h x = some (.inr (0, [.ref gl, .ref ul, .ref pl, .ref mo, .ref aq, .ref tr, .int la]))) (b n : Nat) (f : Nat → Nat) (hL : al_ok D h ul b n f) (hn : n ≤ 100) (b2 n2 : Nat) (f2 : Nat → Nat) (hL2 : al_ok D h gl b2 n2 f2) (hn2 : n2 ≤ 100) (u : Int32) (hp : ¬ 0 < u) (hlt : l.stackTraces = false) (hu : ¬ (¬ (0 - u) < 1 ∧ (0 - u) ≤ nI n2)) : ct_M l y_PR_testHolder (.code y_PR_testHolder prog_1_method_26_code 2 (Option.none : Option Jvm.ClassFile.FieldType)) ({ frames := 7, cells := 1, slots := 6, locals := 111 }) D HB [.ref x, .int u] h (fun o h2 => o = .inr eA ∧ h2 = h) := by
  refine ct_of (by decide) (Nat.le_of_ble_eq_true rfl) rfl ?_
  intro p_ e_ s_ m_ r_ b_ t_ c_ C hnm
  refine wk_run C k_PR_testHolder_0 (pc2 := 1) (lv2 := [(0, .ref x), (1, .int u)]) (st2 := [.int u]) rfl ?_
  refine wk_br C d_PR_testHolder_1 (P := u ≤ 0) (tgt := 13) (rest := []) rfl (by decide) (fun c1 => ?_) (fun c1 => ?_)
  ·
    refine wk_run C k_PR_testHolder_13 (pc2 := 16) (lv2 := [(0, .ref x), (1, .int u)]) (st2 := [.int (-u), .ref x]) rfl ?_
    rw [neg_0]
    refine wk_callV (cl := ("ProfileRights", T_PR, 7)) (rest := []) C (c_PR_groupAtN l D HB h x gl ul pl mo aq tr la hx b2 n2 f2 hL2 hn2 (0 - u) hlt hu) cs_PR_68 kc_PR_groupAt ki_PR hx rfl rfl rfl (Nat.le_of_ble_eq_true rfl) (Nat.le_of_ble_eq_true rfl) (Nat.le_of_ble_eq_true rfl) (Nat.le_of_ble_eq_true rfl) (Nat.le_of_ble_eq_true rfl) d_PR_testHolder_16 (fun v h2 hq => ?_) (fun E h2 hq => by obtain ⟨e1, e2⟩ := hq; cases e1; replace e2 := e2.symm; subst e2; exact wx_out C ⟨rfl, rfl⟩ (by decide) (by decide))
    exact nomatch hq.1
  ·
    exact absurd (by clear C; grind) hp
