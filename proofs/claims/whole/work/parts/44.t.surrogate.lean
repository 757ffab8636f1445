theorem k_law_1350 : px_dec code [.aload_n 1, .aload_n 0, .iload 4, .iconst 1, .iadd] 1350 = true := by decide +kernel
theorem d_law_1356 : decode code 1356 = .ok (.iaload, 1) := by decide +kernel
theorem k_law_1357 : px_dec code [.aload_n 0, .iload 4, .iconst 2, .iadd] 1357 = true := by decide +kernel
theorem d_law_1362 : decode code 1362 = .ok (.iaload, 1) := by decide +kernel
theorem k_law_1363 : px_dec code [.aload_n 0, .iload 4, .iconst 3, .iadd] 1363 = true := by decide +kernel
theorem d_law_1368 : decode code 1368 = .ok (.iaload, 1) := by decide +kernel
theorem d_law_1369 : decode code 1369 = .ok (.ifCond .eq 7, 3) := by decide +kernel
theorem k_law_1376 : px_dec code [.iconst 0, .aload_n 3] 1376 = true := by decide +kernel
theorem d_law_1378 : decode code 1378 = .ok (.invokestatic 144, 3) := by decide +kernel
theorem k_law_1381 : px_dec code [.istore 5, .aload_n 2, .aload_n 0, .iload 4, .iconst 1, .iadd] 1381 = true := by decide +kernel
theorem d_law_1389 : decode code 1389 = .ok (.iaload, 1) := by decide +kernel
theorem k_law_1390 : px_dec code [.aload_n 0, .iload 4, .iconst 2, .iadd] 1390 = true := by decide +kernel
theorem d_law_1395 : decode code 1395 = .ok (.iaload, 1) := by decide +kernel
theorem k_law_1396 : px_dec code [.aload_n 0, .iload 4, .iconst 3, .iadd] 1396 = true := by decide +kernel
theorem d_law_1401 : decode code 1401 = .ok (.iaload, 1) := by decide +kernel
theorem d_law_1402 : decode code 1402 = .ok (.ifCond .eq 7, 3) := by decide +kernel
theorem k_law_1409 : px_dec code [.iconst 0] 1409 = true := by decide +kernel
theorem d_law_1410 : decode code 1410 = .ok (.invokevirtual 147, 3) := by decide +kernel
theorem k_law_1413 : px_dec code [.istore 6, .aload_n 2] 1413 = true := by decide +kernel
theorem d_law_1416 : decode code 1416 = .ok (.invokevirtual 79, 3) := by decide +kernel
theorem k_law_1419 : px_dec code [.iload 5] 1419 = true := by decide +kernel
theorem d_law_1421 : decode code 1421 = .ok (.if_icmp .eq 5, 3) := by decide +kernel
theorem k_law_1426 : px_dec code [.iload 5] 1426 = true := by decide +kernel
theorem d_law_1428 : decode code 1428 = .ok (.ifCond .ne 15, 3) := by decide +kernel
theorem d_law_1443 : decode code 1443 = .ok (.goto 28, 3) := by decide +kernel
theorem k_law_1431 : px_dec code [.aload_n 3, .iconst 0] 1431 = true := by decide +kernel
theorem d_law_1433 : decode code 1433 = .ok (.laload, 1) := by decide +kernel
theorem k_law_1434 : px_dec code [.iload 6, .i2l] 1434 = true := by decide +kernel
theorem d_law_1437 : decode code 1437 = .ok (.lcmp, 1) := by decide +kernel
theorem d_law_1438 : decode code 1438 = .ok (.ifCond .eq 5, 3) := by decide +kernel
theorem k_law_1372 : px_dec code [.iconst 1] 1372 = true := by decide +kernel
theorem d_law_1373 : decode code 1373 = .ok (.goto 4, 3) := by decide +kernel
theorem k_law_1377 : px_dec code [.aload_n 3] 1377 = true := by decide +kernel
theorem k_law_1405 : px_dec code [.iconst 1] 1405 = true := by decide +kernel
theorem d_law_1406 : decode code 1406 = .ok (.goto 4, 3) := by decide +kernel
set_option maxRecDepth 100000 in
set_option maxHeartbeats 4000000 in
theorem lw_surrogate {p : Program} {l : Launch} {e : Env} {s : State} {m : MethodId} {args : Array Value} {below : List Frame} {meth : Method} {c : Code} {Q : State → Prop} {D : va_G} {HB : Heap} {hh : List (Nat × Nat × Nat × Nat)} (C : wk_C p s m args meth c code "ProfileRightsLaw" 7 ret hh D HB) (hlt : l.stackTraces = false) {b L : Nat} {xs : Nat → Int32} (hZ : va_T .int b L (fun j => .int (xs j)) (hp_A HB) s HB) {x y ou : Nat} {A : Nat → Nat} {n cells slots : Nat} {V : vT} {own : oT} {h : hp_T} (hn : n < 512) (hL : L ≤ 3072) (h6 : 6 * n + 6 ≤ L) (hc : cells + 8 ≤ 601024) (hs : slots + 200 ≤ 7293034) (I : iv D x y ou A n V own h) (K : ∀ (V2 : vT) (own2 : oT) (h2 : hp_T), iv D x y ou A (n + 1) V2 own2 h2 → Wk p l e room_1 s m args below meth c 7 D HB Q h2 (cells + 8) (slots + 200) 1471 [(0, .ref b), (1, .ref x), (2, .ref y), (3, .ref ou), (4, .int (nI (6 * n)))] []) : Wk p l e room_1 s m args below meth c 7 D HB Q h cells slots 1350 [(0, .ref b), (1, .ref x), (2, .ref y), (3, .ref ou), (4, .int (nI (6 * n)))] [] := by
  obtain ⟨IM, IC, IW, IR, Iy, IA, Io, f, hou⟩ := id I
  have no := mq_ou IM hou
  obtain ⟨gl, ul, pl, mo, aq, tr, hx0⟩ := cr_x IC
  rcases Classical.em (xs (6 * n + 3) = 0) with hz | hz
  ·
    refine wk_run C k_law_1350 (pc2 := 1356) (lv2 := [(0, .ref b), (1, .ref x), (2, .ref y), (3, .ref ou), (4, .int (nI (6 * n)))]) (st2 := [.int ((nI (6 * n)) + 1), .ref b, .ref x]) rfl ?_
    rw [show nI (6 * n) + 1 = nI (6 * n + 1) from nI_a (6 * n) 1]
    refine wk_tld C hZ (nI_in (c := 6 * n + 1) (by omega) (by omega)) (show Value.int (xs (nI (6 * n + 1)).toNatClampNeg) = .int (xs (6 * n + 1)) by rw [nI_clamp (by omega)]) d_law_1356 ?_
    refine wk_run C k_law_1357 (pc2 := 1362) (lv2 := [(0, .ref b), (1, .ref x), (2, .ref y), (3, .ref ou), (4, .int (nI (6 * n)))]) (st2 := [.int ((nI (6 * n)) + 2), .ref b, .int (xs (6 * n + 1)), .ref x]) rfl ?_
    rw [show nI (6 * n) + 2 = nI (6 * n + 2) from nI_a (6 * n) 2]
    refine wk_tld C hZ (nI_in (c := 6 * n + 2) (by omega) (by omega)) (show Value.int (xs (nI (6 * n + 2)).toNatClampNeg) = .int (xs (6 * n + 2)) by rw [nI_clamp (by omega)]) d_law_1362 ?_
    refine wk_run C k_law_1363 (pc2 := 1368) (lv2 := [(0, .ref b), (1, .ref x), (2, .ref y), (3, .ref ou), (4, .int (nI (6 * n)))]) (st2 := [.int ((nI (6 * n)) + 3), .ref b, .int (xs (6 * n + 2)), .int (xs (6 * n + 1)), .ref x]) rfl ?_
    rw [show nI (6 * n) + 3 = nI (6 * n + 3) from nI_a (6 * n) 3]
    refine wk_tld C hZ (nI_in (c := 6 * n + 3) (by omega) (by omega)) (show Value.int (xs (nI (6 * n + 3)).toNatClampNeg) = .int (xs (6 * n + 3)) by rw [nI_clamp (by omega)]) d_law_1368 ?_
    refine wk_br C d_law_1369 (P := (xs (6 * n + 3)) = 0) (tgt := 1376) (rest := [.int (xs (6 * n + 2)), .int (xs (6 * n + 1)), .ref x]) rfl (by decide) (fun cb => ?_) (fun cb => ?_)
    rotate_left
    · exact absurd hz cb
    refine wk_run C k_law_1376 (pc2 := 1378) (lv2 := [(0, .ref b), (1, .ref x), (2, .ref y), (3, .ref ou), (4, .int (nI (6 * n)))]) (st2 := [.ref ou, .int 0, .int (xs (6 * n + 2)), .int (xs (6 * n + 1)), .ref x]) rfl ?_
    refine wk_callSW (rest := []) C (c_LW_surrogate l D HB h hlt own V x ou (xs (6 * n + 1)) (xs (6 * n + 2)) 0 f IC IW (Or.inl rfl) hou Io) cs_LW_144 kc_LW_surrogate ki_LW rfl rfl (Nat.le_of_ble_eq_true rfl) (Nat.le_of_ble_eq_true rfl) (Nat.le_of_ble_eq_true rfl) hc hs d_law_1378 (fun v h2 hq => ?_) (fun E h2 hq => by obtain ⟨_, _, z, _⟩ := hq; cases z)
    obtain ⟨own2, f2, e1, hcr, hso, ho2, hou2, hf2⟩ := hq; cases e1
    show Wk _ _ _ _ _ _ _ _ _ _ _ _ _ _ _ _ _ _ _ (.int (sp_surrogate V (xs (6 * n + 1)) (xs (6 * n + 2)) 0).1 :: _)
    have ic := iv_c I hso
    refine wk_run C k_law_1381 (pc2 := 1389) (lv2 := [(5, .int (sp_surrogate V (xs (6 * n + 1)) (xs (6 * n + 2)) 0).1), (0, .ref b), (1, .ref x), (2, .ref y), (3, .ref ou), (4, .int (nI (6 * n)))]) (st2 := [.int ((nI (6 * n)) + 1), .ref b, .ref y]) rfl ?_
    rw [show nI (6 * n) + 1 = nI (6 * n + 1) from nI_a (6 * n) 1]
    refine wk_tld C hZ (nI_in (c := 6 * n + 1) (by omega) (by omega)) (show Value.int (xs (nI (6 * n + 1)).toNatClampNeg) = .int (xs (6 * n + 1)) by rw [nI_clamp (by omega)]) d_law_1389 ?_
    refine wk_run C k_law_1390 (pc2 := 1395) (lv2 := [(5, .int (sp_surrogate V (xs (6 * n + 1)) (xs (6 * n + 2)) 0).1), (0, .ref b), (1, .ref x), (2, .ref y), (3, .ref ou), (4, .int (nI (6 * n)))]) (st2 := [.int ((nI (6 * n)) + 2), .ref b, .int (xs (6 * n + 1)), .ref y]) rfl ?_
    rw [show nI (6 * n) + 2 = nI (6 * n + 2) from nI_a (6 * n) 2]
    refine wk_tld C hZ (nI_in (c := 6 * n + 2) (by omega) (by omega)) (show Value.int (xs (nI (6 * n + 2)).toNatClampNeg) = .int (xs (6 * n + 2)) by rw [nI_clamp (by omega)]) d_law_1395 ?_
    refine wk_run C k_law_1396 (pc2 := 1401) (lv2 := [(5, .int (sp_surrogate V (xs (6 * n + 1)) (xs (6 * n + 2)) 0).1), (0, .ref b), (1, .ref x), (2, .ref y), (3, .ref ou), (4, .int (nI (6 * n)))]) (st2 := [.int ((nI (6 * n)) + 3), .ref b, .int (xs (6 * n + 2)), .int (xs (6 * n + 1)), .ref y]) rfl ?_
    rw [show nI (6 * n) + 3 = nI (6 * n + 3) from nI_a (6 * n) 3]
    refine wk_tld C hZ (nI_in (c := 6 * n + 3) (by omega) (by omega)) (show Value.int (xs (nI (6 * n + 3)).toNatClampNeg) = .int (xs (6 * n + 3)) by rw [nI_clamp (by omega)]) d_law_1401 ?_
    refine wk_br C d_law_1402 (P := (xs (6 * n + 3)) = 0) (tgt := 1409) (rest := [.int (xs (6 * n + 2)), .int (xs (6 * n + 1)), .ref y]) rfl (by decide) (fun cb => ?_) (fun cb => ?_)
    rotate_left
    · exact absurd hz cb
    refine wk_run C k_law_1409 (pc2 := 1410) (lv2 := [(5, .int (sp_surrogate V (xs (6 * n + 1)) (xs (6 * n + 2)) 0).1), (0, .ref b), (1, .ref x), (2, .ref y), (3, .ref ou), (4, .int (nI (6 * n)))]) (st2 := [.int 0, .int (xs (6 * n + 2)), .int (xs (6 * n + 1)), .ref y]) rfl ?_
    refine wk_callV (cl := ("ProfileRightsModel", T_MD, 27)) (rest := []) C (m_surrogate l D HB h2 h2 y A V (xs (6 * n + 1)) (xs (6 * n + 2)) 0 IW (Or.inl rfl) ic.1) cs_LW_147 kc_MD_surrogate ki_MD ic.1.ob rfl rfl rfl (Nat.le_of_ble_eq_true rfl) (Nat.le_of_ble_eq_true rfl) (Nat.le_of_ble_eq_true rfl) hc hs d_law_1410 (fun v2 h3 hq2 => ?_) (fun E h9 hq9 => by obtain ⟨_, _, _, _, z, _⟩ := hq9; cases z)
    obtain ⟨cd, r, V2, es, e1, hM2⟩ := hq2; cases e1
    show Wk _ _ _ _ _ _ _ _ _ _ _ _ _ _ _ _ _ _ _ (.int r :: _)
    have hW2 : wf V2 := by have z : wf (sp_surrogate V (xs (6 * n + 1)) (xs (6 * n + 2)) 0).2.2 := wf_surrogate IW (Or.inl rfl); rw [es] at z; exact z
    have hR2 : ok_ (V2 25 0) (n + 1) := by have z := r25_surrogate (V := V) (xs (6 * n + 1)) (xs (6 * n + 2)) 0 (by omega) IR; rw [es] at z; exact z
    have he : ∀ j, j ≠ 0 → j ≠ 26 → V2 j = (sp_surrogate V (xs (6 * n + 1)) (xs (6 * n + 2)) 0).2.2 j := fun j _ h26 => by rw [es]
    have ecd : V2 0 0 = (sp_surrogate V (xs (6 * n + 1)) (xs (6 * n + 2)) 0).1 := by have z := cd_surrogate V (xs (6 * n + 1)) (xs (6 * n + 2)) 0; rw [es] at z ⊢; exact z
    have er : (sp_surrogate V (xs (6 * n + 1)) (xs (6 * n + 2)) 0).2.1 = r := by rw [es]
    refine wk_run C k_law_1413 (pc2 := 1416) (lv2 := [(6, .int r), (5, .int (sp_surrogate V (xs (6 * n + 1)) (xs (6 * n + 2)) 0).1), (0, .ref b), (1, .ref x), (2, .ref y), (3, .ref ou), (4, .int (nI (6 * n)))]) (st2 := [.ref y]) rfl ?_
    refine wk_callV (cl := ("ProfileRightsModel", T_MD, 27)) (rest := []) C (c_MD_thrown l D HB h3 h2 y A V2 hM2) cs_LW_79 kc_MD_thrown ki_MD hM2.ob rfl rfl rfl (Nat.le_of_ble_eq_true rfl) (Nat.le_of_ble_eq_true rfl) (Nat.le_of_ble_eq_true rfl) hc hs d_law_1416 (fun v3 h4 hq3 => ?_) (fun E h9 hq9 => by obtain ⟨_, _, _, _, z, _⟩ := hq9; cases z)
    obtain ⟨cd3, r3, V3, es3, e1, hM3⟩ := hq3; cases e1; cases es3
    show Wk _ _ _ _ _ _ _ _ _ _ _ _ _ _ _ _ _ _ _ (.int (V2 0 0) :: _)
    have iv2 := iv_m hcr hM3 ic.2.1 ic.2.2 (by rw [ho2]; exact Io) hou2 no hW2 hR2 he
    refine wk_run C k_law_1419 (pc2 := 1421) (lv2 := [(6, .int r), (5, .int (sp_surrogate V (xs (6 * n + 1)) (xs (6 * n + 2)) 0).1), (0, .ref b), (1, .ref x), (2, .ref y), (3, .ref ou), (4, .int (nI (6 * n)))]) (st2 := [.int (sp_surrogate V (xs (6 * n + 1)) (xs (6 * n + 2)) 0).1, .int (V2 0 0)]) rfl ?_
    refine wk_br C d_law_1421 (P := (V2 0 0) = ((sp_surrogate V (xs (6 * n + 1)) (xs (6 * n + 2)) 0).1)) (tgt := 1426) (rest := []) rfl (by decide) (fun c1 => ?_) (fun c1 => ?_)
    ·
      refine wk_run C k_law_1426 (pc2 := 1428) (lv2 := [(6, .int r), (5, .int (sp_surrogate V (xs (6 * n + 1)) (xs (6 * n + 2)) 0).1), (0, .ref b), (1, .ref x), (2, .ref y), (3, .ref ou), (4, .int (nI (6 * n)))]) (st2 := [.int (sp_surrogate V (xs (6 * n + 1)) (xs (6 * n + 2)) 0).1]) rfl ?_
      refine wk_br C d_law_1428 (P := ¬ ((sp_surrogate V (xs (6 * n + 1)) (xs (6 * n + 2)) 0).1) = 0) (tgt := 1443) (rest := []) rfl (by decide) (fun c2 => ?_) (fun c2 => ?_)
      ·
        refine wk_goto C d_law_1443 (tgt := 1471) (by decide) ?_
        refine Wk.sub (lv2 := [(0, .ref b), (1, .ref x), (2, .ref y), (3, .ref ou), (4, .int (nI (6 * n)))]) [2, 3, 4, 5, 6] rfl ?_
        exact K _ own2 _ iv2.1
      ·
        have hf3 := hf2 (Classical.not_not.mp c2)
        refine wk_run C k_law_1431 (pc2 := 1433) (lv2 := [(6, .int r), (5, .int (sp_surrogate V (xs (6 * n + 1)) (xs (6 * n + 2)) 0).1), (0, .ref b), (1, .ref x), (2, .ref y), (3, .ref ou), (4, .int (nI (6 * n)))]) (st2 := [.int 0, .ref ou]) rfl ?_
        refine wk_lald C iv2.2 (nI_in (c := 0) (by decide) (by decide)) d_law_1433 ?_
        show Wk _ _ _ _ _ _ _ _ _ _ _ _ _ _ _ _ _ _ _ (.long (f2 0) :: _)
        rw [hf3, er]
        refine wk_run C k_law_1434 (pc2 := 1437) (lv2 := [(6, .int r), (5, .int (sp_surrogate V (xs (6 * n + 1)) (xs (6 * n + 2)) 0).1), (0, .ref b), (1, .ref x), (2, .ref y), (3, .ref ou), (4, .int (nI (6 * n)))]) (st2 := [.long r.toInt64, .long r.toInt64]) rfl ?_
        refine wk_lcmp C d_law_1437 ?_
        refine wk_br C d_law_1438 (P := (lg_cmp r.toInt64 r.toInt64) = 0) (tgt := 1443) (rest := []) rfl (by decide) (fun c4 => ?_) (fun c4 => ?_)
        ·
          refine wk_goto C d_law_1443 (tgt := 1471) (by decide) ?_
          refine Wk.sub (lv2 := [(0, .ref b), (1, .ref x), (2, .ref y), (3, .ref ou), (4, .int (nI (6 * n)))]) [2, 3, 4, 5, 6] rfl ?_
          exact K _ own2 _ iv2.1
        ·
          exact absurd (lg_s _) c4
    ·
      exact absurd ecd c1
  ·
    refine wk_run C k_law_1350 (pc2 := 1356) (lv2 := [(0, .ref b), (1, .ref x), (2, .ref y), (3, .ref ou), (4, .int (nI (6 * n)))]) (st2 := [.int ((nI (6 * n)) + 1), .ref b, .ref x]) rfl ?_
    rw [show nI (6 * n) + 1 = nI (6 * n + 1) from nI_a (6 * n) 1]
    refine wk_tld C hZ (nI_in (c := 6 * n + 1) (by omega) (by omega)) (show Value.int (xs (nI (6 * n + 1)).toNatClampNeg) = .int (xs (6 * n + 1)) by rw [nI_clamp (by omega)]) d_law_1356 ?_
    refine wk_run C k_law_1357 (pc2 := 1362) (lv2 := [(0, .ref b), (1, .ref x), (2, .ref y), (3, .ref ou), (4, .int (nI (6 * n)))]) (st2 := [.int ((nI (6 * n)) + 2), .ref b, .int (xs (6 * n + 1)), .ref x]) rfl ?_
    rw [show nI (6 * n) + 2 = nI (6 * n + 2) from nI_a (6 * n) 2]
    refine wk_tld C hZ (nI_in (c := 6 * n + 2) (by omega) (by omega)) (show Value.int (xs (nI (6 * n + 2)).toNatClampNeg) = .int (xs (6 * n + 2)) by rw [nI_clamp (by omega)]) d_law_1362 ?_
    refine wk_run C k_law_1363 (pc2 := 1368) (lv2 := [(0, .ref b), (1, .ref x), (2, .ref y), (3, .ref ou), (4, .int (nI (6 * n)))]) (st2 := [.int ((nI (6 * n)) + 3), .ref b, .int (xs (6 * n + 2)), .int (xs (6 * n + 1)), .ref x]) rfl ?_
    rw [show nI (6 * n) + 3 = nI (6 * n + 3) from nI_a (6 * n) 3]
    refine wk_tld C hZ (nI_in (c := 6 * n + 3) (by omega) (by omega)) (show Value.int (xs (nI (6 * n + 3)).toNatClampNeg) = .int (xs (6 * n + 3)) by rw [nI_clamp (by omega)]) d_law_1368 ?_
    refine wk_br C d_law_1369 (P := (xs (6 * n + 3)) = 0) (tgt := 1376) (rest := [.int (xs (6 * n + 2)), .int (xs (6 * n + 1)), .ref x]) rfl (by decide) (fun cb => ?_) (fun cb => ?_)
    · exact absurd cb hz
    refine wk_run C k_law_1372 (pc2 := 1373) (lv2 := [(0, .ref b), (1, .ref x), (2, .ref y), (3, .ref ou), (4, .int (nI (6 * n)))]) (st2 := [.int 1, .int (xs (6 * n + 2)), .int (xs (6 * n + 1)), .ref x]) rfl ?_
    refine wk_goto C d_law_1373 (tgt := 1377) (by decide) ?_
    refine wk_run C k_law_1377 (pc2 := 1378) (lv2 := [(0, .ref b), (1, .ref x), (2, .ref y), (3, .ref ou), (4, .int (nI (6 * n)))]) (st2 := [.ref ou, .int 1, .int (xs (6 * n + 2)), .int (xs (6 * n + 1)), .ref x]) rfl ?_
    refine wk_callSW (rest := []) C (c_LW_surrogate l D HB h hlt own V x ou (xs (6 * n + 1)) (xs (6 * n + 2)) 1 f IC IW (Or.inr rfl) hou Io) cs_LW_144 kc_LW_surrogate ki_LW rfl rfl (Nat.le_of_ble_eq_true rfl) (Nat.le_of_ble_eq_true rfl) (Nat.le_of_ble_eq_true rfl) hc hs d_law_1378 (fun v h2 hq => ?_) (fun E h2 hq => by obtain ⟨_, _, z, _⟩ := hq; cases z)
    obtain ⟨own2, f2, e1, hcr, hso, ho2, hou2, hf2⟩ := hq; cases e1
    show Wk _ _ _ _ _ _ _ _ _ _ _ _ _ _ _ _ _ _ _ (.int (sp_surrogate V (xs (6 * n + 1)) (xs (6 * n + 2)) 1).1 :: _)
    have ic := iv_c I hso
    refine wk_run C k_law_1381 (pc2 := 1389) (lv2 := [(5, .int (sp_surrogate V (xs (6 * n + 1)) (xs (6 * n + 2)) 1).1), (0, .ref b), (1, .ref x), (2, .ref y), (3, .ref ou), (4, .int (nI (6 * n)))]) (st2 := [.int ((nI (6 * n)) + 1), .ref b, .ref y]) rfl ?_
    rw [show nI (6 * n) + 1 = nI (6 * n + 1) from nI_a (6 * n) 1]
    refine wk_tld C hZ (nI_in (c := 6 * n + 1) (by omega) (by omega)) (show Value.int (xs (nI (6 * n + 1)).toNatClampNeg) = .int (xs (6 * n + 1)) by rw [nI_clamp (by omega)]) d_law_1389 ?_
    refine wk_run C k_law_1390 (pc2 := 1395) (lv2 := [(5, .int (sp_surrogate V (xs (6 * n + 1)) (xs (6 * n + 2)) 1).1), (0, .ref b), (1, .ref x), (2, .ref y), (3, .ref ou), (4, .int (nI (6 * n)))]) (st2 := [.int ((nI (6 * n)) + 2), .ref b, .int (xs (6 * n + 1)), .ref y]) rfl ?_
    rw [show nI (6 * n) + 2 = nI (6 * n + 2) from nI_a (6 * n) 2]
    refine wk_tld C hZ (nI_in (c := 6 * n + 2) (by omega) (by omega)) (show Value.int (xs (nI (6 * n + 2)).toNatClampNeg) = .int (xs (6 * n + 2)) by rw [nI_clamp (by omega)]) d_law_1395 ?_
    refine wk_run C k_law_1396 (pc2 := 1401) (lv2 := [(5, .int (sp_surrogate V (xs (6 * n + 1)) (xs (6 * n + 2)) 1).1), (0, .ref b), (1, .ref x), (2, .ref y), (3, .ref ou), (4, .int (nI (6 * n)))]) (st2 := [.int ((nI (6 * n)) + 3), .ref b, .int (xs (6 * n + 2)), .int (xs (6 * n + 1)), .ref y]) rfl ?_
    rw [show nI (6 * n) + 3 = nI (6 * n + 3) from nI_a (6 * n) 3]
    refine wk_tld C hZ (nI_in (c := 6 * n + 3) (by omega) (by omega)) (show Value.int (xs (nI (6 * n + 3)).toNatClampNeg) = .int (xs (6 * n + 3)) by rw [nI_clamp (by omega)]) d_law_1401 ?_
    refine wk_br C d_law_1402 (P := (xs (6 * n + 3)) = 0) (tgt := 1409) (rest := [.int (xs (6 * n + 2)), .int (xs (6 * n + 1)), .ref y]) rfl (by decide) (fun cb => ?_) (fun cb => ?_)
    · exact absurd cb hz
    refine wk_run C k_law_1405 (pc2 := 1406) (lv2 := [(5, .int (sp_surrogate V (xs (6 * n + 1)) (xs (6 * n + 2)) 1).1), (0, .ref b), (1, .ref x), (2, .ref y), (3, .ref ou), (4, .int (nI (6 * n)))]) (st2 := [.int 1, .int (xs (6 * n + 2)), .int (xs (6 * n + 1)), .ref y]) rfl ?_
    refine wk_goto C d_law_1406 (tgt := 1410) (by decide) ?_
    refine wk_callV (cl := ("ProfileRightsModel", T_MD, 27)) (rest := []) C (m_surrogate l D HB h2 h2 y A V (xs (6 * n + 1)) (xs (6 * n + 2)) 1 IW (Or.inr rfl) ic.1) cs_LW_147 kc_MD_surrogate ki_MD ic.1.ob rfl rfl rfl (Nat.le_of_ble_eq_true rfl) (Nat.le_of_ble_eq_true rfl) (Nat.le_of_ble_eq_true rfl) hc hs d_law_1410 (fun v2 h3 hq2 => ?_) (fun E h9 hq9 => by obtain ⟨_, _, _, _, z, _⟩ := hq9; cases z)
    obtain ⟨cd, r, V2, es, e1, hM2⟩ := hq2; cases e1
    show Wk _ _ _ _ _ _ _ _ _ _ _ _ _ _ _ _ _ _ _ (.int r :: _)
    have hW2 : wf V2 := by have z : wf (sp_surrogate V (xs (6 * n + 1)) (xs (6 * n + 2)) 1).2.2 := wf_surrogate IW (Or.inr rfl); rw [es] at z; exact z
    have hR2 : ok_ (V2 25 0) (n + 1) := by have z := r25_surrogate (V := V) (xs (6 * n + 1)) (xs (6 * n + 2)) 1 (by omega) IR; rw [es] at z; exact z
    have he : ∀ j, j ≠ 0 → j ≠ 26 → V2 j = (sp_surrogate V (xs (6 * n + 1)) (xs (6 * n + 2)) 1).2.2 j := fun j _ h26 => by rw [es]
    have ecd : V2 0 0 = (sp_surrogate V (xs (6 * n + 1)) (xs (6 * n + 2)) 1).1 := by have z := cd_surrogate V (xs (6 * n + 1)) (xs (6 * n + 2)) 1; rw [es] at z ⊢; exact z
    have er : (sp_surrogate V (xs (6 * n + 1)) (xs (6 * n + 2)) 1).2.1 = r := by rw [es]
    refine wk_run C k_law_1413 (pc2 := 1416) (lv2 := [(6, .int r), (5, .int (sp_surrogate V (xs (6 * n + 1)) (xs (6 * n + 2)) 1).1), (0, .ref b), (1, .ref x), (2, .ref y), (3, .ref ou), (4, .int (nI (6 * n)))]) (st2 := [.ref y]) rfl ?_
    refine wk_callV (cl := ("ProfileRightsModel", T_MD, 27)) (rest := []) C (c_MD_thrown l D HB h3 h2 y A V2 hM2) cs_LW_79 kc_MD_thrown ki_MD hM2.ob rfl rfl rfl (Nat.le_of_ble_eq_true rfl) (Nat.le_of_ble_eq_true rfl) (Nat.le_of_ble_eq_true rfl) hc hs d_law_1416 (fun v3 h4 hq3 => ?_) (fun E h9 hq9 => by obtain ⟨_, _, _, _, z, _⟩ := hq9; cases z)
    obtain ⟨cd3, r3, V3, es3, e1, hM3⟩ := hq3; cases e1; cases es3
    show Wk _ _ _ _ _ _ _ _ _ _ _ _ _ _ _ _ _ _ _ (.int (V2 0 0) :: _)
    have iv2 := iv_m hcr hM3 ic.2.1 ic.2.2 (by rw [ho2]; exact Io) hou2 no hW2 hR2 he
    refine wk_run C k_law_1419 (pc2 := 1421) (lv2 := [(6, .int r), (5, .int (sp_surrogate V (xs (6 * n + 1)) (xs (6 * n + 2)) 1).1), (0, .ref b), (1, .ref x), (2, .ref y), (3, .ref ou), (4, .int (nI (6 * n)))]) (st2 := [.int (sp_surrogate V (xs (6 * n + 1)) (xs (6 * n + 2)) 1).1, .int (V2 0 0)]) rfl ?_
    refine wk_br C d_law_1421 (P := (V2 0 0) = ((sp_surrogate V (xs (6 * n + 1)) (xs (6 * n + 2)) 1).1)) (tgt := 1426) (rest := []) rfl (by decide) (fun c1 => ?_) (fun c1 => ?_)
    ·
      refine wk_run C k_law_1426 (pc2 := 1428) (lv2 := [(6, .int r), (5, .int (sp_surrogate V (xs (6 * n + 1)) (xs (6 * n + 2)) 1).1), (0, .ref b), (1, .ref x), (2, .ref y), (3, .ref ou), (4, .int (nI (6 * n)))]) (st2 := [.int (sp_surrogate V (xs (6 * n + 1)) (xs (6 * n + 2)) 1).1]) rfl ?_
      refine wk_br C d_law_1428 (P := ¬ ((sp_surrogate V (xs (6 * n + 1)) (xs (6 * n + 2)) 1).1) = 0) (tgt := 1443) (rest := []) rfl (by decide) (fun c2 => ?_) (fun c2 => ?_)
      ·
        refine wk_goto C d_law_1443 (tgt := 1471) (by decide) ?_
        refine Wk.sub (lv2 := [(0, .ref b), (1, .ref x), (2, .ref y), (3, .ref ou), (4, .int (nI (6 * n)))]) [2, 3, 4, 5, 6] rfl ?_
        exact K _ own2 _ iv2.1
      ·
        have hf3 := hf2 (Classical.not_not.mp c2)
        refine wk_run C k_law_1431 (pc2 := 1433) (lv2 := [(6, .int r), (5, .int (sp_surrogate V (xs (6 * n + 1)) (xs (6 * n + 2)) 1).1), (0, .ref b), (1, .ref x), (2, .ref y), (3, .ref ou), (4, .int (nI (6 * n)))]) (st2 := [.int 0, .ref ou]) rfl ?_
        refine wk_lald C iv2.2 (nI_in (c := 0) (by decide) (by decide)) d_law_1433 ?_
        show Wk _ _ _ _ _ _ _ _ _ _ _ _ _ _ _ _ _ _ _ (.long (f2 0) :: _)
        rw [hf3, er]
        refine wk_run C k_law_1434 (pc2 := 1437) (lv2 := [(6, .int r), (5, .int (sp_surrogate V (xs (6 * n + 1)) (xs (6 * n + 2)) 1).1), (0, .ref b), (1, .ref x), (2, .ref y), (3, .ref ou), (4, .int (nI (6 * n)))]) (st2 := [.long r.toInt64, .long r.toInt64]) rfl ?_
        refine wk_lcmp C d_law_1437 ?_
        refine wk_br C d_law_1438 (P := (lg_cmp r.toInt64 r.toInt64) = 0) (tgt := 1443) (rest := []) rfl (by decide) (fun c4 => ?_) (fun c4 => ?_)
        ·
          refine wk_goto C d_law_1443 (tgt := 1471) (by decide) ?_
          refine Wk.sub (lv2 := [(0, .ref b), (1, .ref x), (2, .ref y), (3, .ref ou), (4, .int (nI (6 * n)))]) [2, 3, 4, 5, 6] rfl ?_
          exact K _ own2 _ iv2.1
        ·
          exact absurd (lg_s _) c4
    ·
      exact absurd ecd c1
