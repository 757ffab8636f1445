theorem k_law_468 : px_dec code [.aload_n 1, .aload_n 0, .iload 4, .iconst 1, .iadd] 468 = true := by decide +kernel
theorem d_law_474 : decode code 474 = .ok (.iaload, 1) := by decide +kernel
theorem k_law_475 : px_dec code [.aload_n 0, .iload 4, .iconst 2, .iadd] 475 = true := by decide +kernel
theorem d_law_480 : decode code 480 = .ok (.iaload, 1) := by decide +kernel
theorem d_law_481 : decode code 481 = .ok (.ifCond .eq 7, 3) := by decide +kernel
theorem k_law_488 : px_dec code [.iconst 0, .aload_n 3] 488 = true := by decide +kernel
theorem d_law_490 : decode code 490 = .ok (.invokestatic 97, 3) := by decide +kernel
theorem k_law_493 : px_dec code [.istore 5, .aload_n 2, .aload_n 0, .iload 4, .iconst 1, .iadd] 493 = true := by decide +kernel
theorem d_law_501 : decode code 501 = .ok (.iaload, 1) := by decide +kernel
theorem k_law_502 : px_dec code [.aload_n 0, .iload 4, .iconst 2, .iadd] 502 = true := by decide +kernel
theorem d_law_507 : decode code 507 = .ok (.iaload, 1) := by decide +kernel
theorem d_law_508 : decode code 508 = .ok (.ifCond .eq 7, 3) := by decide +kernel
theorem k_law_515 : px_dec code [.iconst 0] 515 = true := by decide +kernel
theorem d_law_516 : decode code 516 = .ok (.invokevirtual 99, 3) := by decide +kernel
theorem k_law_519 : px_dec code [.istore 6, .aload_n 2] 519 = true := by decide +kernel
theorem d_law_522 : decode code 522 = .ok (.invokevirtual 79, 3) := by decide +kernel
theorem k_law_525 : px_dec code [.iload 5] 525 = true := by decide +kernel
theorem d_law_527 : decode code 527 = .ok (.if_icmp .eq 5, 3) := by decide +kernel
theorem k_law_532 : px_dec code [.iload 5] 532 = true := by decide +kernel
theorem d_law_534 : decode code 534 = .ok (.ifCond .ne 15, 3) := by decide +kernel
theorem d_law_549 : decode code 549 = .ok (.goto 922, 3) := by decide +kernel
theorem k_law_537 : px_dec code [.aload_n 3, .iconst 0] 537 = true := by decide +kernel
theorem d_law_539 : decode code 539 = .ok (.laload, 1) := by decide +kernel
theorem k_law_540 : px_dec code [.iload 6, .i2l] 540 = true := by decide +kernel
theorem d_law_543 : decode code 543 = .ok (.lcmp, 1) := by decide +kernel
theorem d_law_544 : decode code 544 = .ok (.ifCond .eq 5, 3) := by decide +kernel
theorem k_law_484 : px_dec code [.iconst 1] 484 = true := by decide +kernel
theorem d_law_485 : decode code 485 = .ok (.goto 4, 3) := by decide +kernel
theorem k_law_489 : px_dec code [.aload_n 3] 489 = true := by decide +kernel
theorem k_law_511 : px_dec code [.iconst 1] 511 = true := by decide +kernel
theorem d_law_512 : decode code 512 = .ok (.goto 4, 3) := by decide +kernel
set_option maxRecDepth 100000 in
set_option maxHeartbeats 4000000 in
theorem lw_pass {p : Program} {l : Launch} {e : Env} {s : State} {m : MethodId} {args : Array Value} {below : List Frame} {meth : Method} {c : Code} {Q : State → Prop} {D : va_G} {HB : Heap} {hh : List (Nat × Nat × Nat × Nat)} (C : wk_C p s m args meth c code "ProfileRightsLaw" 7 ret hh D HB) (hlt : l.stackTraces = false) {b L : Nat} {xs : Nat → Int32} (hZ : va_T .int b L (fun j => .int (xs j)) (hp_A HB) s HB) {x y ou : Nat} {A : Nat → Nat} {n cells slots : Nat} {V : vT} {own : oT} {h : hp_T} (hn : n < 512) (hL : L ≤ 3072) (h6 : 6 * n + 6 ≤ L) (hc : cells + 8 ≤ 601024) (hs : slots + 200 ≤ 7293034) (I : iv D x y ou A n V own h) (K : ∀ (V2 : vT) (own2 : oT) (h2 : hp_T), iv D x y ou A (n + 1) V2 own2 h2 → Wk p l e room_1 s m args below meth c 7 D HB Q h2 (cells + 8) (slots + 200) 1471 [(0, .ref b), (1, .ref x), (2, .ref y), (3, .ref ou), (4, .int (nI (6 * n)))] []) : Wk p l e room_1 s m args below meth c 7 D HB Q h cells slots 468 [(0, .ref b), (1, .ref x), (2, .ref y), (3, .ref ou), (4, .int (nI (6 * n)))] [] := by
  obtain ⟨IM, IC, IW, IR, Iy, IA, Io, f, hou⟩ := id I
  have no := mq_ou IM hou
  obtain ⟨gl, ul, pl, mo, aq, tr, hx0⟩ := cr_x IC
  rcases Classical.em (xs (6 * n + 2) = 0) with hz | hz
  ·
    refine wk_run C k_law_468 (pc2 := 474) (lv2 := [(0, .ref b), (1, .ref x), (2, .ref y), (3, .ref ou), (4, .int (nI (6 * n)))]) (st2 := [.int ((nI (6 * n)) + 1), .ref b, .ref x]) rfl ?_
    rw [show nI (6 * n) + 1 = nI (6 * n + 1) from nI_a (6 * n) 1]
    refine wk_tld C hZ (nI_in (c := 6 * n + 1) (by omega) (by omega)) (show Value.int (xs (nI (6 * n + 1)).toNatClampNeg) = .int (xs (6 * n + 1)) by rw [nI_clamp (by omega)]) d_law_474 ?_
    refine wk_run C k_law_475 (pc2 := 480) (lv2 := [(0, .ref b), (1, .ref x), (2, .ref y), (3, .ref ou), (4, .int (nI (6 * n)))]) (st2 := [.int ((nI (6 * n)) + 2), .ref b, .int (xs (6 * n + 1)), .ref x]) rfl ?_
    rw [show nI (6 * n) + 2 = nI (6 * n + 2) from nI_a (6 * n) 2]
    refine wk_tld C hZ (nI_in (c := 6 * n + 2) (by omega) (by omega)) (show Value.int (xs (nI (6 * n + 2)).toNatClampNeg) = .int (xs (6 * n + 2)) by rw [nI_clamp (by omega)]) d_law_480 ?_
    refine wk_br C d_law_481 (P := (xs (6 * n + 2)) = 0) (tgt := 488) (rest := [.int (xs (6 * n + 1)), .ref x]) rfl (by decide) (fun cb => ?_) (fun cb => ?_)
    rotate_left
    · exact absurd hz cb
    refine wk_run C k_law_488 (pc2 := 490) (lv2 := [(0, .ref b), (1, .ref x), (2, .ref y), (3, .ref ou), (4, .int (nI (6 * n)))]) (st2 := [.ref ou, .int 0, .int (xs (6 * n + 1)), .ref x]) rfl ?_
    refine wk_callSW (rest := []) C (c_LW_pass l D HB h hlt own V x ou (xs (6 * n + 1)) 0 f IC IW (Or.inl rfl) hou Io) cs_LW_97 kc_LW_pass ki_LW rfl rfl (Nat.le_of_ble_eq_true rfl) (Nat.le_of_ble_eq_true rfl) (Nat.le_of_ble_eq_true rfl) hc hs d_law_490 (fun v h2 hq => ?_) (fun E h2 hq => by obtain ⟨_, _, z, _⟩ := hq; cases z)
    obtain ⟨own2, f2, e1, hcr, hso, ho2, hou2, hf2⟩ := hq; cases e1
    show Wk _ _ _ _ _ _ _ _ _ _ _ _ _ _ _ _ _ _ _ (.int (sp_pass V (xs (6 * n + 1)) 0).1 :: _)
    have ic := iv_c I hso
    refine wk_run C k_law_493 (pc2 := 501) (lv2 := [(5, .int (sp_pass V (xs (6 * n + 1)) 0).1), (0, .ref b), (1, .ref x), (2, .ref y), (3, .ref ou), (4, .int (nI (6 * n)))]) (st2 := [.int ((nI (6 * n)) + 1), .ref b, .ref y]) rfl ?_
    rw [show nI (6 * n) + 1 = nI (6 * n + 1) from nI_a (6 * n) 1]
    refine wk_tld C hZ (nI_in (c := 6 * n + 1) (by omega) (by omega)) (show Value.int (xs (nI (6 * n + 1)).toNatClampNeg) = .int (xs (6 * n + 1)) by rw [nI_clamp (by omega)]) d_law_501 ?_
    refine wk_run C k_law_502 (pc2 := 507) (lv2 := [(5, .int (sp_pass V (xs (6 * n + 1)) 0).1), (0, .ref b), (1, .ref x), (2, .ref y), (3, .ref ou), (4, .int (nI (6 * n)))]) (st2 := [.int ((nI (6 * n)) + 2), .ref b, .int (xs (6 * n + 1)), .ref y]) rfl ?_
    rw [show nI (6 * n) + 2 = nI (6 * n + 2) from nI_a (6 * n) 2]
    refine wk_tld C hZ (nI_in (c := 6 * n + 2) (by omega) (by omega)) (show Value.int (xs (nI (6 * n + 2)).toNatClampNeg) = .int (xs (6 * n + 2)) by rw [nI_clamp (by omega)]) d_law_507 ?_
    refine wk_br C d_law_508 (P := (xs (6 * n + 2)) = 0) (tgt := 515) (rest := [.int (xs (6 * n + 1)), .ref y]) rfl (by decide) (fun cb => ?_) (fun cb => ?_)
    rotate_left
    · exact absurd hz cb
    refine wk_run C k_law_515 (pc2 := 516) (lv2 := [(5, .int (sp_pass V (xs (6 * n + 1)) 0).1), (0, .ref b), (1, .ref x), (2, .ref y), (3, .ref ou), (4, .int (nI (6 * n)))]) (st2 := [.int 0, .int (xs (6 * n + 1)), .ref y]) rfl ?_
    refine wk_callV (cl := ("ProfileRightsModel", T_MD, 27)) (rest := []) C (m_pass l D HB h2 h2 y A V (xs (6 * n + 1)) 0 IW ic.1) cs_LW_99 kc_MD_pass ki_MD ic.1.ob rfl rfl rfl (Nat.le_of_ble_eq_true rfl) (Nat.le_of_ble_eq_true rfl) (Nat.le_of_ble_eq_true rfl) hc hs d_law_516 (fun v2 h3 hq2 => ?_) (fun E h9 hq9 => by obtain ⟨_, _, _, _, z, _⟩ := hq9; cases z)
    obtain ⟨cd, r, V2, es, e1, hM2⟩ := hq2; cases e1
    show Wk _ _ _ _ _ _ _ _ _ _ _ _ _ _ _ _ _ _ _ (.int r :: _)
    have hW2 : wf V2 := by have z : wf (sp_pass V (xs (6 * n + 1)) 0).2.2 := wf_pass IW; rw [es] at z; exact z
    have hR2 : ok_ (V2 25 0) (n + 1) := by have z := r25_pass (V := V) (xs (6 * n + 1)) 0 (by omega) IR; rw [es] at z; exact z
    have he : ∀ j, j ≠ 0 → j ≠ 26 → V2 j = (sp_pass V (xs (6 * n + 1)) 0).2.2 j := fun j _ h26 => by rw [es]
    have ecd : V2 0 0 = (sp_pass V (xs (6 * n + 1)) 0).1 := by have z := cd_pass V (xs (6 * n + 1)) 0; rw [es] at z ⊢; exact z
    have er : (sp_pass V (xs (6 * n + 1)) 0).2.1 = r := by rw [es]
    refine wk_run C k_law_519 (pc2 := 522) (lv2 := [(6, .int r), (5, .int (sp_pass V (xs (6 * n + 1)) 0).1), (0, .ref b), (1, .ref x), (2, .ref y), (3, .ref ou), (4, .int (nI (6 * n)))]) (st2 := [.ref y]) rfl ?_
    refine wk_callV (cl := ("ProfileRightsModel", T_MD, 27)) (rest := []) C (c_MD_thrown l D HB h3 h2 y A V2 hM2) cs_LW_79 kc_MD_thrown ki_MD hM2.ob rfl rfl rfl (Nat.le_of_ble_eq_true rfl) (Nat.le_of_ble_eq_true rfl) (Nat.le_of_ble_eq_true rfl) hc hs d_law_522 (fun v3 h4 hq3 => ?_) (fun E h9 hq9 => by obtain ⟨_, _, _, _, z, _⟩ := hq9; cases z)
    obtain ⟨cd3, r3, V3, es3, e1, hM3⟩ := hq3; cases e1; cases es3
    show Wk _ _ _ _ _ _ _ _ _ _ _ _ _ _ _ _ _ _ _ (.int (V2 0 0) :: _)
    have iv2 := iv_m hcr hM3 ic.2.1 ic.2.2 (by rw [ho2]; exact Io) hou2 no hW2 hR2 he
    refine wk_run C k_law_525 (pc2 := 527) (lv2 := [(6, .int r), (5, .int (sp_pass V (xs (6 * n + 1)) 0).1), (0, .ref b), (1, .ref x), (2, .ref y), (3, .ref ou), (4, .int (nI (6 * n)))]) (st2 := [.int (sp_pass V (xs (6 * n + 1)) 0).1, .int (V2 0 0)]) rfl ?_
    refine wk_br C d_law_527 (P := (V2 0 0) = ((sp_pass V (xs (6 * n + 1)) 0).1)) (tgt := 532) (rest := []) rfl (by decide) (fun c1 => ?_) (fun c1 => ?_)
    ·
      refine wk_run C k_law_532 (pc2 := 534) (lv2 := [(6, .int r), (5, .int (sp_pass V (xs (6 * n + 1)) 0).1), (0, .ref b), (1, .ref x), (2, .ref y), (3, .ref ou), (4, .int (nI (6 * n)))]) (st2 := [.int (sp_pass V (xs (6 * n + 1)) 0).1]) rfl ?_
      refine wk_br C d_law_534 (P := ¬ ((sp_pass V (xs (6 * n + 1)) 0).1) = 0) (tgt := 549) (rest := []) rfl (by decide) (fun c2 => ?_) (fun c2 => ?_)
      ·
        refine wk_goto C d_law_549 (tgt := 1471) (by decide) ?_
        refine Wk.sub (lv2 := [(0, .ref b), (1, .ref x), (2, .ref y), (3, .ref ou), (4, .int (nI (6 * n)))]) [2, 3, 4, 5, 6] rfl ?_
        exact K _ own2 _ iv2.1
      ·
        have hf3 := hf2 (Classical.not_not.mp c2)
        refine wk_run C k_law_537 (pc2 := 539) (lv2 := [(6, .int r), (5, .int (sp_pass V (xs (6 * n + 1)) 0).1), (0, .ref b), (1, .ref x), (2, .ref y), (3, .ref ou), (4, .int (nI (6 * n)))]) (st2 := [.int 0, .ref ou]) rfl ?_
        refine wk_lald C iv2.2 (nI_in (c := 0) (by decide) (by decide)) d_law_539 ?_
        show Wk _ _ _ _ _ _ _ _ _ _ _ _ _ _ _ _ _ _ _ (.long (f2 0) :: _)
        rw [hf3, er]
        refine wk_run C k_law_540 (pc2 := 543) (lv2 := [(6, .int r), (5, .int (sp_pass V (xs (6 * n + 1)) 0).1), (0, .ref b), (1, .ref x), (2, .ref y), (3, .ref ou), (4, .int (nI (6 * n)))]) (st2 := [.long r.toInt64, .long r.toInt64]) rfl ?_
        refine wk_lcmp C d_law_543 ?_
        refine wk_br C d_law_544 (P := (lg_cmp r.toInt64 r.toInt64) = 0) (tgt := 549) (rest := []) rfl (by decide) (fun c4 => ?_) (fun c4 => ?_)
        ·
          refine wk_goto C d_law_549 (tgt := 1471) (by decide) ?_
          refine Wk.sub (lv2 := [(0, .ref b), (1, .ref x), (2, .ref y), (3, .ref ou), (4, .int (nI (6 * n)))]) [2, 3, 4, 5, 6] rfl ?_
          exact K _ own2 _ iv2.1
        ·
          exact absurd (lg_s _) c4
    ·
      exact absurd ecd c1
  ·
    refine wk_run C k_law_468 (pc2 := 474) (lv2 := [(0, .ref b), (1, .ref x), (2, .ref y), (3, .ref ou), (4, .int (nI (6 * n)))]) (st2 := [.int ((nI (6 * n)) + 1), .ref b, .ref x]) rfl ?_
    rw [show nI (6 * n) + 1 = nI (6 * n + 1) from nI_a (6 * n) 1]
    refine wk_tld C hZ (nI_in (c := 6 * n + 1) (by omega) (by omega)) (show Value.int (xs (nI (6 * n + 1)).toNatClampNeg) = .int (xs (6 * n + 1)) by rw [nI_clamp (by omega)]) d_law_474 ?_
    refine wk_run C k_law_475 (pc2 := 480) (lv2 := [(0, .ref b), (1, .ref x), (2, .ref y), (3, .ref ou), (4, .int (nI (6 * n)))]) (st2 := [.int ((nI (6 * n)) + 2), .ref b, .int (xs (6 * n + 1)), .ref x]) rfl ?_
    rw [show nI (6 * n) + 2 = nI (6 * n + 2) from nI_a (6 * n) 2]
    refine wk_tld C hZ (nI_in (c := 6 * n + 2) (by omega) (by omega)) (show Value.int (xs (nI (6 * n + 2)).toNatClampNeg) = .int (xs (6 * n + 2)) by rw [nI_clamp (by omega)]) d_law_480 ?_
    refine wk_br C d_law_481 (P := (xs (6 * n + 2)) = 0) (tgt := 488) (rest := [.int (xs (6 * n + 1)), .ref x]) rfl (by decide) (fun cb => ?_) (fun cb => ?_)
    · exact absurd cb hz
    refine wk_run C k_law_484 (pc2 := 485) (lv2 := [(0, .ref b), (1, .ref x), (2, .ref y), (3, .ref ou), (4, .int (nI (6 * n)))]) (st2 := [.int 1, .int (xs (6 * n + 1)), .ref x]) rfl ?_
    refine wk_goto C d_law_485 (tgt := 489) (by decide) ?_
    refine wk_run C k_law_489 (pc2 := 490) (lv2 := [(0, .ref b), (1, .ref x), (2, .ref y), (3, .ref ou), (4, .int (nI (6 * n)))]) (st2 := [.ref ou, .int 1, .int (xs (6 * n + 1)), .ref x]) rfl ?_
    refine wk_callSW (rest := []) C (c_LW_pass l D HB h hlt own V x ou (xs (6 * n + 1)) 1 f IC IW (Or.inr rfl) hou Io) cs_LW_97 kc_LW_pass ki_LW rfl rfl (Nat.le_of_ble_eq_true rfl) (Nat.le_of_ble_eq_true rfl) (Nat.le_of_ble_eq_true rfl) hc hs d_law_490 (fun v h2 hq => ?_) (fun E h2 hq => by obtain ⟨_, _, z, _⟩ := hq; cases z)
    obtain ⟨own2, f2, e1, hcr, hso, ho2, hou2, hf2⟩ := hq; cases e1
    show Wk _ _ _ _ _ _ _ _ _ _ _ _ _ _ _ _ _ _ _ (.int (sp_pass V (xs (6 * n + 1)) 1).1 :: _)
    have ic := iv_c I hso
    refine wk_run C k_law_493 (pc2 := 501) (lv2 := [(5, .int (sp_pass V (xs (6 * n + 1)) 1).1), (0, .ref b), (1, .ref x), (2, .ref y), (3, .ref ou), (4, .int (nI (6 * n)))]) (st2 := [.int ((nI (6 * n)) + 1), .ref b, .ref y]) rfl ?_
    rw [show nI (6 * n) + 1 = nI (6 * n + 1) from nI_a (6 * n) 1]
    refine wk_tld C hZ (nI_in (c := 6 * n + 1) (by omega) (by omega)) (show Value.int (xs (nI (6 * n + 1)).toNatClampNeg) = .int (xs (6 * n + 1)) by rw [nI_clamp (by omega)]) d_law_501 ?_
    refine wk_run C k_law_502 (pc2 := 507) (lv2 := [(5, .int (sp_pass V (xs (6 * n + 1)) 1).1), (0, .ref b), (1, .ref x), (2, .ref y), (3, .ref ou), (4, .int (nI (6 * n)))]) (st2 := [.int ((nI (6 * n)) + 2), .ref b, .int (xs (6 * n + 1)), .ref y]) rfl ?_
    rw [show nI (6 * n) + 2 = nI (6 * n + 2) from nI_a (6 * n) 2]
    refine wk_tld C hZ (nI_in (c := 6 * n + 2) (by omega) (by omega)) (show Value.int (xs (nI (6 * n + 2)).toNatClampNeg) = .int (xs (6 * n + 2)) by rw [nI_clamp (by omega)]) d_law_507 ?_
    refine wk_br C d_law_508 (P := (xs (6 * n + 2)) = 0) (tgt := 515) (rest := [.int (xs (6 * n + 1)), .ref y]) rfl (by decide) (fun cb => ?_) (fun cb => ?_)
    · exact absurd cb hz
    refine wk_run C k_law_511 (pc2 := 512) (lv2 := [(5, .int (sp_pass V (xs (6 * n + 1)) 1).1), (0, .ref b), (1, .ref x), (2, .ref y), (3, .ref ou), (4, .int (nI (6 * n)))]) (st2 := [.int 1, .int (xs (6 * n + 1)), .ref y]) rfl ?_
    refine wk_goto C d_law_512 (tgt := 516) (by decide) ?_
    refine wk_callV (cl := ("ProfileRightsModel", T_MD, 27)) (rest := []) C (m_pass l D HB h2 h2 y A V (xs (6 * n + 1)) 1 IW ic.1) cs_LW_99 kc_MD_pass ki_MD ic.1.ob rfl rfl rfl (Nat.le_of_ble_eq_true rfl) (Nat.le_of_ble_eq_true rfl) (Nat.le_of_ble_eq_true rfl) hc hs d_law_516 (fun v2 h3 hq2 => ?_) (fun E h9 hq9 => by obtain ⟨_, _, _, _, z, _⟩ := hq9; cases z)
    obtain ⟨cd, r, V2, es, e1, hM2⟩ := hq2; cases e1
    show Wk _ _ _ _ _ _ _ _ _ _ _ _ _ _ _ _ _ _ _ (.int r :: _)
    have hW2 : wf V2 := by have z : wf (sp_pass V (xs (6 * n + 1)) 1).2.2 := wf_pass IW; rw [es] at z; exact z
    have hR2 : ok_ (V2 25 0) (n + 1) := by have z := r25_pass (V := V) (xs (6 * n + 1)) 1 (by omega) IR; rw [es] at z; exact z
    have he : ∀ j, j ≠ 0 → j ≠ 26 → V2 j = (sp_pass V (xs (6 * n + 1)) 1).2.2 j := fun j _ h26 => by rw [es]
    have ecd : V2 0 0 = (sp_pass V (xs (6 * n + 1)) 1).1 := by have z := cd_pass V (xs (6 * n + 1)) 1; rw [es] at z ⊢; exact z
    have er : (sp_pass V (xs (6 * n + 1)) 1).2.1 = r := by rw [es]
    refine wk_run C k_law_519 (pc2 := 522) (lv2 := [(6, .int r), (5, .int (sp_pass V (xs (6 * n + 1)) 1).1), (0, .ref b), (1, .ref x), (2, .ref y), (3, .ref ou), (4, .int (nI (6 * n)))]) (st2 := [.ref y]) rfl ?_
    refine wk_callV (cl := ("ProfileRightsModel", T_MD, 27)) (rest := []) C (c_MD_thrown l D HB h3 h2 y A V2 hM2) cs_LW_79 kc_MD_thrown ki_MD hM2.ob rfl rfl rfl (Nat.le_of_ble_eq_true rfl) (Nat.le_of_ble_eq_true rfl) (Nat.le_of_ble_eq_true rfl) hc hs d_law_522 (fun v3 h4 hq3 => ?_) (fun E h9 hq9 => by obtain ⟨_, _, _, _, z, _⟩ := hq9; cases z)
    obtain ⟨cd3, r3, V3, es3, e1, hM3⟩ := hq3; cases e1; cases es3
    show Wk _ _ _ _ _ _ _ _ _ _ _ _ _ _ _ _ _ _ _ (.int (V2 0 0) :: _)
    have iv2 := iv_m hcr hM3 ic.2.1 ic.2.2 (by rw [ho2]; exact Io) hou2 no hW2 hR2 he
    refine wk_run C k_law_525 (pc2 := 527) (lv2 := [(6, .int r), (5, .int (sp_pass V (xs (6 * n + 1)) 1).1), (0, .ref b), (1, .ref x), (2, .ref y), (3, .ref ou), (4, .int (nI (6 * n)))]) (st2 := [.int (sp_pass V (xs (6 * n + 1)) 1).1, .int (V2 0 0)]) rfl ?_
    refine wk_br C d_law_527 (P := (V2 0 0) = ((sp_pass V (xs (6 * n + 1)) 1).1)) (tgt := 532) (rest := []) rfl (by decide) (fun c1 => ?_) (fun c1 => ?_)
    ·
      refine wk_run C k_law_532 (pc2 := 534) (lv2 := [(6, .int r), (5, .int (sp_pass V (xs (6 * n + 1)) 1).1), (0, .ref b), (1, .ref x), (2, .ref y), (3, .ref ou), (4, .int (nI (6 * n)))]) (st2 := [.int (sp_pass V (xs (6 * n + 1)) 1).1]) rfl ?_
      refine wk_br C d_law_534 (P := ¬ ((sp_pass V (xs (6 * n + 1)) 1).1) = 0) (tgt := 549) (rest := []) rfl (by decide) (fun c2 => ?_) (fun c2 => ?_)
      ·
        refine wk_goto C d_law_549 (tgt := 1471) (by decide) ?_
        refine Wk.sub (lv2 := [(0, .ref b), (1, .ref x), (2, .ref y), (3, .ref ou), (4, .int (nI (6 * n)))]) [2, 3, 4, 5, 6] rfl ?_
        exact K _ own2 _ iv2.1
      ·
        have hf3 := hf2 (Classical.not_not.mp c2)
        refine wk_run C k_law_537 (pc2 := 539) (lv2 := [(6, .int r), (5, .int (sp_pass V (xs (6 * n + 1)) 1).1), (0, .ref b), (1, .ref x), (2, .ref y), (3, .ref ou), (4, .int (nI (6 * n)))]) (st2 := [.int 0, .ref ou]) rfl ?_
        refine wk_lald C iv2.2 (nI_in (c := 0) (by decide) (by decide)) d_law_539 ?_
        show Wk _ _ _ _ _ _ _ _ _ _ _ _ _ _ _ _ _ _ _ (.long (f2 0) :: _)
        rw [hf3, er]
        refine wk_run C k_law_540 (pc2 := 543) (lv2 := [(6, .int r), (5, .int (sp_pass V (xs (6 * n + 1)) 1).1), (0, .ref b), (1, .ref x), (2, .ref y), (3, .ref ou), (4, .int (nI (6 * n)))]) (st2 := [.long r.toInt64, .long r.toInt64]) rfl ?_
        refine wk_lcmp C d_law_543 ?_
        refine wk_br C d_law_544 (P := (lg_cmp r.toInt64 r.toInt64) = 0) (tgt := 549) (rest := []) rfl (by decide) (fun c4 => ?_) (fun c4 => ?_)
        ·
          refine wk_goto C d_law_549 (tgt := 1471) (by decide) ?_
          refine Wk.sub (lv2 := [(0, .ref b), (1, .ref x), (2, .ref y), (3, .ref ou), (4, .int (nI (6 * n)))]) [2, 3, 4, 5, 6] rfl ?_
          exact K _ own2 _ iv2.1
        ·
          exact absurd (lg_s _) c4
    ·
      exact absurd ecd c1
