theorem k_law_552 : px_dec code [.aload_n 1, .aload_n 0, .iload 4, .iconst 1, .iadd] 552 = true := by decide +kernel
theorem d_law_558 : decode code 558 = .ok (.iaload, 1) := by decide +kernel
theorem k_law_559 : px_dec code [.aload_n 0, .iload 4, .iconst 2, .iadd] 559 = true := by decide +kernel
theorem d_law_564 : decode code 564 = .ok (.iaload, 1) := by decide +kernel
theorem k_law_565 : px_dec code [.aload_n 3] 565 = true := by decide +kernel
theorem d_law_566 : decode code 566 = .ok (.invokestatic 100, 3) := by decide +kernel
theorem k_law_569 : px_dec code [.istore 5, .aload_n 2, .aload_n 0, .iload 4, .iconst 1, .iadd] 569 = true := by decide +kernel
theorem d_law_577 : decode code 577 = .ok (.iaload, 1) := by decide +kernel
theorem k_law_578 : px_dec code [.aload_n 0, .iload 4, .iconst 2, .iadd] 578 = true := by decide +kernel
theorem d_law_583 : decode code 583 = .ok (.iaload, 1) := by decide +kernel
theorem d_law_584 : decode code 584 = .ok (.invokevirtual 102, 3) := by decide +kernel
theorem k_law_587 : px_dec code [.istore 6, .aload_n 2] 587 = true := by decide +kernel
theorem d_law_590 : decode code 590 = .ok (.invokevirtual 79, 3) := by decide +kernel
theorem k_law_593 : px_dec code [.iload 5] 593 = true := by decide +kernel
theorem d_law_595 : decode code 595 = .ok (.if_icmp .eq 5, 3) := by decide +kernel
theorem k_law_600 : px_dec code [.iload 5] 600 = true := by decide +kernel
theorem d_law_602 : decode code 602 = .ok (.ifCond .ne 15, 3) := by decide +kernel
theorem d_law_617 : decode code 617 = .ok (.goto 854, 3) := by decide +kernel
theorem k_law_605 : px_dec code [.aload_n 3, .iconst 0] 605 = true := by decide +kernel
theorem d_law_607 : decode code 607 = .ok (.laload, 1) := by decide +kernel
theorem k_law_608 : px_dec code [.iload 6, .i2l] 608 = true := by decide +kernel
theorem d_law_611 : decode code 611 = .ok (.lcmp, 1) := by decide +kernel
theorem d_law_612 : decode code 612 = .ok (.ifCond .eq 5, 3) := by decide +kernel
set_option maxRecDepth 100000 in
set_option maxHeartbeats 4000000 in
theorem lw_mode {p : Program} {l : Launch} {e : Env} {s : State} {m : MethodId} {args : Array Value} {below : List Frame} {meth : Method} {c : Code} {Q : State → Prop} {D : va_G} {HB : Heap} {hh : List (Nat × Nat × Nat × Nat)} (C : wk_C p s m args meth c code "ProfileRightsLaw" 7 ret hh D HB) (hlt : l.stackTraces = false) {b L : Nat} {xs : Nat → Int32} (hZ : va_T .int b L (fun j => .int (xs j)) (hp_A HB) s HB) {x y ou : Nat} {A : Nat → Nat} {n cells slots : Nat} {V : vT} {own : oT} {h : hp_T} (hn : n < 512) (hL : L ≤ 3072) (h6 : 6 * n + 6 ≤ L) (hc : cells + 8 ≤ 601024) (hs : slots + 200 ≤ 7293034) (I : iv D x y ou A n V own h) (K : ∀ (V2 : vT) (own2 : oT) (h2 : hp_T), iv D x y ou A (n + 1) V2 own2 h2 → Wk p l e room_1 s m args below meth c 7 D HB Q h2 (cells + 8) (slots + 200) 1471 [(0, .ref b), (1, .ref x), (2, .ref y), (3, .ref ou), (4, .int (nI (6 * n)))] []) : Wk p l e room_1 s m args below meth c 7 D HB Q h cells slots 552 [(0, .ref b), (1, .ref x), (2, .ref y), (3, .ref ou), (4, .int (nI (6 * n)))] [] := by
  obtain ⟨IM, IC, IW, IR, Iy, IA, Io, f, hou⟩ := id I
  have no := mq_ou IM hou
  obtain ⟨gl, ul, pl, mo, aq, tr, hx0⟩ := cr_x IC
  refine wk_run C k_law_552 (pc2 := 558) (lv2 := [(0, .ref b), (1, .ref x), (2, .ref y), (3, .ref ou), (4, .int (nI (6 * n)))]) (st2 := [.int ((nI (6 * n)) + 1), .ref b, .ref x]) rfl ?_
  rw [show nI (6 * n) + 1 = nI (6 * n + 1) from nI_a (6 * n) 1]
  refine wk_tld C hZ (nI_in (c := 6 * n + 1) (by omega) (by omega)) (show Value.int (xs (nI (6 * n + 1)).toNatClampNeg) = .int (xs (6 * n + 1)) by rw [nI_clamp (by omega)]) d_law_558 ?_
  refine wk_run C k_law_559 (pc2 := 564) (lv2 := [(0, .ref b), (1, .ref x), (2, .ref y), (3, .ref ou), (4, .int (nI (6 * n)))]) (st2 := [.int ((nI (6 * n)) + 2), .ref b, .int (xs (6 * n + 1)), .ref x]) rfl ?_
  rw [show nI (6 * n) + 2 = nI (6 * n + 2) from nI_a (6 * n) 2]
  refine wk_tld C hZ (nI_in (c := 6 * n + 2) (by omega) (by omega)) (show Value.int (xs (nI (6 * n + 2)).toNatClampNeg) = .int (xs (6 * n + 2)) by rw [nI_clamp (by omega)]) d_law_564 ?_
  refine wk_run C k_law_565 (pc2 := 566) (lv2 := [(0, .ref b), (1, .ref x), (2, .ref y), (3, .ref ou), (4, .int (nI (6 * n)))]) (st2 := [.ref ou, .int (xs (6 * n + 2)), .int (xs (6 * n + 1)), .ref x]) rfl ?_
  refine wk_callSW (rest := []) C (c_LW_mode l D HB h hlt own V x ou (xs (6 * n + 1)) (xs (6 * n + 2)) f IC IW hou Io) cs_LW_100 kc_LW_mode ki_LW rfl rfl (Nat.le_of_ble_eq_true rfl) (Nat.le_of_ble_eq_true rfl) (Nat.le_of_ble_eq_true rfl) hc hs d_law_566 (fun v h2 hq => ?_) (fun E h2 hq => by obtain ⟨_, _, z, _⟩ := hq; cases z)
  obtain ⟨own2, f2, e1, hcr, hso, ho2, hou2, hf2⟩ := hq; cases e1
  show Wk _ _ _ _ _ _ _ _ _ _ _ _ _ _ _ _ _ _ _ (.int (sp_mode V (xs (6 * n + 1)) (xs (6 * n + 2))).1 :: _)
  have ic := iv_c I hso
  refine wk_run C k_law_569 (pc2 := 577) (lv2 := [(5, .int (sp_mode V (xs (6 * n + 1)) (xs (6 * n + 2))).1), (0, .ref b), (1, .ref x), (2, .ref y), (3, .ref ou), (4, .int (nI (6 * n)))]) (st2 := [.int ((nI (6 * n)) + 1), .ref b, .ref y]) rfl ?_
  rw [show nI (6 * n) + 1 = nI (6 * n + 1) from nI_a (6 * n) 1]
  refine wk_tld C hZ (nI_in (c := 6 * n + 1) (by omega) (by omega)) (show Value.int (xs (nI (6 * n + 1)).toNatClampNeg) = .int (xs (6 * n + 1)) by rw [nI_clamp (by omega)]) d_law_577 ?_
  refine wk_run C k_law_578 (pc2 := 583) (lv2 := [(5, .int (sp_mode V (xs (6 * n + 1)) (xs (6 * n + 2))).1), (0, .ref b), (1, .ref x), (2, .ref y), (3, .ref ou), (4, .int (nI (6 * n)))]) (st2 := [.int ((nI (6 * n)) + 2), .ref b, .int (xs (6 * n + 1)), .ref y]) rfl ?_
  rw [show nI (6 * n) + 2 = nI (6 * n + 2) from nI_a (6 * n) 2]
  refine wk_tld C hZ (nI_in (c := 6 * n + 2) (by omega) (by omega)) (show Value.int (xs (nI (6 * n + 2)).toNatClampNeg) = .int (xs (6 * n + 2)) by rw [nI_clamp (by omega)]) d_law_583 ?_
  refine wk_callV (cl := ("ProfileRightsModel", T_MD, 27)) (rest := []) C (m_mode l D HB h2 h2 y A V (xs (6 * n + 1)) (xs (6 * n + 2)) IW ic.1) cs_LW_102 kc_MD_mode ki_MD ic.1.ob rfl rfl rfl (Nat.le_of_ble_eq_true rfl) (Nat.le_of_ble_eq_true rfl) (Nat.le_of_ble_eq_true rfl) hc hs d_law_584 (fun v2 h3 hq2 => ?_) (fun E h9 hq9 => by obtain ⟨_, _, _, _, z, _⟩ := hq9; cases z)
  obtain ⟨cd, r, V2, es, e1, hM2⟩ := hq2; cases e1
  show Wk _ _ _ _ _ _ _ _ _ _ _ _ _ _ _ _ _ _ _ (.int r :: _)
  have hW2 : wf V2 := by have z : wf (sp_mode V (xs (6 * n + 1)) (xs (6 * n + 2))).2.2 := wf_mode IW; rw [es] at z; exact z
  have hR2 : ok_ (V2 25 0) (n + 1) := by have z := r25_mode (V := V) (xs (6 * n + 1)) (xs (6 * n + 2)) (by omega) IR; rw [es] at z; exact z
  have he : ∀ j, j ≠ 0 → j ≠ 26 → V2 j = (sp_mode V (xs (6 * n + 1)) (xs (6 * n + 2))).2.2 j := fun j _ h26 => by rw [es]
  have ecd : V2 0 0 = (sp_mode V (xs (6 * n + 1)) (xs (6 * n + 2))).1 := by have z := cd_mode V (xs (6 * n + 1)) (xs (6 * n + 2)); rw [es] at z ⊢; exact z
  have er : (sp_mode V (xs (6 * n + 1)) (xs (6 * n + 2))).2.1 = r := by rw [es]
  refine wk_run C k_law_587 (pc2 := 590) (lv2 := [(6, .int r), (5, .int (sp_mode V (xs (6 * n + 1)) (xs (6 * n + 2))).1), (0, .ref b), (1, .ref x), (2, .ref y), (3, .ref ou), (4, .int (nI (6 * n)))]) (st2 := [.ref y]) rfl ?_
  refine wk_callV (cl := ("ProfileRightsModel", T_MD, 27)) (rest := []) C (c_MD_thrown l D HB h3 h2 y A V2 hM2) cs_LW_79 kc_MD_thrown ki_MD hM2.ob rfl rfl rfl (Nat.le_of_ble_eq_true rfl) (Nat.le_of_ble_eq_true rfl) (Nat.le_of_ble_eq_true rfl) hc hs d_law_590 (fun v3 h4 hq3 => ?_) (fun E h9 hq9 => by obtain ⟨_, _, _, _, z, _⟩ := hq9; cases z)
  obtain ⟨cd3, r3, V3, es3, e1, hM3⟩ := hq3; cases e1; cases es3
  show Wk _ _ _ _ _ _ _ _ _ _ _ _ _ _ _ _ _ _ _ (.int (V2 0 0) :: _)
  have iv2 := iv_m hcr hM3 ic.2.1 ic.2.2 (by rw [ho2]; exact Io) hou2 no hW2 hR2 he
  refine wk_run C k_law_593 (pc2 := 595) (lv2 := [(6, .int r), (5, .int (sp_mode V (xs (6 * n + 1)) (xs (6 * n + 2))).1), (0, .ref b), (1, .ref x), (2, .ref y), (3, .ref ou), (4, .int (nI (6 * n)))]) (st2 := [.int (sp_mode V (xs (6 * n + 1)) (xs (6 * n + 2))).1, .int (V2 0 0)]) rfl ?_
  refine wk_br C d_law_595 (P := (V2 0 0) = ((sp_mode V (xs (6 * n + 1)) (xs (6 * n + 2))).1)) (tgt := 600) (rest := []) rfl (by decide) (fun c1 => ?_) (fun c1 => ?_)
  ·
    refine wk_run C k_law_600 (pc2 := 602) (lv2 := [(6, .int r), (5, .int (sp_mode V (xs (6 * n + 1)) (xs (6 * n + 2))).1), (0, .ref b), (1, .ref x), (2, .ref y), (3, .ref ou), (4, .int (nI (6 * n)))]) (st2 := [.int (sp_mode V (xs (6 * n + 1)) (xs (6 * n + 2))).1]) rfl ?_
    refine wk_br C d_law_602 (P := ¬ ((sp_mode V (xs (6 * n + 1)) (xs (6 * n + 2))).1) = 0) (tgt := 617) (rest := []) rfl (by decide) (fun c2 => ?_) (fun c2 => ?_)
    ·
      refine wk_goto C d_law_617 (tgt := 1471) (by decide) ?_
      refine Wk.sub (lv2 := [(0, .ref b), (1, .ref x), (2, .ref y), (3, .ref ou), (4, .int (nI (6 * n)))]) [2, 3, 4, 5, 6] rfl ?_
      exact K _ own2 _ iv2.1
    ·
      have hf3 := hf2 (Classical.not_not.mp c2)
      refine wk_run C k_law_605 (pc2 := 607) (lv2 := [(6, .int r), (5, .int (sp_mode V (xs (6 * n + 1)) (xs (6 * n + 2))).1), (0, .ref b), (1, .ref x), (2, .ref y), (3, .ref ou), (4, .int (nI (6 * n)))]) (st2 := [.int 0, .ref ou]) rfl ?_
      refine wk_lald C iv2.2 (nI_in (c := 0) (by decide) (by decide)) d_law_607 ?_
      show Wk _ _ _ _ _ _ _ _ _ _ _ _ _ _ _ _ _ _ _ (.long (f2 0) :: _)
      rw [hf3, er]
      refine wk_run C k_law_608 (pc2 := 611) (lv2 := [(6, .int r), (5, .int (sp_mode V (xs (6 * n + 1)) (xs (6 * n + 2))).1), (0, .ref b), (1, .ref x), (2, .ref y), (3, .ref ou), (4, .int (nI (6 * n)))]) (st2 := [.long r.toInt64, .long r.toInt64]) rfl ?_
      refine wk_lcmp C d_law_611 ?_
      refine wk_br C d_law_612 (P := (lg_cmp r.toInt64 r.toInt64) = 0) (tgt := 617) (rest := []) rfl (by decide) (fun c4 => ?_) (fun c4 => ?_)
      ·
        refine wk_goto C d_law_617 (tgt := 1471) (by decide) ?_
        refine Wk.sub (lv2 := [(0, .ref b), (1, .ref x), (2, .ref y), (3, .ref ou), (4, .int (nI (6 * n)))]) [2, 3, 4, 5, 6] rfl ?_
        exact K _ own2 _ iv2.1
      ·
        exact absurd (lg_s _) c4
  ·
    exact absurd ecd c1
