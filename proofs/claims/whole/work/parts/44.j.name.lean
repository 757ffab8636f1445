theorem k_law_688 : px_dec code [.aload_n 1, .aload_n 0, .iload 4, .iconst 1, .iadd] 688 = true := by decide +kernel
theorem d_law_694 : decode code 694 = .ok (.iaload, 1) := by decide +kernel
theorem k_law_695 : px_dec code [.aload_n 0, .iload 4, .iconst 2, .iadd] 695 = true := by decide +kernel
theorem d_law_700 : decode code 700 = .ok (.iaload, 1) := by decide +kernel
theorem k_law_701 : px_dec code [.aload_n 3] 701 = true := by decide +kernel
theorem d_law_702 : decode code 702 = .ok (.invokestatic 106, 3) := by decide +kernel
theorem k_law_705 : px_dec code [.istore 5, .aload_n 2, .aload_n 0, .iload 4, .iconst 1, .iadd] 705 = true := by decide +kernel
theorem d_law_713 : decode code 713 = .ok (.iaload, 1) := by decide +kernel
theorem k_law_714 : px_dec code [.aload_n 0, .iload 4, .iconst 2, .iadd] 714 = true := by decide +kernel
theorem d_law_719 : decode code 719 = .ok (.iaload, 1) := by decide +kernel
theorem d_law_720 : decode code 720 = .ok (.invokevirtual 108, 3) := by decide +kernel
theorem k_law_723 : px_dec code [.istore 6, .aload_n 2] 723 = true := by decide +kernel
theorem d_law_726 : decode code 726 = .ok (.invokevirtual 79, 3) := by decide +kernel
theorem k_law_729 : px_dec code [.iload 5] 729 = true := by decide +kernel
theorem d_law_731 : decode code 731 = .ok (.if_icmp .eq 5, 3) := by decide +kernel
theorem k_law_736 : px_dec code [.iload 5] 736 = true := by decide +kernel
theorem d_law_738 : decode code 738 = .ok (.ifCond .ne 15, 3) := by decide +kernel
theorem d_law_753 : decode code 753 = .ok (.goto 718, 3) := by decide +kernel
theorem k_law_741 : px_dec code [.aload_n 3, .iconst 0] 741 = true := by decide +kernel
theorem d_law_743 : decode code 743 = .ok (.laload, 1) := by decide +kernel
theorem k_law_744 : px_dec code [.iload 6, .i2l] 744 = true := by decide +kernel
theorem d_law_747 : decode code 747 = .ok (.lcmp, 1) := by decide +kernel
theorem d_law_748 : decode code 748 = .ok (.ifCond .eq 5, 3) := by decide +kernel
set_option maxRecDepth 100000 in
set_option maxHeartbeats 4000000 in
theorem lw_name {p : Program} {l : Launch} {e : Env} {s : State} {m : MethodId} {args : Array Value} {below : List Frame} {meth : Method} {c : Code} {Q : State → Prop} {D : va_G} {HB : Heap} {hh : List (Nat × Nat × Nat × Nat)} (C : wk_C p s m args meth c code "ProfileRightsLaw" 7 ret hh D HB) (hlt : l.stackTraces = false) {b L : Nat} {xs : Nat → Int32} (hZ : va_T .int b L (fun j => .int (xs j)) (hp_A HB) s HB) {x y ou : Nat} {A : Nat → Nat} {n cells slots : Nat} {V : vT} {own : oT} {h : hp_T} (hn : n < 512) (hL : L ≤ 3072) (h6 : 6 * n + 6 ≤ L) (hc : cells + 8 ≤ 601024) (hs : slots + 200 ≤ 7293034) (I : iv D x y ou A n V own h) (K : ∀ (V2 : vT) (own2 : oT) (h2 : hp_T), iv D x y ou A (n + 1) V2 own2 h2 → Wk p l e room_1 s m args below meth c 7 D HB Q h2 (cells + 8) (slots + 200) 1471 [(0, .ref b), (1, .ref x), (2, .ref y), (3, .ref ou), (4, .int (nI (6 * n)))] []) : Wk p l e room_1 s m args below meth c 7 D HB Q h cells slots 688 [(0, .ref b), (1, .ref x), (2, .ref y), (3, .ref ou), (4, .int (nI (6 * n)))] [] := by
  obtain ⟨IM, IC, IW, IR, Iy, IA, Io, f, hou⟩ := id I
  have no := mq_ou IM hou
  obtain ⟨gl, ul, pl, mo, aq, tr, hx0⟩ := cr_x IC
  refine wk_run C k_law_688 (pc2 := 694) (lv2 := [(0, .ref b), (1, .ref x), (2, .ref y), (3, .ref ou), (4, .int (nI (6 * n)))]) (st2 := [.int ((nI (6 * n)) + 1), .ref b, .ref x]) rfl ?_
  rw [show nI (6 * n) + 1 = nI (6 * n + 1) from nI_a (6 * n) 1]
  refine wk_tld C hZ (nI_in (c := 6 * n + 1) (by omega) (by omega)) (show Value.int (xs (nI (6 * n + 1)).toNatClampNeg) = .int (xs (6 * n + 1)) by rw [nI_clamp (by omega)]) d_law_694 ?_
  refine wk_run C k_law_695 (pc2 := 700) (lv2 := [(0, .ref b), (1, .ref x), (2, .ref y), (3, .ref ou), (4, .int (nI (6 * n)))]) (st2 := [.int ((nI (6 * n)) + 2), .ref b, .int (xs (6 * n + 1)), .ref x]) rfl ?_
  rw [show nI (6 * n) + 2 = nI (6 * n + 2) from nI_a (6 * n) 2]
  refine wk_tld C hZ (nI_in (c := 6 * n + 2) (by omega) (by omega)) (show Value.int (xs (nI (6 * n + 2)).toNatClampNeg) = .int (xs (6 * n + 2)) by rw [nI_clamp (by omega)]) d_law_700 ?_
  refine wk_run C k_law_701 (pc2 := 702) (lv2 := [(0, .ref b), (1, .ref x), (2, .ref y), (3, .ref ou), (4, .int (nI (6 * n)))]) (st2 := [.ref ou, .int (xs (6 * n + 2)), .int (xs (6 * n + 1)), .ref x]) rfl ?_
  refine wk_callSW (rest := []) C (c_LW_name l D HB h hlt own V x ou (xs (6 * n + 1)) (xs (6 * n + 2)) f IC IW hou Io) cs_LW_106 kc_LW_name ki_LW rfl rfl (Nat.le_of_ble_eq_true rfl) (Nat.le_of_ble_eq_true rfl) (Nat.le_of_ble_eq_true rfl) hc hs d_law_702 (fun v h2 hq => ?_) (fun E h2 hq => by obtain ⟨_, _, z, _⟩ := hq; cases z)
  obtain ⟨own2, f2, e1, hcr, hso, ho2, hou2, hf2⟩ := hq; cases e1
  show Wk _ _ _ _ _ _ _ _ _ _ _ _ _ _ _ _ _ _ _ (.int (sp_name V (xs (6 * n + 1)) (xs (6 * n + 2))).1 :: _)
  have ic := iv_c I hso
  refine wk_run C k_law_705 (pc2 := 713) (lv2 := [(5, .int (sp_name V (xs (6 * n + 1)) (xs (6 * n + 2))).1), (0, .ref b), (1, .ref x), (2, .ref y), (3, .ref ou), (4, .int (nI (6 * n)))]) (st2 := [.int ((nI (6 * n)) + 1), .ref b, .ref y]) rfl ?_
  rw [show nI (6 * n) + 1 = nI (6 * n + 1) from nI_a (6 * n) 1]
  refine wk_tld C hZ (nI_in (c := 6 * n + 1) (by omega) (by omega)) (show Value.int (xs (nI (6 * n + 1)).toNatClampNeg) = .int (xs (6 * n + 1)) by rw [nI_clamp (by omega)]) d_law_713 ?_
  refine wk_run C k_law_714 (pc2 := 719) (lv2 := [(5, .int (sp_name V (xs (6 * n + 1)) (xs (6 * n + 2))).1), (0, .ref b), (1, .ref x), (2, .ref y), (3, .ref ou), (4, .int (nI (6 * n)))]) (st2 := [.int ((nI (6 * n)) + 2), .ref b, .int (xs (6 * n + 1)), .ref y]) rfl ?_
  rw [show nI (6 * n) + 2 = nI (6 * n + 2) from nI_a (6 * n) 2]
  refine wk_tld C hZ (nI_in (c := 6 * n + 2) (by omega) (by omega)) (show Value.int (xs (nI (6 * n + 2)).toNatClampNeg) = .int (xs (6 * n + 2)) by rw [nI_clamp (by omega)]) d_law_719 ?_
  refine wk_callV (cl := ("ProfileRightsModel", T_MD, 27)) (rest := []) C (m_name l D HB h2 h2 y A V (xs (6 * n + 1)) (xs (6 * n + 2)) IW ic.1) cs_LW_108 kc_MD_name ki_MD ic.1.ob rfl rfl rfl (Nat.le_of_ble_eq_true rfl) (Nat.le_of_ble_eq_true rfl) (Nat.le_of_ble_eq_true rfl) hc hs d_law_720 (fun v2 h3 hq2 => ?_) (fun E h9 hq9 => by obtain ⟨_, _, _, _, z, _⟩ := hq9; cases z)
  obtain ⟨cd, r, V2, es, e1, hM2⟩ := hq2; cases e1
  show Wk _ _ _ _ _ _ _ _ _ _ _ _ _ _ _ _ _ _ _ (.int r :: _)
  have hW2 : wf V2 := by have z : wf (sp_name V (xs (6 * n + 1)) (xs (6 * n + 2))).2.2 := wf_name IW; rw [es] at z; exact z
  have hR2 : ok_ (V2 25 0) (n + 1) := by have z := r25_name (V := V) (xs (6 * n + 1)) (xs (6 * n + 2)) (by omega) IR; rw [es] at z; exact z
  have he : ∀ j, j ≠ 0 → j ≠ 26 → V2 j = (sp_name V (xs (6 * n + 1)) (xs (6 * n + 2))).2.2 j := fun j _ h26 => by rw [es]
  have ecd : V2 0 0 = (sp_name V (xs (6 * n + 1)) (xs (6 * n + 2))).1 := by have z := cd_name V (xs (6 * n + 1)) (xs (6 * n + 2)); rw [es] at z ⊢; exact z
  have er : (sp_name V (xs (6 * n + 1)) (xs (6 * n + 2))).2.1 = r := by rw [es]
  refine wk_run C k_law_723 (pc2 := 726) (lv2 := [(6, .int r), (5, .int (sp_name V (xs (6 * n + 1)) (xs (6 * n + 2))).1), (0, .ref b), (1, .ref x), (2, .ref y), (3, .ref ou), (4, .int (nI (6 * n)))]) (st2 := [.ref y]) rfl ?_
  refine wk_callV (cl := ("ProfileRightsModel", T_MD, 27)) (rest := []) C (c_MD_thrown l D HB h3 h2 y A V2 hM2) cs_LW_79 kc_MD_thrown ki_MD hM2.ob rfl rfl rfl (Nat.le_of_ble_eq_true rfl) (Nat.le_of_ble_eq_true rfl) (Nat.le_of_ble_eq_true rfl) hc hs d_law_726 (fun v3 h4 hq3 => ?_) (fun E h9 hq9 => by obtain ⟨_, _, _, _, z, _⟩ := hq9; cases z)
  obtain ⟨cd3, r3, V3, es3, e1, hM3⟩ := hq3; cases e1; cases es3
  show Wk _ _ _ _ _ _ _ _ _ _ _ _ _ _ _ _ _ _ _ (.int (V2 0 0) :: _)
  have iv2 := iv_m hcr hM3 ic.2.1 ic.2.2 (by rw [ho2]; exact Io) hou2 no hW2 hR2 he
  refine wk_run C k_law_729 (pc2 := 731) (lv2 := [(6, .int r), (5, .int (sp_name V (xs (6 * n + 1)) (xs (6 * n + 2))).1), (0, .ref b), (1, .ref x), (2, .ref y), (3, .ref ou), (4, .int (nI (6 * n)))]) (st2 := [.int (sp_name V (xs (6 * n + 1)) (xs (6 * n + 2))).1, .int (V2 0 0)]) rfl ?_
  refine wk_br C d_law_731 (P := (V2 0 0) = ((sp_name V (xs (6 * n + 1)) (xs (6 * n + 2))).1)) (tgt := 736) (rest := []) rfl (by decide) (fun c1 => ?_) (fun c1 => ?_)
  ·
    refine wk_run C k_law_736 (pc2 := 738) (lv2 := [(6, .int r), (5, .int (sp_name V (xs (6 * n + 1)) (xs (6 * n + 2))).1), (0, .ref b), (1, .ref x), (2, .ref y), (3, .ref ou), (4, .int (nI (6 * n)))]) (st2 := [.int (sp_name V (xs (6 * n + 1)) (xs (6 * n + 2))).1]) rfl ?_
    refine wk_br C d_law_738 (P := ¬ ((sp_name V (xs (6 * n + 1)) (xs (6 * n + 2))).1) = 0) (tgt := 753) (rest := []) rfl (by decide) (fun c2 => ?_) (fun c2 => ?_)
    ·
      refine wk_goto C d_law_753 (tgt := 1471) (by decide) ?_
      refine Wk.sub (lv2 := [(0, .ref b), (1, .ref x), (2, .ref y), (3, .ref ou), (4, .int (nI (6 * n)))]) [2, 3, 4, 5, 6] rfl ?_
      exact K _ own2 _ iv2.1
    ·
      have hf3 := hf2 (Classical.not_not.mp c2)
      refine wk_run C k_law_741 (pc2 := 743) (lv2 := [(6, .int r), (5, .int (sp_name V (xs (6 * n + 1)) (xs (6 * n + 2))).1), (0, .ref b), (1, .ref x), (2, .ref y), (3, .ref ou), (4, .int (nI (6 * n)))]) (st2 := [.int 0, .ref ou]) rfl ?_
      refine wk_lald C iv2.2 (nI_in (c := 0) (by decide) (by decide)) d_law_743 ?_
      show Wk _ _ _ _ _ _ _ _ _ _ _ _ _ _ _ _ _ _ _ (.long (f2 0) :: _)
      rw [hf3, er]
      refine wk_run C k_law_744 (pc2 := 747) (lv2 := [(6, .int r), (5, .int (sp_name V (xs (6 * n + 1)) (xs (6 * n + 2))).1), (0, .ref b), (1, .ref x), (2, .ref y), (3, .ref ou), (4, .int (nI (6 * n)))]) (st2 := [.long r.toInt64, .long r.toInt64]) rfl ?_
      refine wk_lcmp C d_law_747 ?_
      refine wk_br C d_law_748 (P := (lg_cmp r.toInt64 r.toInt64) = 0) (tgt := 753) (rest := []) rfl (by decide) (fun c4 => ?_) (fun c4 => ?_)
      ·
        refine wk_goto C d_law_753 (tgt := 1471) (by decide) ?_
        refine Wk.sub (lv2 := [(0, .ref b), (1, .ref x), (2, .ref y), (3, .ref ou), (4, .int (nI (6 * n)))]) [2, 3, 4, 5, 6] rfl ?_
        exact K _ own2 _ iv2.1
      ·
        exact absurd (lg_s _) c4
  ·
    exact absurd ecd c1
