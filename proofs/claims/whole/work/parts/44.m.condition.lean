theorem k_law_916 : px_dec code [.aload_n 1, .aload_n 0, .iload 4, .iconst 1, .iadd] 916 = true := by decide +kernel
theorem d_law_922 : decode code 922 = .ok (.iaload, 1) := by decide +kernel
theorem k_law_923 : px_dec code [.aload_n 0, .iload 4, .iconst 2, .iadd] 923 = true := by decide +kernel
theorem d_law_928 : decode code 928 = .ok (.iaload, 1) := by decide +kernel
theorem k_law_929 : px_dec code [.aload_n 0, .iload 4, .iconst 3, .iadd] 929 = true := by decide +kernel
theorem d_law_934 : decode code 934 = .ok (.iaload, 1) := by decide +kernel
theorem k_law_935 : px_dec code [.aload_n 0, .iload 4, .iconst 4, .iadd] 935 = true := by decide +kernel
theorem d_law_940 : decode code 940 = .ok (.iaload, 1) := by decide +kernel
theorem k_law_941 : px_dec code [.aload_n 3] 941 = true := by decide +kernel
theorem d_law_942 : decode code 942 = .ok (.invokestatic 116, 3) := by decide +kernel
theorem k_law_945 : px_dec code [.istore 5, .aload_n 2, .aload_n 0, .iload 4, .iconst 1, .iadd] 945 = true := by decide +kernel
theorem d_law_953 : decode code 953 = .ok (.iaload, 1) := by decide +kernel
theorem k_law_954 : px_dec code [.aload_n 0, .iload 4, .iconst 2, .iadd] 954 = true := by decide +kernel
theorem d_law_959 : decode code 959 = .ok (.iaload, 1) := by decide +kernel
theorem k_law_960 : px_dec code [.aload_n 0, .iload 4, .iconst 3, .iadd] 960 = true := by decide +kernel
theorem d_law_965 : decode code 965 = .ok (.iaload, 1) := by decide +kernel
theorem k_law_966 : px_dec code [.aload_n 0, .iload 4, .iconst 4, .iadd] 966 = true := by decide +kernel
theorem d_law_971 : decode code 971 = .ok (.iaload, 1) := by decide +kernel
theorem d_law_972 : decode code 972 = .ok (.invokevirtual 119, 3) := by decide +kernel
theorem k_law_975 : px_dec code [.istore 6, .aload_n 2] 975 = true := by decide +kernel
theorem d_law_978 : decode code 978 = .ok (.invokevirtual 79, 3) := by decide +kernel
theorem k_law_981 : px_dec code [.iload 5] 981 = true := by decide +kernel
theorem d_law_983 : decode code 983 = .ok (.if_icmp .eq 5, 3) := by decide +kernel
theorem k_law_988 : px_dec code [.iload 5] 988 = true := by decide +kernel
theorem d_law_990 : decode code 990 = .ok (.ifCond .ne 15, 3) := by decide +kernel
theorem d_law_1005 : decode code 1005 = .ok (.goto 466, 3) := by decide +kernel
theorem k_law_993 : px_dec code [.aload_n 3, .iconst 0] 993 = true := by decide +kernel
theorem d_law_995 : decode code 995 = .ok (.laload, 1) := by decide +kernel
theorem k_law_996 : px_dec code [.iload 6, .i2l] 996 = true := by decide +kernel
theorem d_law_999 : decode code 999 = .ok (.lcmp, 1) := by decide +kernel
theorem d_law_1000 : decode code 1000 = .ok (.ifCond .eq 5, 3) := by decide +kernel
set_option maxRecDepth 100000 in
set_option maxHeartbeats 4000000 in
theorem lw_condition {p : Program} {l : Launch} {e : Env} {s : State} {m : MethodId} {args : Array Value} {below : List Frame} {meth : Method} {c : Code} {Q : State → Prop} {D : va_G} {HB : Heap} {hh : List (Nat × Nat × Nat × Nat)} (C : wk_C p s m args meth c code "ProfileRightsLaw" 7 ret hh D HB) (hlt : l.stackTraces = false) {b L : Nat} {xs : Nat → Int32} (hZ : va_T .int b L (fun j => .int (xs j)) (hp_A HB) s HB) {x y ou : Nat} {A : Nat → Nat} {n cells slots : Nat} {V : vT} {own : oT} {h : hp_T} (hn : n < 512) (hL : L ≤ 3072) (h6 : 6 * n + 6 ≤ L) (hc : cells + 8 ≤ 601024) (hs : slots + 200 ≤ 7293034) (I : iv D x y ou A n V own h) (K : ∀ (V2 : vT) (own2 : oT) (h2 : hp_T), iv D x y ou A (n + 1) V2 own2 h2 → Wk p l e room_1 s m args below meth c 7 D HB Q h2 (cells + 8) (slots + 200) 1471 [(0, .ref b), (1, .ref x), (2, .ref y), (3, .ref ou), (4, .int (nI (6 * n)))] []) : Wk p l e room_1 s m args below meth c 7 D HB Q h cells slots 916 [(0, .ref b), (1, .ref x), (2, .ref y), (3, .ref ou), (4, .int (nI (6 * n)))] [] := by
  obtain ⟨IM, IC, IW, IR, Iy, IA, Io, f, hou⟩ := id I
  have no := mq_ou IM hou
  obtain ⟨gl, ul, pl, mo, aq, tr, hx0⟩ := cr_x IC
  refine wk_run C k_law_916 (pc2 := 922) (lv2 := [(0, .ref b), (1, .ref x), (2, .ref y), (3, .ref ou), (4, .int (nI (6 * n)))]) (st2 := [.int ((nI (6 * n)) + 1), .ref b, .ref x]) rfl ?_
  rw [show nI (6 * n) + 1 = nI (6 * n + 1) from nI_a (6 * n) 1]
  refine wk_tld C hZ (nI_in (c := 6 * n + 1) (by omega) (by omega)) (show Value.int (xs (nI (6 * n + 1)).toNatClampNeg) = .int (xs (6 * n + 1)) by rw [nI_clamp (by omega)]) d_law_922 ?_
  refine wk_run C k_law_923 (pc2 := 928) (lv2 := [(0, .ref b), (1, .ref x), (2, .ref y), (3, .ref ou), (4, .int (nI (6 * n)))]) (st2 := [.int ((nI (6 * n)) + 2), .ref b, .int (xs (6 * n + 1)), .ref x]) rfl ?_
  rw [show nI (6 * n) + 2 = nI (6 * n + 2) from nI_a (6 * n) 2]
  refine wk_tld C hZ (nI_in (c := 6 * n + 2) (by omega) (by omega)) (show Value.int (xs (nI (6 * n + 2)).toNatClampNeg) = .int (xs (6 * n + 2)) by rw [nI_clamp (by omega)]) d_law_928 ?_
  refine wk_run C k_law_929 (pc2 := 934) (lv2 := [(0, .ref b), (1, .ref x), (2, .ref y), (3, .ref ou), (4, .int (nI (6 * n)))]) (st2 := [.int ((nI (6 * n)) + 3), .ref b, .int (xs (6 * n + 2)), .int (xs (6 * n + 1)), .ref x]) rfl ?_
  rw [show nI (6 * n) + 3 = nI (6 * n + 3) from nI_a (6 * n) 3]
  refine wk_tld C hZ (nI_in (c := 6 * n + 3) (by omega) (by omega)) (show Value.int (xs (nI (6 * n + 3)).toNatClampNeg) = .int (xs (6 * n + 3)) by rw [nI_clamp (by omega)]) d_law_934 ?_
  refine wk_run C k_law_935 (pc2 := 940) (lv2 := [(0, .ref b), (1, .ref x), (2, .ref y), (3, .ref ou), (4, .int (nI (6 * n)))]) (st2 := [.int ((nI (6 * n)) + 4), .ref b, .int (xs (6 * n + 3)), .int (xs (6 * n + 2)), .int (xs (6 * n + 1)), .ref x]) rfl ?_
  rw [show nI (6 * n) + 4 = nI (6 * n + 4) from nI_a (6 * n) 4]
  refine wk_tld C hZ (nI_in (c := 6 * n + 4) (by omega) (by omega)) (show Value.int (xs (nI (6 * n + 4)).toNatClampNeg) = .int (xs (6 * n + 4)) by rw [nI_clamp (by omega)]) d_law_940 ?_
  refine wk_run C k_law_941 (pc2 := 942) (lv2 := [(0, .ref b), (1, .ref x), (2, .ref y), (3, .ref ou), (4, .int (nI (6 * n)))]) (st2 := [.ref ou, .int (xs (6 * n + 4)), .int (xs (6 * n + 3)), .int (xs (6 * n + 2)), .int (xs (6 * n + 1)), .ref x]) rfl ?_
  refine wk_callSW (rest := []) C (c_LW_condition l D HB h hlt own V x ou (xs (6 * n + 1)) (xs (6 * n + 2)) (xs (6 * n + 3)) (xs (6 * n + 4)) f IC IW hou Io) cs_LW_116 kc_LW_condition ki_LW rfl rfl (Nat.le_of_ble_eq_true rfl) (Nat.le_of_ble_eq_true rfl) (Nat.le_of_ble_eq_true rfl) hc hs d_law_942 (fun v h2 hq => ?_) (fun E h2 hq => by obtain ⟨_, _, z, _⟩ := hq; cases z)
  obtain ⟨own2, f2, e1, hcr, hso, ho2, hou2, hf2⟩ := hq; cases e1
  show Wk _ _ _ _ _ _ _ _ _ _ _ _ _ _ _ _ _ _ _ (.int (sp_condition V (xs (6 * n + 1)) (xs (6 * n + 2)) (xs (6 * n + 3)) (xs (6 * n + 4))).1 :: _)
  have ic := iv_c I hso
  refine wk_run C k_law_945 (pc2 := 953) (lv2 := [(5, .int (sp_condition V (xs (6 * n + 1)) (xs (6 * n + 2)) (xs (6 * n + 3)) (xs (6 * n + 4))).1), (0, .ref b), (1, .ref x), (2, .ref y), (3, .ref ou), (4, .int (nI (6 * n)))]) (st2 := [.int ((nI (6 * n)) + 1), .ref b, .ref y]) rfl ?_
  rw [show nI (6 * n) + 1 = nI (6 * n + 1) from nI_a (6 * n) 1]
  refine wk_tld C hZ (nI_in (c := 6 * n + 1) (by omega) (by omega)) (show Value.int (xs (nI (6 * n + 1)).toNatClampNeg) = .int (xs (6 * n + 1)) by rw [nI_clamp (by omega)]) d_law_953 ?_
  refine wk_run C k_law_954 (pc2 := 959) (lv2 := [(5, .int (sp_condition V (xs (6 * n + 1)) (xs (6 * n + 2)) (xs (6 * n + 3)) (xs (6 * n + 4))).1), (0, .ref b), (1, .ref x), (2, .ref y), (3, .ref ou), (4, .int (nI (6 * n)))]) (st2 := [.int ((nI (6 * n)) + 2), .ref b, .int (xs (6 * n + 1)), .ref y]) rfl ?_
  rw [show nI (6 * n) + 2 = nI (6 * n + 2) from nI_a (6 * n) 2]
  refine wk_tld C hZ (nI_in (c := 6 * n + 2) (by omega) (by omega)) (show Value.int (xs (nI (6 * n + 2)).toNatClampNeg) = .int (xs (6 * n + 2)) by rw [nI_clamp (by omega)]) d_law_959 ?_
  refine wk_run C k_law_960 (pc2 := 965) (lv2 := [(5, .int (sp_condition V (xs (6 * n + 1)) (xs (6 * n + 2)) (xs (6 * n + 3)) (xs (6 * n + 4))).1), (0, .ref b), (1, .ref x), (2, .ref y), (3, .ref ou), (4, .int (nI (6 * n)))]) (st2 := [.int ((nI (6 * n)) + 3), .ref b, .int (xs (6 * n + 2)), .int (xs (6 * n + 1)), .ref y]) rfl ?_
  rw [show nI (6 * n) + 3 = nI (6 * n + 3) from nI_a (6 * n) 3]
  refine wk_tld C hZ (nI_in (c := 6 * n + 3) (by omega) (by omega)) (show Value.int (xs (nI (6 * n + 3)).toNatClampNeg) = .int (xs (6 * n + 3)) by rw [nI_clamp (by omega)]) d_law_965 ?_
  refine wk_run C k_law_966 (pc2 := 971) (lv2 := [(5, .int (sp_condition V (xs (6 * n + 1)) (xs (6 * n + 2)) (xs (6 * n + 3)) (xs (6 * n + 4))).1), (0, .ref b), (1, .ref x), (2, .ref y), (3, .ref ou), (4, .int (nI (6 * n)))]) (st2 := [.int ((nI (6 * n)) + 4), .ref b, .int (xs (6 * n + 3)), .int (xs (6 * n + 2)), .int (xs (6 * n + 1)), .ref y]) rfl ?_
  rw [show nI (6 * n) + 4 = nI (6 * n + 4) from nI_a (6 * n) 4]
  refine wk_tld C hZ (nI_in (c := 6 * n + 4) (by omega) (by omega)) (show Value.int (xs (nI (6 * n + 4)).toNatClampNeg) = .int (xs (6 * n + 4)) by rw [nI_clamp (by omega)]) d_law_971 ?_
  refine wk_callV (cl := ("ProfileRightsModel", T_MD, 27)) (rest := []) C (m_condition l D HB h2 h2 y A V (xs (6 * n + 1)) (xs (6 * n + 2)) (xs (6 * n + 3)) (xs (6 * n + 4)) IW ic.1) cs_LW_119 kc_MD_condition ki_MD ic.1.ob rfl rfl rfl (Nat.le_of_ble_eq_true rfl) (Nat.le_of_ble_eq_true rfl) (Nat.le_of_ble_eq_true rfl) hc hs d_law_972 (fun v2 h3 hq2 => ?_) (fun E h9 hq9 => by obtain ⟨_, _, _, _, z, _⟩ := hq9; cases z)
  obtain ⟨cd, r, V2, es, e1, hM2⟩ := hq2; cases e1
  show Wk _ _ _ _ _ _ _ _ _ _ _ _ _ _ _ _ _ _ _ (.int r :: _)
  have hW2 : wf V2 := by have z : wf (sp_condition V (xs (6 * n + 1)) (xs (6 * n + 2)) (xs (6 * n + 3)) (xs (6 * n + 4))).2.2 := wf_condition IW; rw [es] at z; exact z
  have hR2 : ok_ (V2 25 0) (n + 1) := by have z := r25_condition (V := V) (xs (6 * n + 1)) (xs (6 * n + 2)) (xs (6 * n + 3)) (xs (6 * n + 4)) (by omega) IR; rw [es] at z; exact z
  have he : ∀ j, j ≠ 0 → j ≠ 26 → V2 j = (sp_condition V (xs (6 * n + 1)) (xs (6 * n + 2)) (xs (6 * n + 3)) (xs (6 * n + 4))).2.2 j := fun j _ h26 => by rw [es]
  have ecd : V2 0 0 = (sp_condition V (xs (6 * n + 1)) (xs (6 * n + 2)) (xs (6 * n + 3)) (xs (6 * n + 4))).1 := by have z := cd_condition V (xs (6 * n + 1)) (xs (6 * n + 2)) (xs (6 * n + 3)) (xs (6 * n + 4)); rw [es] at z ⊢; exact z
  have er : (sp_condition V (xs (6 * n + 1)) (xs (6 * n + 2)) (xs (6 * n + 3)) (xs (6 * n + 4))).2.1 = r := by rw [es]
  refine wk_run C k_law_975 (pc2 := 978) (lv2 := [(6, .int r), (5, .int (sp_condition V (xs (6 * n + 1)) (xs (6 * n + 2)) (xs (6 * n + 3)) (xs (6 * n + 4))).1), (0, .ref b), (1, .ref x), (2, .ref y), (3, .ref ou), (4, .int (nI (6 * n)))]) (st2 := [.ref y]) rfl ?_
  refine wk_callV (cl := ("ProfileRightsModel", T_MD, 27)) (rest := []) C (c_MD_thrown l D HB h3 h2 y A V2 hM2) cs_LW_79 kc_MD_thrown ki_MD hM2.ob rfl rfl rfl (Nat.le_of_ble_eq_true rfl) (Nat.le_of_ble_eq_true rfl) (Nat.le_of_ble_eq_true rfl) hc hs d_law_978 (fun v3 h4 hq3 => ?_) (fun E h9 hq9 => by obtain ⟨_, _, _, _, z, _⟩ := hq9; cases z)
  obtain ⟨cd3, r3, V3, es3, e1, hM3⟩ := hq3; cases e1; cases es3
  show Wk _ _ _ _ _ _ _ _ _ _ _ _ _ _ _ _ _ _ _ (.int (V2 0 0) :: _)
  have iv2 := iv_m hcr hM3 ic.2.1 ic.2.2 (by rw [ho2]; exact Io) hou2 no hW2 hR2 he
  refine wk_run C k_law_981 (pc2 := 983) (lv2 := [(6, .int r), (5, .int (sp_condition V (xs (6 * n + 1)) (xs (6 * n + 2)) (xs (6 * n + 3)) (xs (6 * n + 4))).1), (0, .ref b), (1, .ref x), (2, .ref y), (3, .ref ou), (4, .int (nI (6 * n)))]) (st2 := [.int (sp_condition V (xs (6 * n + 1)) (xs (6 * n + 2)) (xs (6 * n + 3)) (xs (6 * n + 4))).1, .int (V2 0 0)]) rfl ?_
  refine wk_br C d_law_983 (P := (V2 0 0) = ((sp_condition V (xs (6 * n + 1)) (xs (6 * n + 2)) (xs (6 * n + 3)) (xs (6 * n + 4))).1)) (tgt := 988) (rest := []) rfl (by decide) (fun c1 => ?_) (fun c1 => ?_)
  ·
    refine wk_run C k_law_988 (pc2 := 990) (lv2 := [(6, .int r), (5, .int (sp_condition V (xs (6 * n + 1)) (xs (6 * n + 2)) (xs (6 * n + 3)) (xs (6 * n + 4))).1), (0, .ref b), (1, .ref x), (2, .ref y), (3, .ref ou), (4, .int (nI (6 * n)))]) (st2 := [.int (sp_condition V (xs (6 * n + 1)) (xs (6 * n + 2)) (xs (6 * n + 3)) (xs (6 * n + 4))).1]) rfl ?_
    refine wk_br C d_law_990 (P := ¬ ((sp_condition V (xs (6 * n + 1)) (xs (6 * n + 2)) (xs (6 * n + 3)) (xs (6 * n + 4))).1) = 0) (tgt := 1005) (rest := []) rfl (by decide) (fun c2 => ?_) (fun c2 => ?_)
    ·
      refine wk_goto C d_law_1005 (tgt := 1471) (by decide) ?_
      refine Wk.sub (lv2 := [(0, .ref b), (1, .ref x), (2, .ref y), (3, .ref ou), (4, .int (nI (6 * n)))]) [2, 3, 4, 5, 6] rfl ?_
      exact K _ own2 _ iv2.1
    ·
      have hf3 := hf2 (Classical.not_not.mp c2)
      refine wk_run C k_law_993 (pc2 := 995) (lv2 := [(6, .int r), (5, .int (sp_condition V (xs (6 * n + 1)) (xs (6 * n + 2)) (xs (6 * n + 3)) (xs (6 * n + 4))).1), (0, .ref b), (1, .ref x), (2, .ref y), (3, .ref ou), (4, .int (nI (6 * n)))]) (st2 := [.int 0, .ref ou]) rfl ?_
      refine wk_lald C iv2.2 (nI_in (c := 0) (by decide) (by decide)) d_law_995 ?_
      show Wk _ _ _ _ _ _ _ _ _ _ _ _ _ _ _ _ _ _ _ (.long (f2 0) :: _)
      rw [hf3, er]
      refine wk_run C k_law_996 (pc2 := 999) (lv2 := [(6, .int r), (5, .int (sp_condition V (xs (6 * n + 1)) (xs (6 * n + 2)) (xs (6 * n + 3)) (xs (6 * n + 4))).1), (0, .ref b), (1, .ref x), (2, .ref y), (3, .ref ou), (4, .int (nI (6 * n)))]) (st2 := [.long r.toInt64, .long r.toInt64]) rfl ?_
      refine wk_lcmp C d_law_999 ?_
      refine wk_br C d_law_1000 (P := (lg_cmp r.toInt64 r.toInt64) = 0) (tgt := 1005) (rest := []) rfl (by decide) (fun c4 => ?_) (fun c4 => ?_)
      ·
        refine wk_goto C d_law_1005 (tgt := 1471) (by decide) ?_
        refine Wk.sub (lv2 := [(0, .ref b), (1, .ref x), (2, .ref y), (3, .ref ou), (4, .int (nI (6 * n)))]) [2, 3, 4, 5, 6] rfl ?_
        exact K _ own2 _ iv2.1
      ·
        exact absurd (lg_s _) c4
  ·
    exact absurd ecd c1
