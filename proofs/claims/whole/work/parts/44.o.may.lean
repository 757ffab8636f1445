theorem k_law_1033 : px_dec code [.aload_n 1, .aload_n 0, .iload 4, .iconst 1, .iadd] 1033 = true := by decide +kernel
theorem d_law_1039 : decode code 1039 = .ok (.iaload, 1) := by decide +kernel
theorem k_law_1040 : px_dec code [.aload_n 0, .iload 4, .iconst 2, .iadd] 1040 = true := by decide +kernel
theorem d_law_1045 : decode code 1045 = .ok (.iaload, 1) := by decide +kernel
theorem k_law_1046 : px_dec code [.aload_n 0, .iload 4, .iconst 3, .iadd] 1046 = true := by decide +kernel
theorem d_law_1051 : decode code 1051 = .ok (.iaload, 1) := by decide +kernel
theorem k_law_1052 : px_dec code [.aload_n 0, .iload 4, .iconst 4, .iadd] 1052 = true := by decide +kernel
theorem d_law_1057 : decode code 1057 = .ok (.iaload, 1) := by decide +kernel
theorem k_law_1058 : px_dec code [.i2l, .bipush 32, .lshl, .aload_n 0, .iload 4, .iconst 5, .iadd] 1058 = true := by decide +kernel
theorem d_law_1067 : decode code 1067 = .ok (.iaload, 1) := by decide +kernel
theorem k_law_1068 : px_dec code [.i2l] 1068 = true := by decide +kernel
theorem d_law_1069 : decode code 1069 = .ok (.ldc2_w 124, 3) := by decide +kernel
theorem k_law_1072 : px_dec code [.land, .lor, .aload_n 3] 1072 = true := by decide +kernel
theorem d_law_1075 : decode code 1075 = .ok (.invokestatic 126, 3) := by decide +kernel
theorem k_law_1078 : px_dec code [.istore 5, .aload_n 2, .aload_n 0, .iload 4, .iconst 1, .iadd] 1078 = true := by decide +kernel
theorem d_law_1086 : decode code 1086 = .ok (.iaload, 1) := by decide +kernel
theorem k_law_1087 : px_dec code [.aload_n 0, .iload 4, .iconst 2, .iadd] 1087 = true := by decide +kernel
theorem d_law_1092 : decode code 1092 = .ok (.iaload, 1) := by decide +kernel
theorem k_law_1093 : px_dec code [.aload_n 0, .iload 4, .iconst 3, .iadd] 1093 = true := by decide +kernel
theorem d_law_1098 : decode code 1098 = .ok (.iaload, 1) := by decide +kernel
theorem k_law_1099 : px_dec code [.aload_n 0, .iload 4, .iconst 4, .iadd] 1099 = true := by decide +kernel
theorem d_law_1104 : decode code 1104 = .ok (.iaload, 1) := by decide +kernel
theorem k_law_1105 : px_dec code [.i2l, .bipush 32, .lshl, .aload_n 0, .iload 4, .iconst 5, .iadd] 1105 = true := by decide +kernel
theorem d_law_1114 : decode code 1114 = .ok (.iaload, 1) := by decide +kernel
theorem k_law_1115 : px_dec code [.i2l] 1115 = true := by decide +kernel
theorem d_law_1116 : decode code 1116 = .ok (.ldc2_w 124, 3) := by decide +kernel
theorem k_law_1119 : px_dec code [.land, .lor] 1119 = true := by decide +kernel
theorem d_law_1121 : decode code 1121 = .ok (.invokevirtual 129, 3) := by decide +kernel
theorem k_law_1124 : px_dec code [.istore 6, .aload_n 2] 1124 = true := by decide +kernel
theorem d_law_1127 : decode code 1127 = .ok (.invokevirtual 79, 3) := by decide +kernel
theorem k_law_1130 : px_dec code [.iload 5] 1130 = true := by decide +kernel
theorem d_law_1132 : decode code 1132 = .ok (.if_icmp .eq 5, 3) := by decide +kernel
theorem k_law_1137 : px_dec code [.iload 5] 1137 = true := by decide +kernel
theorem d_law_1139 : decode code 1139 = .ok (.ifCond .ne 15, 3) := by decide +kernel
theorem d_law_1154 : decode code 1154 = .ok (.goto 317, 3) := by decide +kernel
theorem k_law_1142 : px_dec code [.aload_n 3, .iconst 0] 1142 = true := by decide +kernel
theorem d_law_1144 : decode code 1144 = .ok (.laload, 1) := by decide +kernel
theorem k_law_1145 : px_dec code [.iload 6, .i2l] 1145 = true := by decide +kernel
theorem d_law_1148 : decode code 1148 = .ok (.lcmp, 1) := by decide +kernel
theorem d_law_1149 : decode code 1149 = .ok (.ifCond .eq 5, 3) := by decide +kernel
set_option maxRecDepth 100000 in
set_option maxHeartbeats 4000000 in
theorem lw_may {p : Program} {l : Launch} {e : Env} {s : State} {m : MethodId} {args : Array Value} {below : List Frame} {meth : Method} {c : Code} {Q : State → Prop} {D : va_G} {HB : Heap} {hh : List (Nat × Nat × Nat × Nat)} (C : wk_C p s m args meth c code "ProfileRightsLaw" 7 ret hh D HB) (hlt : l.stackTraces = false) {b L : Nat} {xs : Nat → Int32} (hZ : va_T .int b L (fun j => .int (xs j)) (hp_A HB) s HB) {x y ou : Nat} {A : Nat → Nat} {n cells slots : Nat} {V : vT} {own : oT} {h : hp_T} (hn : n < 512) (hL : L ≤ 3072) (h6 : 6 * n + 6 ≤ L) (hc : cells + 8 ≤ 601024) (hs : slots + 200 ≤ 7293034) (I : iv D x y ou A n V own h) (K : ∀ (V2 : vT) (own2 : oT) (h2 : hp_T), iv D x y ou A (n + 1) V2 own2 h2 → Wk p l e room_1 s m args below meth c 7 D HB Q h2 (cells + 8) (slots + 200) 1471 [(0, .ref b), (1, .ref x), (2, .ref y), (3, .ref ou), (4, .int (nI (6 * n)))] []) : Wk p l e room_1 s m args below meth c 7 D HB Q h cells slots 1033 [(0, .ref b), (1, .ref x), (2, .ref y), (3, .ref ou), (4, .int (nI (6 * n)))] [] := by
  obtain ⟨IM, IC, IW, IR, Iy, IA, Io, f, hou⟩ := id I
  have no := mq_ou IM hou
  obtain ⟨gl, ul, pl, mo, aq, tr, hx0⟩ := cr_x IC
  refine wk_run C k_law_1033 (pc2 := 1039) (lv2 := [(0, .ref b), (1, .ref x), (2, .ref y), (3, .ref ou), (4, .int (nI (6 * n)))]) (st2 := [.int ((nI (6 * n)) + 1), .ref b, .ref x]) rfl ?_
  rw [show nI (6 * n) + 1 = nI (6 * n + 1) from nI_a (6 * n) 1]
  refine wk_tld C hZ (nI_in (c := 6 * n + 1) (by omega) (by omega)) (show Value.int (xs (nI (6 * n + 1)).toNatClampNeg) = .int (xs (6 * n + 1)) by rw [nI_clamp (by omega)]) d_law_1039 ?_
  refine wk_run C k_law_1040 (pc2 := 1045) (lv2 := [(0, .ref b), (1, .ref x), (2, .ref y), (3, .ref ou), (4, .int (nI (6 * n)))]) (st2 := [.int ((nI (6 * n)) + 2), .ref b, .int (xs (6 * n + 1)), .ref x]) rfl ?_
  rw [show nI (6 * n) + 2 = nI (6 * n + 2) from nI_a (6 * n) 2]
  refine wk_tld C hZ (nI_in (c := 6 * n + 2) (by omega) (by omega)) (show Value.int (xs (nI (6 * n + 2)).toNatClampNeg) = .int (xs (6 * n + 2)) by rw [nI_clamp (by omega)]) d_law_1045 ?_
  refine wk_run C k_law_1046 (pc2 := 1051) (lv2 := [(0, .ref b), (1, .ref x), (2, .ref y), (3, .ref ou), (4, .int (nI (6 * n)))]) (st2 := [.int ((nI (6 * n)) + 3), .ref b, .int (xs (6 * n + 2)), .int (xs (6 * n + 1)), .ref x]) rfl ?_
  rw [show nI (6 * n) + 3 = nI (6 * n + 3) from nI_a (6 * n) 3]
  refine wk_tld C hZ (nI_in (c := 6 * n + 3) (by omega) (by omega)) (show Value.int (xs (nI (6 * n + 3)).toNatClampNeg) = .int (xs (6 * n + 3)) by rw [nI_clamp (by omega)]) d_law_1051 ?_
  refine wk_run C k_law_1052 (pc2 := 1057) (lv2 := [(0, .ref b), (1, .ref x), (2, .ref y), (3, .ref ou), (4, .int (nI (6 * n)))]) (st2 := [.int ((nI (6 * n)) + 4), .ref b, .int (xs (6 * n + 3)), .int (xs (6 * n + 2)), .int (xs (6 * n + 1)), .ref x]) rfl ?_
  rw [show nI (6 * n) + 4 = nI (6 * n + 4) from nI_a (6 * n) 4]
  refine wk_tld C hZ (nI_in (c := 6 * n + 4) (by omega) (by omega)) (show Value.int (xs (nI (6 * n + 4)).toNatClampNeg) = .int (xs (6 * n + 4)) by rw [nI_clamp (by omega)]) d_law_1057 ?_
  refine wk_run C k_law_1058 (pc2 := 1067) (lv2 := [(0, .ref b), (1, .ref x), (2, .ref y), (3, .ref ou), (4, .int (nI (6 * n)))]) (st2 := [.int ((nI (6 * n)) + 5), .ref b, .long (((xs (6 * n + 4)).toInt64) <<< ((32 : Int32).toInt64 &&& 63)), .int (xs (6 * n + 3)), .int (xs (6 * n + 2)), .int (xs (6 * n + 1)), .ref x]) rfl ?_
  rw [show nI (6 * n) + 5 = nI (6 * n + 5) from nI_a (6 * n) 5]
  refine wk_tld C hZ (nI_in (c := 6 * n + 5) (by omega) (by omega)) (show Value.int (xs (nI (6 * n + 5)).toNatClampNeg) = .int (xs (6 * n + 5)) by rw [nI_clamp (by omega)]) d_law_1067 ?_
  refine wk_run C k_law_1068 (pc2 := 1069) (lv2 := [(0, .ref b), (1, .ref x), (2, .ref y), (3, .ref ou), (4, .int (nI (6 * n)))]) (st2 := [.long (xs (6 * n + 5)).toInt64, .long (((xs (6 * n + 4)).toInt64) <<< ((32 : Int32).toInt64 &&& 63)), .int (xs (6 * n + 3)), .int (xs (6 * n + 2)), .int (xs (6 * n + 1)), .ref x]) rfl ?_
  refine wk_ldc2 C kl_LW_124 d_law_1069 ?_
  refine wk_run C k_law_1072 (pc2 := 1075) (lv2 := [(0, .ref b), (1, .ref x), (2, .ref y), (3, .ref ou), (4, .int (nI (6 * n)))]) (st2 := [.ref ou, .long ((((xs (6 * n + 4)).toInt64) <<< ((32 : Int32).toInt64 &&& 63)) ||| (((xs (6 * n + 5)).toInt64) &&& 4294967295)), .int (xs (6 * n + 3)), .int (xs (6 * n + 2)), .int (xs (6 * n + 1)), .ref x]) rfl ?_
  refine wk_callSW (rest := []) C (c_LW_may l D HB h hlt own V x ou (xs (6 * n + 1)) (xs (6 * n + 2)) (xs (6 * n + 3)) (((xs (6 * n + 4)).toInt64 <<< ((32 : Int32).toInt64 &&& 63)) ||| ((xs (6 * n + 5)).toInt64 &&& 4294967295)) f IC IW (ok_m IR (by omega)) hou Io) cs_LW_126 kc_LW_may ki_LW rfl rfl (Nat.le_of_ble_eq_true rfl) (Nat.le_of_ble_eq_true rfl) (Nat.le_of_ble_eq_true rfl) hc hs d_law_1075 (fun v h2 hq => ?_) (fun E h2 hq => by obtain ⟨_, _, z, _⟩ := hq; cases z)
  obtain ⟨own2, f2, e1, hcr, hso, ho2, hou2, hf2⟩ := hq; cases e1
  show Wk _ _ _ _ _ _ _ _ _ _ _ _ _ _ _ _ _ _ _ (.int (sp_may V (xs (6 * n + 1)) (xs (6 * n + 2)) (xs (6 * n + 3)) (((xs (6 * n + 4)).toInt64 <<< ((32 : Int32).toInt64 &&& 63)) ||| ((xs (6 * n + 5)).toInt64 &&& 4294967295))).1 :: _)
  have ic := iv_c I hso
  refine wk_run C k_law_1078 (pc2 := 1086) (lv2 := [(5, .int (sp_may V (xs (6 * n + 1)) (xs (6 * n + 2)) (xs (6 * n + 3)) (((xs (6 * n + 4)).toInt64 <<< ((32 : Int32).toInt64 &&& 63)) ||| ((xs (6 * n + 5)).toInt64 &&& 4294967295))).1), (0, .ref b), (1, .ref x), (2, .ref y), (3, .ref ou), (4, .int (nI (6 * n)))]) (st2 := [.int ((nI (6 * n)) + 1), .ref b, .ref y]) rfl ?_
  rw [show nI (6 * n) + 1 = nI (6 * n + 1) from nI_a (6 * n) 1]
  refine wk_tld C hZ (nI_in (c := 6 * n + 1) (by omega) (by omega)) (show Value.int (xs (nI (6 * n + 1)).toNatClampNeg) = .int (xs (6 * n + 1)) by rw [nI_clamp (by omega)]) d_law_1086 ?_
  refine wk_run C k_law_1087 (pc2 := 1092) (lv2 := [(5, .int (sp_may V (xs (6 * n + 1)) (xs (6 * n + 2)) (xs (6 * n + 3)) (((xs (6 * n + 4)).toInt64 <<< ((32 : Int32).toInt64 &&& 63)) ||| ((xs (6 * n + 5)).toInt64 &&& 4294967295))).1), (0, .ref b), (1, .ref x), (2, .ref y), (3, .ref ou), (4, .int (nI (6 * n)))]) (st2 := [.int ((nI (6 * n)) + 2), .ref b, .int (xs (6 * n + 1)), .ref y]) rfl ?_
  rw [show nI (6 * n) + 2 = nI (6 * n + 2) from nI_a (6 * n) 2]
  refine wk_tld C hZ (nI_in (c := 6 * n + 2) (by omega) (by omega)) (show Value.int (xs (nI (6 * n + 2)).toNatClampNeg) = .int (xs (6 * n + 2)) by rw [nI_clamp (by omega)]) d_law_1092 ?_
  refine wk_run C k_law_1093 (pc2 := 1098) (lv2 := [(5, .int (sp_may V (xs (6 * n + 1)) (xs (6 * n + 2)) (xs (6 * n + 3)) (((xs (6 * n + 4)).toInt64 <<< ((32 : Int32).toInt64 &&& 63)) ||| ((xs (6 * n + 5)).toInt64 &&& 4294967295))).1), (0, .ref b), (1, .ref x), (2, .ref y), (3, .ref ou), (4, .int (nI (6 * n)))]) (st2 := [.int ((nI (6 * n)) + 3), .ref b, .int (xs (6 * n + 2)), .int (xs (6 * n + 1)), .ref y]) rfl ?_
  rw [show nI (6 * n) + 3 = nI (6 * n + 3) from nI_a (6 * n) 3]
  refine wk_tld C hZ (nI_in (c := 6 * n + 3) (by omega) (by omega)) (show Value.int (xs (nI (6 * n + 3)).toNatClampNeg) = .int (xs (6 * n + 3)) by rw [nI_clamp (by omega)]) d_law_1098 ?_
  refine wk_run C k_law_1099 (pc2 := 1104) (lv2 := [(5, .int (sp_may V (xs (6 * n + 1)) (xs (6 * n + 2)) (xs (6 * n + 3)) (((xs (6 * n + 4)).toInt64 <<< ((32 : Int32).toInt64 &&& 63)) ||| ((xs (6 * n + 5)).toInt64 &&& 4294967295))).1), (0, .ref b), (1, .ref x), (2, .ref y), (3, .ref ou), (4, .int (nI (6 * n)))]) (st2 := [.int ((nI (6 * n)) + 4), .ref b, .int (xs (6 * n + 3)), .int (xs (6 * n + 2)), .int (xs (6 * n + 1)), .ref y]) rfl ?_
  rw [show nI (6 * n) + 4 = nI (6 * n + 4) from nI_a (6 * n) 4]
  refine wk_tld C hZ (nI_in (c := 6 * n + 4) (by omega) (by omega)) (show Value.int (xs (nI (6 * n + 4)).toNatClampNeg) = .int (xs (6 * n + 4)) by rw [nI_clamp (by omega)]) d_law_1104 ?_
  refine wk_run C k_law_1105 (pc2 := 1114) (lv2 := [(5, .int (sp_may V (xs (6 * n + 1)) (xs (6 * n + 2)) (xs (6 * n + 3)) (((xs (6 * n + 4)).toInt64 <<< ((32 : Int32).toInt64 &&& 63)) ||| ((xs (6 * n + 5)).toInt64 &&& 4294967295))).1), (0, .ref b), (1, .ref x), (2, .ref y), (3, .ref ou), (4, .int (nI (6 * n)))]) (st2 := [.int ((nI (6 * n)) + 5), .ref b, .long (((xs (6 * n + 4)).toInt64) <<< ((32 : Int32).toInt64 &&& 63)), .int (xs (6 * n + 3)), .int (xs (6 * n + 2)), .int (xs (6 * n + 1)), .ref y]) rfl ?_
  rw [show nI (6 * n) + 5 = nI (6 * n + 5) from nI_a (6 * n) 5]
  refine wk_tld C hZ (nI_in (c := 6 * n + 5) (by omega) (by omega)) (show Value.int (xs (nI (6 * n + 5)).toNatClampNeg) = .int (xs (6 * n + 5)) by rw [nI_clamp (by omega)]) d_law_1114 ?_
  refine wk_run C k_law_1115 (pc2 := 1116) (lv2 := [(5, .int (sp_may V (xs (6 * n + 1)) (xs (6 * n + 2)) (xs (6 * n + 3)) (((xs (6 * n + 4)).toInt64 <<< ((32 : Int32).toInt64 &&& 63)) ||| ((xs (6 * n + 5)).toInt64 &&& 4294967295))).1), (0, .ref b), (1, .ref x), (2, .ref y), (3, .ref ou), (4, .int (nI (6 * n)))]) (st2 := [.long (xs (6 * n + 5)).toInt64, .long (((xs (6 * n + 4)).toInt64) <<< ((32 : Int32).toInt64 &&& 63)), .int (xs (6 * n + 3)), .int (xs (6 * n + 2)), .int (xs (6 * n + 1)), .ref y]) rfl ?_
  refine wk_ldc2 C kl_LW_124 d_law_1116 ?_
  refine wk_run C k_law_1119 (pc2 := 1121) (lv2 := [(5, .int (sp_may V (xs (6 * n + 1)) (xs (6 * n + 2)) (xs (6 * n + 3)) (((xs (6 * n + 4)).toInt64 <<< ((32 : Int32).toInt64 &&& 63)) ||| ((xs (6 * n + 5)).toInt64 &&& 4294967295))).1), (0, .ref b), (1, .ref x), (2, .ref y), (3, .ref ou), (4, .int (nI (6 * n)))]) (st2 := [.long ((((xs (6 * n + 4)).toInt64) <<< ((32 : Int32).toInt64 &&& 63)) ||| (((xs (6 * n + 5)).toInt64) &&& 4294967295)), .int (xs (6 * n + 3)), .int (xs (6 * n + 2)), .int (xs (6 * n + 1)), .ref y]) rfl ?_
  refine wk_callV (cl := ("ProfileRightsModel", T_MD, 27)) (rest := []) C (m_may l D HB h2 h2 y A V (xs (6 * n + 1)) (xs (6 * n + 2)) (xs (6 * n + 3)) (((xs (6 * n + 4)).toInt64 <<< ((32 : Int32).toInt64 &&& 63)) ||| ((xs (6 * n + 5)).toInt64 &&& 4294967295)) IW (ok_m IR (by omega)) ic.1) cs_LW_129 kc_MD_may ki_MD ic.1.ob rfl rfl rfl (Nat.le_of_ble_eq_true rfl) (Nat.le_of_ble_eq_true rfl) (Nat.le_of_ble_eq_true rfl) hc hs d_law_1121 (fun v2 h3 hq2 => ?_) (fun E h9 hq9 => by obtain ⟨_, _, _, _, _, z, _⟩ := hq9; cases z)
  obtain ⟨cd, r, V2, F, es, e1, hM2⟩ := hq2; cases e1
  show Wk _ _ _ _ _ _ _ _ _ _ _ _ _ _ _ _ _ _ _ (.int r :: _)
  have hW2 : wf V2 := by have z : wf (sp_may V (xs (6 * n + 1)) (xs (6 * n + 2)) (xs (6 * n + 3)) (((xs (6 * n + 4)).toInt64 <<< ((32 : Int32).toInt64 &&& 63)) ||| ((xs (6 * n + 5)).toInt64 &&& 4294967295))).2.2 := wf_may IW; rw [es] at z; exact z
  have hR2 : ok_ (V2 25 0) (n + 1) := by have z := r25_may (V := V) (xs (6 * n + 1)) (xs (6 * n + 2)) (xs (6 * n + 3)) (((xs (6 * n + 4)).toInt64 <<< ((32 : Int32).toInt64 &&& 63)) ||| ((xs (6 * n + 5)).toInt64 &&& 4294967295)) (by omega) IR; rw [es] at z; exact z
  have he : ∀ j, j ≠ 0 → j ≠ 26 → (vs V2 26 F) j = (sp_may V (xs (6 * n + 1)) (xs (6 * n + 2)) (xs (6 * n + 3)) (((xs (6 * n + 4)).toInt64 <<< ((32 : Int32).toInt64 &&& 63)) ||| ((xs (6 * n + 5)).toInt64 &&& 4294967295))).2.2 j := fun j _ h26 => by rw [es]; exact vs_n h26
  have ecd : V2 0 0 = (sp_may V (xs (6 * n + 1)) (xs (6 * n + 2)) (xs (6 * n + 3)) (((xs (6 * n + 4)).toInt64 <<< ((32 : Int32).toInt64 &&& 63)) ||| ((xs (6 * n + 5)).toInt64 &&& 4294967295))).1 := by have z := cd_may V (xs (6 * n + 1)) (xs (6 * n + 2)) (xs (6 * n + 3)) (((xs (6 * n + 4)).toInt64 <<< ((32 : Int32).toInt64 &&& 63)) ||| ((xs (6 * n + 5)).toInt64 &&& 4294967295)); rw [es] at z ⊢; exact z
  have er : (sp_may V (xs (6 * n + 1)) (xs (6 * n + 2)) (xs (6 * n + 3)) (((xs (6 * n + 4)).toInt64 <<< ((32 : Int32).toInt64 &&& 63)) ||| ((xs (6 * n + 5)).toInt64 &&& 4294967295))).2.1 = r := by rw [es]
  refine wk_run C k_law_1124 (pc2 := 1127) (lv2 := [(6, .int r), (5, .int (sp_may V (xs (6 * n + 1)) (xs (6 * n + 2)) (xs (6 * n + 3)) (((xs (6 * n + 4)).toInt64 <<< ((32 : Int32).toInt64 &&& 63)) ||| ((xs (6 * n + 5)).toInt64 &&& 4294967295))).1), (0, .ref b), (1, .ref x), (2, .ref y), (3, .ref ou), (4, .int (nI (6 * n)))]) (st2 := [.ref y]) rfl ?_
  refine wk_callV (cl := ("ProfileRightsModel", T_MD, 27)) (rest := []) C (c_MD_thrown l D HB h3 h2 y A (vs V2 26 F) hM2) cs_LW_79 kc_MD_thrown ki_MD hM2.ob rfl rfl rfl (Nat.le_of_ble_eq_true rfl) (Nat.le_of_ble_eq_true rfl) (Nat.le_of_ble_eq_true rfl) hc hs d_law_1127 (fun v3 h4 hq3 => ?_) (fun E h9 hq9 => by obtain ⟨_, _, _, _, z, _⟩ := hq9; cases z)
  obtain ⟨cd3, r3, V3, es3, e1, hM3⟩ := hq3; cases e1; cases es3
  show Wk _ _ _ _ _ _ _ _ _ _ _ _ _ _ _ _ _ _ _ (.int (V2 0 0) :: _)
  have iv2 := iv_m hcr hM3 ic.2.1 ic.2.2 (by rw [ho2]; exact Io) hou2 no (wf_s hW2 rfl rfl rfl rfl rfl rfl rfl rfl rfl rfl rfl rfl rfl rfl hW2.2.2.2.1) hR2 he
  refine wk_run C k_law_1130 (pc2 := 1132) (lv2 := [(6, .int r), (5, .int (sp_may V (xs (6 * n + 1)) (xs (6 * n + 2)) (xs (6 * n + 3)) (((xs (6 * n + 4)).toInt64 <<< ((32 : Int32).toInt64 &&& 63)) ||| ((xs (6 * n + 5)).toInt64 &&& 4294967295))).1), (0, .ref b), (1, .ref x), (2, .ref y), (3, .ref ou), (4, .int (nI (6 * n)))]) (st2 := [.int (sp_may V (xs (6 * n + 1)) (xs (6 * n + 2)) (xs (6 * n + 3)) (((xs (6 * n + 4)).toInt64 <<< ((32 : Int32).toInt64 &&& 63)) ||| ((xs (6 * n + 5)).toInt64 &&& 4294967295))).1, .int (V2 0 0)]) rfl ?_
  refine wk_br C d_law_1132 (P := (V2 0 0) = ((sp_may V (xs (6 * n + 1)) (xs (6 * n + 2)) (xs (6 * n + 3)) (((xs (6 * n + 4)).toInt64 <<< ((32 : Int32).toInt64 &&& 63)) ||| ((xs (6 * n + 5)).toInt64 &&& 4294967295))).1)) (tgt := 1137) (rest := []) rfl (by decide) (fun c1 => ?_) (fun c1 => ?_)
  ·
    refine wk_run C k_law_1137 (pc2 := 1139) (lv2 := [(6, .int r), (5, .int (sp_may V (xs (6 * n + 1)) (xs (6 * n + 2)) (xs (6 * n + 3)) (((xs (6 * n + 4)).toInt64 <<< ((32 : Int32).toInt64 &&& 63)) ||| ((xs (6 * n + 5)).toInt64 &&& 4294967295))).1), (0, .ref b), (1, .ref x), (2, .ref y), (3, .ref ou), (4, .int (nI (6 * n)))]) (st2 := [.int (sp_may V (xs (6 * n + 1)) (xs (6 * n + 2)) (xs (6 * n + 3)) (((xs (6 * n + 4)).toInt64 <<< ((32 : Int32).toInt64 &&& 63)) ||| ((xs (6 * n + 5)).toInt64 &&& 4294967295))).1]) rfl ?_
    refine wk_br C d_law_1139 (P := ¬ ((sp_may V (xs (6 * n + 1)) (xs (6 * n + 2)) (xs (6 * n + 3)) (((xs (6 * n + 4)).toInt64 <<< ((32 : Int32).toInt64 &&& 63)) ||| ((xs (6 * n + 5)).toInt64 &&& 4294967295))).1) = 0) (tgt := 1154) (rest := []) rfl (by decide) (fun c2 => ?_) (fun c2 => ?_)
    ·
      refine wk_goto C d_law_1154 (tgt := 1471) (by decide) ?_
      refine Wk.sub (lv2 := [(0, .ref b), (1, .ref x), (2, .ref y), (3, .ref ou), (4, .int (nI (6 * n)))]) [2, 3, 4, 5, 6] rfl ?_
      exact K _ own2 _ iv2.1
    ·
      have hf3 := hf2 (Classical.not_not.mp c2)
      refine wk_run C k_law_1142 (pc2 := 1144) (lv2 := [(6, .int r), (5, .int (sp_may V (xs (6 * n + 1)) (xs (6 * n + 2)) (xs (6 * n + 3)) (((xs (6 * n + 4)).toInt64 <<< ((32 : Int32).toInt64 &&& 63)) ||| ((xs (6 * n + 5)).toInt64 &&& 4294967295))).1), (0, .ref b), (1, .ref x), (2, .ref y), (3, .ref ou), (4, .int (nI (6 * n)))]) (st2 := [.int 0, .ref ou]) rfl ?_
      refine wk_lald C iv2.2 (nI_in (c := 0) (by decide) (by decide)) d_law_1144 ?_
      show Wk _ _ _ _ _ _ _ _ _ _ _ _ _ _ _ _ _ _ _ (.long (f2 0) :: _)
      rw [hf3, er]
      refine wk_run C k_law_1145 (pc2 := 1148) (lv2 := [(6, .int r), (5, .int (sp_may V (xs (6 * n + 1)) (xs (6 * n + 2)) (xs (6 * n + 3)) (((xs (6 * n + 4)).toInt64 <<< ((32 : Int32).toInt64 &&& 63)) ||| ((xs (6 * n + 5)).toInt64 &&& 4294967295))).1), (0, .ref b), (1, .ref x), (2, .ref y), (3, .ref ou), (4, .int (nI (6 * n)))]) (st2 := [.long r.toInt64, .long r.toInt64]) rfl ?_
      refine wk_lcmp C d_law_1148 ?_
      refine wk_br C d_law_1149 (P := (lg_cmp r.toInt64 r.toInt64) = 0) (tgt := 1154) (rest := []) rfl (by decide) (fun c4 => ?_) (fun c4 => ?_)
      ·
        refine wk_goto C d_law_1154 (tgt := 1471) (by decide) ?_
        refine Wk.sub (lv2 := [(0, .ref b), (1, .ref x), (2, .ref y), (3, .ref ou), (4, .int (nI (6 * n)))]) [2, 3, 4, 5, 6] rfl ?_
        exact K _ own2 _ iv2.1
      ·
        exact absurd (lg_s _) c4
  ·
    exact absurd ecd c1
