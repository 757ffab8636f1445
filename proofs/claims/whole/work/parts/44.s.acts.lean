theorem k_law_1275 : px_dec code [.aload_n 1, .aload_n 0, .iload 4, .iconst 1, .iadd] 1275 = true := by decide +kernel
theorem d_law_1281 : decode code 1281 = .ok (.iaload, 1) := by decide +kernel
theorem k_law_1282 : px_dec code [.aload_n 0, .iload 4, .iconst 2, .iadd] 1282 = true := by decide +kernel
theorem d_law_1287 : decode code 1287 = .ok (.iaload, 1) := by decide +kernel
theorem k_law_1288 : px_dec code [.aload_n 3] 1288 = true := by decide +kernel
theorem d_law_1289 : decode code 1289 = .ok (.invokestatic 141, 3) := by decide +kernel
theorem k_law_1292 : px_dec code [.istore 5, .aload_n 2, .aload_n 0, .iload 4, .iconst 1, .iadd] 1292 = true := by decide +kernel
theorem d_law_1300 : decode code 1300 = .ok (.iaload, 1) := by decide +kernel
theorem k_law_1301 : px_dec code [.aload_n 0, .iload 4, .iconst 2, .iadd] 1301 = true := by decide +kernel
theorem d_law_1306 : decode code 1306 = .ok (.iaload, 1) := by decide +kernel
theorem d_law_1307 : decode code 1307 = .ok (.invokevirtual 143, 3) := by decide +kernel
theorem k_law_1310 : px_dec code [.istore 6, .aload_n 2] 1310 = true := by decide +kernel
theorem d_law_1313 : decode code 1313 = .ok (.invokevirtual 79, 3) := by decide +kernel
theorem k_law_1316 : px_dec code [.iload 5] 1316 = true := by decide +kernel
theorem d_law_1318 : decode code 1318 = .ok (.if_icmp .eq 5, 3) := by decide +kernel
theorem k_law_1323 : px_dec code [.iload 5] 1323 = true := by decide +kernel
theorem d_law_1325 : decode code 1325 = .ok (.ifCond .ne 22, 3) := by decide +kernel
theorem d_law_1347 : decode code 1347 = .ok (.goto 124, 3) := by decide +kernel
theorem k_law_1328 : px_dec code [.aload_n 3, .iconst 0] 1328 = true := by decide +kernel
theorem d_law_1330 : decode code 1330 = .ok (.laload, 1) := by decide +kernel
theorem k_law_1331 : px_dec code [.iload 6] 1331 = true := by decide +kernel
theorem d_law_1333 : decode code 1333 = .ok (.ifCond .eq 7, 3) := by decide +kernel
theorem k_law_1340 : px_dec code [.lconst 0] 1340 = true := by decide +kernel
theorem d_law_1341 : decode code 1341 = .ok (.lcmp, 1) := by decide +kernel
theorem d_law_1342 : decode code 1342 = .ok (.ifCond .eq 5, 3) := by decide +kernel
theorem k_law_1336 : px_dec code [.lconst 1] 1336 = true := by decide +kernel
theorem d_law_1337 : decode code 1337 = .ok (.goto 4, 3) := by decide +kernel
set_option maxRecDepth 100000 in
set_option maxHeartbeats 4000000 in
theorem lw_acts {p : Program} {l : Launch} {e : Env} {s : State} {m : MethodId} {args : Array Value} {below : List Frame} {meth : Method} {c : Code} {Q : State → Prop} {D : va_G} {HB : Heap} {hh : List (Nat × Nat × Nat × Nat)} (C : wk_C p s m args meth c code "ProfileRightsLaw" 7 ret hh D HB) (hlt : l.stackTraces = false) {b L : Nat} {xs : Nat → Int32} (hZ : va_T .int b L (fun j => .int (xs j)) (hp_A HB) s HB) {x y ou : Nat} {A : Nat → Nat} {n cells slots : Nat} {V : vT} {own : oT} {h : hp_T} (hn : n < 512) (hL : L ≤ 3072) (h6 : 6 * n + 6 ≤ L) (hc : cells + 8 ≤ 601024) (hs : slots + 200 ≤ 7293034) (I : iv D x y ou A n V own h) (K : ∀ (V2 : vT) (own2 : oT) (h2 : hp_T), iv D x y ou A (n + 1) V2 own2 h2 → Wk p l e room_1 s m args below meth c 7 D HB Q h2 (cells + 8) (slots + 200) 1471 [(0, .ref b), (1, .ref x), (2, .ref y), (3, .ref ou), (4, .int (nI (6 * n)))] []) : Wk p l e room_1 s m args below meth c 7 D HB Q h cells slots 1275 [(0, .ref b), (1, .ref x), (2, .ref y), (3, .ref ou), (4, .int (nI (6 * n)))] [] := by
  obtain ⟨IM, IC, IW, IR, Iy, IA, Io, f, hou⟩ := id I
  have no := mq_ou IM hou
  obtain ⟨gl, ul, pl, mo, aq, tr, hx0⟩ := cr_x IC
  refine wk_run C k_law_1275 (pc2 := 1281) (lv2 := [(0, .ref b), (1, .ref x), (2, .ref y), (3, .ref ou), (4, .int (nI (6 * n)))]) (st2 := [.int ((nI (6 * n)) + 1), .ref b, .ref x]) rfl ?_
  rw [show nI (6 * n) + 1 = nI (6 * n + 1) from nI_a (6 * n) 1]
  refine wk_tld C hZ (nI_in (c := 6 * n + 1) (by omega) (by omega)) (show Value.int (xs (nI (6 * n + 1)).toNatClampNeg) = .int (xs (6 * n + 1)) by rw [nI_clamp (by omega)]) d_law_1281 ?_
  refine wk_run C k_law_1282 (pc2 := 1287) (lv2 := [(0, .ref b), (1, .ref x), (2, .ref y), (3, .ref ou), (4, .int (nI (6 * n)))]) (st2 := [.int ((nI (6 * n)) + 2), .ref b, .int (xs (6 * n + 1)), .ref x]) rfl ?_
  rw [show nI (6 * n) + 2 = nI (6 * n + 2) from nI_a (6 * n) 2]
  refine wk_tld C hZ (nI_in (c := 6 * n + 2) (by omega) (by omega)) (show Value.int (xs (nI (6 * n + 2)).toNatClampNeg) = .int (xs (6 * n + 2)) by rw [nI_clamp (by omega)]) d_law_1287 ?_
  refine wk_run C k_law_1288 (pc2 := 1289) (lv2 := [(0, .ref b), (1, .ref x), (2, .ref y), (3, .ref ou), (4, .int (nI (6 * n)))]) (st2 := [.ref ou, .int (xs (6 * n + 2)), .int (xs (6 * n + 1)), .ref x]) rfl ?_
  refine wk_callSW (rest := []) C (c_LW_acts l D HB h hlt own V x ou (xs (6 * n + 1)) (xs (6 * n + 2)) f IC IW hou Io) cs_LW_141 kc_LW_acts ki_LW rfl rfl (Nat.le_of_ble_eq_true rfl) (Nat.le_of_ble_eq_true rfl) (Nat.le_of_ble_eq_true rfl) hc hs d_law_1289 (fun v h2 hq => ?_) (fun E h2 hq => by obtain ⟨_, _, z, _⟩ := hq; cases z)
  obtain ⟨own2, f2, e1, hcr, hso, ho2, hou2, hf2⟩ := hq; cases e1
  show Wk _ _ _ _ _ _ _ _ _ _ _ _ _ _ _ _ _ _ _ (.int (sp_acts V (xs (6 * n + 1)) (xs (6 * n + 2))).1 :: _)
  have ic := iv_c I hso
  refine wk_run C k_law_1292 (pc2 := 1300) (lv2 := [(5, .int (sp_acts V (xs (6 * n + 1)) (xs (6 * n + 2))).1), (0, .ref b), (1, .ref x), (2, .ref y), (3, .ref ou), (4, .int (nI (6 * n)))]) (st2 := [.int ((nI (6 * n)) + 1), .ref b, .ref y]) rfl ?_
  rw [show nI (6 * n) + 1 = nI (6 * n + 1) from nI_a (6 * n) 1]
  refine wk_tld C hZ (nI_in (c := 6 * n + 1) (by omega) (by omega)) (show Value.int (xs (nI (6 * n + 1)).toNatClampNeg) = .int (xs (6 * n + 1)) by rw [nI_clamp (by omega)]) d_law_1300 ?_
  refine wk_run C k_law_1301 (pc2 := 1306) (lv2 := [(5, .int (sp_acts V (xs (6 * n + 1)) (xs (6 * n + 2))).1), (0, .ref b), (1, .ref x), (2, .ref y), (3, .ref ou), (4, .int (nI (6 * n)))]) (st2 := [.int ((nI (6 * n)) + 2), .ref b, .int (xs (6 * n + 1)), .ref y]) rfl ?_
  rw [show nI (6 * n) + 2 = nI (6 * n + 2) from nI_a (6 * n) 2]
  refine wk_tld C hZ (nI_in (c := 6 * n + 2) (by omega) (by omega)) (show Value.int (xs (nI (6 * n + 2)).toNatClampNeg) = .int (xs (6 * n + 2)) by rw [nI_clamp (by omega)]) d_law_1306 ?_
  refine wk_callV (cl := ("ProfileRightsModel", T_MD, 27)) (rest := []) C (m_acts l D HB h2 h2 y A V (xs (6 * n + 1)) (xs (6 * n + 2)) IW ic.1) cs_LW_143 kc_MD_acts ki_MD ic.1.ob rfl rfl rfl (Nat.le_of_ble_eq_true rfl) (Nat.le_of_ble_eq_true rfl) (Nat.le_of_ble_eq_true rfl) hc hs d_law_1307 (fun v2 h3 hq2 => ?_) (fun E h9 hq9 => by obtain ⟨_, _, _, _, z, _⟩ := hq9; cases z)
  obtain ⟨cd, r, V2, es, e1, hM2⟩ := hq2; cases e1
  show Wk _ _ _ _ _ _ _ _ _ _ _ _ _ _ _ _ _ _ _ (.int r :: _)
  have hW2 : wf V2 := by have z : wf (sp_acts V (xs (6 * n + 1)) (xs (6 * n + 2))).2.2 := wf_acts IW; rw [es] at z; exact z
  have hR2 : ok_ (V2 25 0) (n + 1) := by have z := r25_acts (V := V) (xs (6 * n + 1)) (xs (6 * n + 2)) (by omega) IR; rw [es] at z; exact z
  have he : ∀ j, j ≠ 0 → j ≠ 26 → V2 j = (sp_acts V (xs (6 * n + 1)) (xs (6 * n + 2))).2.2 j := fun j _ h26 => by rw [es]
  have ecd : V2 0 0 = (sp_acts V (xs (6 * n + 1)) (xs (6 * n + 2))).1 := by have z := cd_acts V (xs (6 * n + 1)) (xs (6 * n + 2)); rw [es] at z ⊢; exact z
  have er : (sp_acts V (xs (6 * n + 1)) (xs (6 * n + 2))).2.1 = r := by rw [es]
  refine wk_run C k_law_1310 (pc2 := 1313) (lv2 := [(6, .int r), (5, .int (sp_acts V (xs (6 * n + 1)) (xs (6 * n + 2))).1), (0, .ref b), (1, .ref x), (2, .ref y), (3, .ref ou), (4, .int (nI (6 * n)))]) (st2 := [.ref y]) rfl ?_
  refine wk_callV (cl := ("ProfileRightsModel", T_MD, 27)) (rest := []) C (c_MD_thrown l D HB h3 h2 y A V2 hM2) cs_LW_79 kc_MD_thrown ki_MD hM2.ob rfl rfl rfl (Nat.le_of_ble_eq_true rfl) (Nat.le_of_ble_eq_true rfl) (Nat.le_of_ble_eq_true rfl) hc hs d_law_1313 (fun v3 h4 hq3 => ?_) (fun E h9 hq9 => by obtain ⟨_, _, _, _, z, _⟩ := hq9; cases z)
  obtain ⟨cd3, r3, V3, es3, e1, hM3⟩ := hq3; cases e1; cases es3
  show Wk _ _ _ _ _ _ _ _ _ _ _ _ _ _ _ _ _ _ _ (.int (V2 0 0) :: _)
  have iv2 := iv_m hcr hM3 ic.2.1 ic.2.2 (by rw [ho2]; exact Io) hou2 no hW2 hR2 he
  refine wk_run C k_law_1316 (pc2 := 1318) (lv2 := [(6, .int r), (5, .int (sp_acts V (xs (6 * n + 1)) (xs (6 * n + 2))).1), (0, .ref b), (1, .ref x), (2, .ref y), (3, .ref ou), (4, .int (nI (6 * n)))]) (st2 := [.int (sp_acts V (xs (6 * n + 1)) (xs (6 * n + 2))).1, .int (V2 0 0)]) rfl ?_
  refine wk_br C d_law_1318 (P := (V2 0 0) = ((sp_acts V (xs (6 * n + 1)) (xs (6 * n + 2))).1)) (tgt := 1323) (rest := []) rfl (by decide) (fun c1 => ?_) (fun c1 => ?_)
  ·
    refine wk_run C k_law_1323 (pc2 := 1325) (lv2 := [(6, .int r), (5, .int (sp_acts V (xs (6 * n + 1)) (xs (6 * n + 2))).1), (0, .ref b), (1, .ref x), (2, .ref y), (3, .ref ou), (4, .int (nI (6 * n)))]) (st2 := [.int (sp_acts V (xs (6 * n + 1)) (xs (6 * n + 2))).1]) rfl ?_
    refine wk_br C d_law_1325 (P := ¬ ((sp_acts V (xs (6 * n + 1)) (xs (6 * n + 2))).1) = 0) (tgt := 1347) (rest := []) rfl (by decide) (fun c2 => ?_) (fun c2 => ?_)
    ·
      refine wk_goto C d_law_1347 (tgt := 1471) (by decide) ?_
      refine Wk.sub (lv2 := [(0, .ref b), (1, .ref x), (2, .ref y), (3, .ref ou), (4, .int (nI (6 * n)))]) [2, 3, 4, 5, 6] rfl ?_
      exact K _ own2 _ iv2.1
    ·
      have hf3 := hf2 (Classical.not_not.mp c2)
      refine wk_run C k_law_1328 (pc2 := 1330) (lv2 := [(6, .int r), (5, .int (sp_acts V (xs (6 * n + 1)) (xs (6 * n + 2))).1), (0, .ref b), (1, .ref x), (2, .ref y), (3, .ref ou), (4, .int (nI (6 * n)))]) (st2 := [.int 0, .ref ou]) rfl ?_
      refine wk_lald C iv2.2 (nI_in (c := 0) (by decide) (by decide)) d_law_1330 ?_
      show Wk _ _ _ _ _ _ _ _ _ _ _ _ _ _ _ _ _ _ _ (.long (f2 0) :: _)
      rw [hf3, er]
      refine wk_run C k_law_1331 (pc2 := 1333) (lv2 := [(6, .int r), (5, .int (sp_acts V (xs (6 * n + 1)) (xs (6 * n + 2))).1), (0, .ref b), (1, .ref x), (2, .ref y), (3, .ref ou), (4, .int (nI (6 * n)))]) (st2 := [.int r, .long r.toInt64]) rfl ?_
      have h01 : r = 0 ∨ r = 1 := by rw [← er]; unfold sp_acts; (repeat' split) <;> (dsimp only; decide)
      refine wk_br C d_law_1333 (P := r = 0) (tgt := 1340) (rest := [.long r.toInt64]) rfl (by decide) (fun c5 => ?_) (fun c5 => ?_)
      ·
        refine wk_run C k_law_1340 (pc2 := 1341) (lv2 := [(6, .int r), (5, .int (sp_acts V (xs (6 * n + 1)) (xs (6 * n + 2))).1), (0, .ref b), (1, .ref x), (2, .ref y), (3, .ref ou), (4, .int (nI (6 * n)))]) (st2 := [.long 0, .long r.toInt64]) rfl ?_
        refine wk_lcmp C d_law_1341 ?_
        refine wk_br C d_law_1342 (P := (lg_cmp r.toInt64 0) = 0) (tgt := 1347) (rest := []) rfl (by decide) (fun c4 => ?_) (fun c4 => ?_)
        ·
          refine wk_goto C d_law_1347 (tgt := 1471) (by decide) ?_
          refine Wk.sub (lv2 := [(0, .ref b), (1, .ref x), (2, .ref y), (3, .ref ou), (4, .int (nI (6 * n)))]) [2, 3, 4, 5, 6] rfl ?_
          exact K _ own2 _ iv2.1
        ·
          exact absurd (by rcases h01 with y | y <;> rw [y] at c5 ⊢ <;> revert c5 <;> decide) c4
      ·
        refine wk_run C k_law_1336 (pc2 := 1337) (lv2 := [(6, .int r), (5, .int (sp_acts V (xs (6 * n + 1)) (xs (6 * n + 2))).1), (0, .ref b), (1, .ref x), (2, .ref y), (3, .ref ou), (4, .int (nI (6 * n)))]) (st2 := [.long 1, .long r.toInt64]) rfl ?_
        refine wk_goto C d_law_1337 (tgt := 1341) (by decide) ?_
        refine wk_lcmp C d_law_1341 ?_
        refine wk_br C d_law_1342 (P := (lg_cmp r.toInt64 1) = 0) (tgt := 1347) (rest := []) rfl (by decide) (fun c4 => ?_) (fun c4 => ?_)
        ·
          refine wk_goto C d_law_1347 (tgt := 1471) (by decide) ?_
          refine Wk.sub (lv2 := [(0, .ref b), (1, .ref x), (2, .ref y), (3, .ref ou), (4, .int (nI (6 * n)))]) [2, 3, 4, 5, 6] rfl ?_
          exact K _ own2 _ iv2.1
        ·
          exact absurd (by rcases h01 with y | y <;> rw [y] at c5 ⊢ <;> revert c5 <;> decide) c4
  ·
    exact absurd ecd c1
