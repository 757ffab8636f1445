theorem k_law_1008 : px_dec code [.aload_n 1, .aload_n 0, .iload 4, .iconst 1, .iadd] 1008 = true := by decide +kernel
theorem d_law_1014 : decode code 1014 = .ok (.iaload, 1) := by decide +kernel
theorem d_law_1015 : decode code 1015 = .ok (.invokevirtual 120, 3) := by decide +kernel
theorem k_law_1018 : px_dec code [.aload_n 2, .aload_n 0, .iload 4, .iconst 1, .iadd] 1018 = true := by decide +kernel
theorem d_law_1024 : decode code 1024 = .ok (.iaload, 1) := by decide +kernel
theorem d_law_1025 : decode code 1025 = .ok (.invokevirtual 123, 3) := by decide +kernel
theorem d_law_1028 : decode code 1028 = .ok (.if_icmp .eq 443, 3) := by decide +kernel
set_option maxRecDepth 100000 in
set_option maxHeartbeats 4000000 in
theorem lw_ask {p : Program} {l : Launch} {e : Env} {s : State} {m : MethodId} {args : Array Value} {below : List Frame} {meth : Method} {c : Code} {Q : State → Prop} {D : va_G} {HB : Heap} {hh : List (Nat × Nat × Nat × Nat)} (C : wk_C p s m args meth c code "ProfileRightsLaw" 7 ret hh D HB) (hlt : l.stackTraces = false) {b L : Nat} {xs : Nat → Int32} (hZ : va_T .int b L (fun j => .int (xs j)) (hp_A HB) s HB) {x y ou : Nat} {A : Nat → Nat} {n cells slots : Nat} {V : vT} {own : oT} {h : hp_T} (hn : n < 512) (hL : L ≤ 3072) (h6 : 6 * n + 6 ≤ L) (hc : cells + 8 ≤ 601024) (hs : slots + 200 ≤ 7293034) (I : iv D x y ou A n V own h) (K : ∀ (V2 : vT) (own2 : oT) (h2 : hp_T), iv D x y ou A (n + 1) V2 own2 h2 → Wk p l e room_1 s m args below meth c 7 D HB Q h2 (cells + 8) (slots + 200) 1471 [(0, .ref b), (1, .ref x), (2, .ref y), (3, .ref ou), (4, .int (nI (6 * n)))] []) : Wk p l e room_1 s m args below meth c 7 D HB Q h cells slots 1008 [(0, .ref b), (1, .ref x), (2, .ref y), (3, .ref ou), (4, .int (nI (6 * n)))] [] := by
  obtain ⟨IM, IC, IW, IR, Iy, IA, Io, f, hou⟩ := id I
  have no := mq_ou IM hou
  obtain ⟨gl, ul, pl, mo, aq, tr, hx0⟩ := cr_x IC
  refine wk_run C k_law_1008 (pc2 := 1014) (lv2 := [(0, .ref b), (1, .ref x), (2, .ref y), (3, .ref ou), (4, .int (nI (6 * n)))]) (st2 := [.int ((nI (6 * n)) + 1), .ref b, .ref x]) rfl ?_
  rw [show nI (6 * n) + 1 = nI (6 * n + 1) from nI_a (6 * n) 1]
  refine wk_tld C hZ (nI_in (c := 6 * n + 1) (by omega) (by omega)) (show Value.int (xs (nI (6 * n + 1)).toNatClampNeg) = .int (xs (6 * n + 1)) by rw [nI_clamp (by omega)]) d_law_1014 ?_
  refine wk_callV (cl := ("ProfileRights", T_PR, 7)) (rest := []) C (o_ask l D HB h hlt own V x (xs (6 * n + 1)) IC IW) cs_LW_120 kc_PR_ask ki_PR hx0 rfl rfl rfl (Nat.le_of_ble_eq_true rfl) (Nat.le_of_ble_eq_true rfl) (Nat.le_of_ble_eq_true rfl) hc hs d_law_1015 (fun v h2 hq => ?_) (fun E h2 hq => by obtain ⟨e1, _⟩ := wq_d hq (n0_ask V (xs (6 * n + 1))) hou Io; cases e1)
  obtain ⟨e1, own2, hcr, hso, ho2, hou2⟩ := wq_d hq (n0_ask V (xs (6 * n + 1))) hou Io
  have hv := Sum.inl.inj e1; subst hv
  show Wk _ _ _ _ _ _ _ _ _ _ _ _ _ _ _ _ _ _ _ (.int (sp_ask V (xs (6 * n + 1))).2.1 :: _)
  have ic := iv_c I hso
  refine wk_run C k_law_1018 (pc2 := 1024) (lv2 := [(0, .ref b), (1, .ref x), (2, .ref y), (3, .ref ou), (4, .int (nI (6 * n)))]) (st2 := [.int ((nI (6 * n)) + 1), .ref b, .ref y, .int (sp_ask V (xs (6 * n + 1))).2.1]) rfl ?_
  rw [show nI (6 * n) + 1 = nI (6 * n + 1) from nI_a (6 * n) 1]
  refine wk_tld C hZ (nI_in (c := 6 * n + 1) (by omega) (by omega)) (show Value.int (xs (nI (6 * n + 1)).toNatClampNeg) = .int (xs (6 * n + 1)) by rw [nI_clamp (by omega)]) d_law_1024 ?_
  refine wk_callV (cl := ("ProfileRightsModel", T_MD, 27)) (rest := [.int (sp_ask V (xs (6 * n + 1))).2.1]) C (m_ask l D HB h2 h2 y A V (xs (6 * n + 1)) IW ic.1) cs_LW_123 kc_MD_ask ki_MD ic.1.ob rfl rfl rfl (Nat.le_of_ble_eq_true rfl) (Nat.le_of_ble_eq_true rfl) (Nat.le_of_ble_eq_true rfl) hc hs d_law_1025 (fun v2 h3 hq2 => ?_) (fun E h9 hq9 => by obtain ⟨_, _, _, _, z, _⟩ := hq9; cases z)
  obtain ⟨cd, r, V2, es, e1, hM2⟩ := hq2; cases e1
  show Wk _ _ _ _ _ _ _ _ _ _ _ _ _ _ _ _ _ _ _ (.int r :: _)
  have hW2 : wf V2 := by have z : wf (sp_ask V (xs (6 * n + 1))).2.2 := wf_ask IW; rw [es] at z; exact z
  have hR2 : ok_ (V2 25 0) (n + 1) := by have z := r25_ask (V := V) (xs (6 * n + 1)) (by omega) IR; rw [es] at z; exact z
  have he : ∀ j, j ≠ 0 → j ≠ 26 → V2 j = (sp_ask V (xs (6 * n + 1))).2.2 j := fun j _ h26 => by rw [es]
  have iv2 := iv_m hcr hM2 ic.2.1 ic.2.2 (by rw [ho2]; exact Io) hou2 no hW2 hR2 he
  refine wk_br C d_law_1028 (P := ((sp_ask V (xs (6 * n + 1))).2.1) = r) (tgt := 1471) (rest := []) rfl (by decide) (fun c1 => ?_) (fun c1 => ?_)
  ·
    refine Wk.sub (lv2 := [(0, .ref b), (1, .ref x), (2, .ref y), (3, .ref ou), (4, .int (nI (6 * n)))]) [0, 1, 2, 3, 4] rfl ?_
    exact K _ own2 _ iv2.1
  ·
    exact absurd (by rw [es]) c1
