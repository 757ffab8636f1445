theorem k_law_1157 : px_dec code [.aload_n 1] 1157 = true := by decide +kernel
theorem d_law_1158 : decode code 1158 = .ok (.invokevirtual 130, 3) := by decide +kernel
theorem k_law_1161 : px_dec code [.aload_n 2] 1161 = true := by decide +kernel
theorem d_law_1162 : decode code 1162 = .ok (.invokevirtual 133, 3) := by decide +kernel
theorem d_law_1165 : decode code 1165 = .ok (.if_icmp .eq 306, 3) := by decide +kernel
set_option maxRecDepth 100000 in
set_option maxHeartbeats 4000000 in
theorem lw_matched {p : Program} {l : Launch} {e : Env} {s : State} {m : MethodId} {args : Array Value} {below : List Frame} {meth : Method} {c : Code} {Q : State → Prop} {D : va_G} {HB : Heap} {hh : List (Nat × Nat × Nat × Nat)} (C : wk_C p s m args meth c code "ProfileRightsLaw" 7 ret hh D HB) (hlt : l.stackTraces = false) {b L : Nat} {xs : Nat → Int32} (hZ : va_T .int b L (fun j => .int (xs j)) (hp_A HB) s HB) {x y ou : Nat} {A : Nat → Nat} {n cells slots : Nat} {V : vT} {own : oT} {h : hp_T} (hn : n < 512) (hL : L ≤ 3072) (h6 : 6 * n + 6 ≤ L) (hc : cells + 8 ≤ 601024) (hs : slots + 200 ≤ 7293034) (I : iv D x y ou A n V own h) (K : ∀ (V2 : vT) (own2 : oT) (h2 : hp_T), iv D x y ou A (n + 1) V2 own2 h2 → Wk p l e room_1 s m args below meth c 7 D HB Q h2 (cells + 8) (slots + 200) 1471 [(0, .ref b), (1, .ref x), (2, .ref y), (3, .ref ou), (4, .int (nI (6 * n)))] []) : Wk p l e room_1 s m args below meth c 7 D HB Q h cells slots 1157 [(0, .ref b), (1, .ref x), (2, .ref y), (3, .ref ou), (4, .int (nI (6 * n)))] [] := by
  obtain ⟨IM, IC, IW, IR, Iy, IA, Io, f, hou⟩ := id I
  have no := mq_ou IM hou
  obtain ⟨gl, ul, pl, mo, aq, tr, hx0⟩ := cr_x IC
  refine wk_run C k_law_1157 (pc2 := 1158) (lv2 := [(0, .ref b), (1, .ref x), (2, .ref y), (3, .ref ou), (4, .int (nI (6 * n)))]) (st2 := [.ref x]) rfl ?_
  refine wk_callV (cl := ("ProfileRights", T_PR, 7)) (rest := []) C (o_matched l D HB h hlt own V x IC IW) cs_LW_130 kc_PR_matched ki_PR hx0 rfl rfl rfl (Nat.le_of_ble_eq_true rfl) (Nat.le_of_ble_eq_true rfl) (Nat.le_of_ble_eq_true rfl) hc hs d_law_1158 (fun v h2 hq => ?_) (fun E h2 hq => by obtain ⟨e1, _⟩ := wq_d hq (n0_matched V) hou Io; cases e1)
  obtain ⟨e1, own2, hcr, hso, ho2, hou2⟩ := wq_d hq (n0_matched V) hou Io
  have hv := Sum.inl.inj e1; subst hv
  show Wk _ _ _ _ _ _ _ _ _ _ _ _ _ _ _ _ _ _ _ (.int (sp_matched V).2.1 :: _)
  have ic := iv_c I hso
  refine wk_run C k_law_1161 (pc2 := 1162) (lv2 := [(0, .ref b), (1, .ref x), (2, .ref y), (3, .ref ou), (4, .int (nI (6 * n)))]) (st2 := [.ref y, .int (sp_matched V).2.1]) rfl ?_
  refine wk_callV (cl := ("ProfileRightsModel", T_MD, 27)) (rest := [.int (sp_matched V).2.1]) C (m_matched l D HB h2 h2 y A V IW ic.1) cs_LW_133 kc_MD_matched ki_MD ic.1.ob rfl rfl rfl (Nat.le_of_ble_eq_true rfl) (Nat.le_of_ble_eq_true rfl) (Nat.le_of_ble_eq_true rfl) hc hs d_law_1162 (fun v2 h3 hq2 => ?_) (fun E h9 hq9 => by obtain ⟨_, _, _, _, z, _⟩ := hq9; cases z)
  obtain ⟨cd, r, V2, es, e1, hM2⟩ := hq2; cases e1
  show Wk _ _ _ _ _ _ _ _ _ _ _ _ _ _ _ _ _ _ _ (.int r :: _)
  have hW2 : wf V2 := by have z : wf (sp_matched V).2.2 := wf_0 IW 0; rw [es] at z; exact z
  have hR2 : ok_ (V2 25 0) (n + 1) := by have z := r25_matched (V := V) (by omega) IR; rw [es] at z; exact z
  have he : ∀ j, j ≠ 0 → j ≠ 26 → V2 j = (sp_matched V).2.2 j := fun j _ h26 => by rw [es]
  have iv2 := iv_m hcr hM2 ic.2.1 ic.2.2 (by rw [ho2]; exact Io) hou2 no hW2 hR2 he
  refine wk_br C d_law_1165 (P := ((sp_matched V).2.1) = r) (tgt := 1471) (rest := []) rfl (by decide) (fun c1 => ?_) (fun c1 => ?_)
  ·
    refine Wk.sub (lv2 := [(0, .ref b), (1, .ref x), (2, .ref y), (3, .ref ou), (4, .int (nI (6 * n)))]) [0, 1, 2, 3, 4] rfl ?_
    exact K _ own2 _ iv2.1
  ·
    exact absurd (by rw [es]) c1
