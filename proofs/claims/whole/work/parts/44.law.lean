theorem lg_s (a : Int64) : lg_cmp a a = 0 := by unfold lg_cmp; simp
theorem cr_x {D : va_G} {h : hp_T} {own : oT} {x : Nat} {V : vT} (k : cr D h own x V) : ∃ gl ul pl mo aq tr : Nat, h x = some (.inr (0, [.ref gl, .ref ul, .ref pl, .ref mo, .ref aq, .ref tr, .int (V 23 0)])) := by
  obtain ⟨gl, ul, pl, mo, aq, tr, _, _, _, _, _, _, _, hO, -⟩ := k
  exact ⟨gl, ul, pl, mo, aq, tr, hO.1⟩
theorem k_law_136 : px_dec code [.aload_n 1, .aload_n 0, .iload 4, .iconst 1, .iadd] 136 = true := by decide +kernel
theorem d_law_142 : decode code 142 = .ok (.iaload, 1) := by decide +kernel
theorem k_law_143 : px_dec code [.aload_n 3] 143 = true := by decide +kernel
theorem d_law_144 : decode code 144 = .ok (.invokestatic 73, 3) := by decide +kernel
theorem k_law_147 : px_dec code [.istore 5, .aload_n 2, .aload_n 0, .iload 4, .iconst 1, .iadd] 147 = true := by decide +kernel
theorem d_law_155 : decode code 155 = .ok (.iaload, 1) := by decide +kernel
theorem d_law_156 : decode code 156 = .ok (.invokevirtual 78, 3) := by decide +kernel
theorem k_law_159 : px_dec code [.istore 6, .aload_n 2] 159 = true := by decide +kernel
theorem d_law_162 : decode code 162 = .ok (.invokevirtual 79, 3) := by decide +kernel
theorem k_law_165 : px_dec code [.iload 5] 165 = true := by decide +kernel
theorem d_law_167 : decode code 167 = .ok (.if_icmp .eq 5, 3) := by decide +kernel
theorem k_law_172 : px_dec code [.iload 5] 172 = true := by decide +kernel
theorem d_law_174 : decode code 174 = .ok (.ifCond .ne 15, 3) := by decide +kernel
theorem d_law_189 : decode code 189 = .ok (.goto 1282, 3) := by decide +kernel
theorem k_law_177 : px_dec code [.aload_n 3, .iconst 0] 177 = true := by decide +kernel
theorem d_law_179 : decode code 179 = .ok (.laload, 1) := by decide +kernel
theorem k_law_180 : px_dec code [.iload 6, .i2l] 180 = true := by decide +kernel
theorem d_law_183 : decode code 183 = .ok (.lcmp, 1) := by decide +kernel
theorem d_law_184 : decode code 184 = .ok (.ifCond .eq 5, 3) := by decide +kernel
set_option maxRecDepth 100000 in
set_option maxHeartbeats 4000000 in
theorem lw_group {p : Program} {l : Launch} {e : Env} {s : State} {m : MethodId} {args : Array Value} {below : List Frame} {meth : Method} {c : Code} {Q : State → Prop} {D : va_G} {HB : Heap} {hh : List (Nat × Nat × Nat × Nat)} (C : wk_C p s m args meth c code "ProfileRightsLaw" 7 ret hh D HB) (hlt : l.stackTraces = false) {b L : Nat} {xs : Nat → Int32} (hZ : va_T .int b L (fun j => .int (xs j)) (hp_A HB) s HB) {x y ou : Nat} {A : Nat → Nat} {n cells slots : Nat} {V : vT} {own : oT} {h : hp_T} (hn : n < 512) (hL : L ≤ 3072) (h6 : 6 * n + 6 ≤ L) (hc : cells + 8 ≤ 601024) (hs : slots + 200 ≤ 7293034) (I : iv D x y ou A n V own h) (K : ∀ (V2 : vT) (own2 : oT) (h2 : hp_T), iv D x y ou A (n + 1) V2 own2 h2 → Wk p l e room_1 s m args below meth c 7 D HB Q h2 (cells + 8) (slots + 200) 1471 [(0, .ref b), (1, .ref x), (2, .ref y), (3, .ref ou), (4, .int (nI (6 * n)))] []) : Wk p l e room_1 s m args below meth c 7 D HB Q h cells slots 136 [(0, .ref b), (1, .ref x), (2, .ref y), (3, .ref ou), (4, .int (nI (6 * n)))] [] := by
  obtain ⟨IM, IC, IW, IR, Iy, IA, Io, f, hou⟩ := id I
  have no := mq_ou IM hou
  obtain ⟨gl, ul, pl, mo, aq, tr, hx0⟩ := cr_x IC
  refine wk_run C k_law_136 (pc2 := 142) (lv2 := [(0, .ref b), (1, .ref x), (2, .ref y), (3, .ref ou), (4, .int (nI (6 * n)))]) (st2 := [.int ((nI (6 * n)) + 1), .ref b, .ref x]) rfl ?_
  refine wk_tld C hZ (nI_in (c := 6 * n) (by omega) (by omega)) (show Value.int (xs (nI (6 * n)).toNatClampNeg) = .int (xs (6 * n)) by rw [nI_clamp (by omega)]) d_law_142 ?_
  refine wk_run C k_law_143 (pc2 := 144) (lv2 := [(0, .ref b), (1, .ref x), (2, .ref y), (3, .ref ou), (4, .int (nI (6 * n)))]) (st2 := [.ref ou, .int (xs (6 * n)), .ref x]) rfl ?_
  refine wk_callSW (rest := []) C (c_LW_group l D HB h hlt own V x ou (xs (6 * n + 1)) f IC IW hou Io) cs_LW_73 kc_LW_group ki_LW rfl rfl (Nat.le_of_ble_eq_true rfl) (Nat.le_of_ble_eq_true rfl) (Nat.le_of_ble_eq_true rfl) hc hs d_law_144 (fun v h2 hq => ?_) (fun E h2 hq => by obtain ⟨_, _, z, _⟩ := hq; cases z)
  obtain ⟨own2, f2, e1, hcr, hso, ho2, hou2, hf2⟩ := hq; cases e1
  show Wk _ _ _ _ _ _ _ _ _ _ _ _ _ _ _ _ _ _ _ (.int (sp_group V (xs (6 * n + 1))).1 :: _)
  have ic := iv_c I hso
  refine wk_run C k_law_147 (pc2 := 155) (lv2 := [(5, .int (sp_group V (xs (6 * n + 1))).1), (0, .ref b), (1, .ref x), (2, .ref y), (3, .ref ou), (4, .int (nI (6 * n)))]) (st2 := [.int ((nI (6 * n)) + 1), .ref b, .ref y]) rfl ?_
  refine wk_tld C hZ (nI_in (c := 6 * n) (by omega) (by omega)) (show Value.int (xs (nI (6 * n)).toNatClampNeg) = .int (xs (6 * n)) by rw [nI_clamp (by omega)]) d_law_155 ?_
  refine wk_callV (cl := ("ProfileRightsModel", T_MD, 27)) (rest := []) C (m_group l D HB h2 h2 y A V (xs (6 * n + 1)) IW ic.1) cs_LW_78 kc_MD_group ki_MD ic.1.ob rfl rfl rfl (Nat.le_of_ble_eq_true rfl) (Nat.le_of_ble_eq_true rfl) (Nat.le_of_ble_eq_true rfl) hc hs d_law_156 (fun v2 h3 hq2 => ?_) (fun E h9 hq9 => by obtain ⟨_, _, _, _, z, _⟩ := hq9; cases z)
  obtain ⟨cd, r, V2, es, e1, hM2⟩ := hq2; cases e1
  show Wk _ _ _ _ _ _ _ _ _ _ _ _ _ _ _ _ _ _ _ (.int r :: _)
  have hW2 : wf V2 := by have z : wf (sp_group V (xs (6 * n + 1))).2.2 := wf_group IW; rw [es] at z; exact z
  have hR2 : ok_ (V2 25 0) (n + 1) := by have z := r25_group (V := V) (xs (6 * n + 1)) (by omega) IR; rw [es] at z; exact z
  have he : ∀ j, j ≠ 0 → j ≠ 26 → V2 j = (sp_group V (xs (6 * n + 1))).2.2 j := fun j _ h26 => by rw [es]
  have ecd : V2 0 0 = (sp_group V (xs (6 * n + 1))).1 := by have z := cd_group V (xs (6 * n + 1)); rw [es] at z ⊢; exact z
  have er : (sp_group V (xs (6 * n + 1))).2.1 = r := by rw [es]
  refine wk_run C k_law_159 (pc2 := 162) (lv2 := [(6, .int r), (5, .int (sp_group V (xs (6 * n + 1))).1), (0, .ref b), (1, .ref x), (2, .ref y), (3, .ref ou), (4, .int (nI (6 * n)))]) (st2 := [.ref y]) rfl ?_
  refine wk_callV (cl := ("ProfileRightsModel", T_MD, 27)) (rest := []) C (c_MD_thrown l D HB h3 h2 y A V2 hM2) cs_LW_79 kc_MD_thrown ki_MD hM2.ob rfl rfl rfl (Nat.le_of_ble_eq_true rfl) (Nat.le_of_ble_eq_true rfl) (Nat.le_of_ble_eq_true rfl) hc hs d_law_162 (fun v3 h4 hq3 => ?_) (fun E h9 hq9 => by obtain ⟨_, _, _, _, z, _⟩ := hq9; cases z)
  obtain ⟨cd3, r3, V3, es3, e1, hM3⟩ := hq3; cases e1; cases es3
  show Wk _ _ _ _ _ _ _ _ _ _ _ _ _ _ _ _ _ _ _ (.int (V2 0 0) :: _)
  have iv2 := iv_m hcr hM3 ic.2.1 ic.2.2 (by rw [ho2]; exact Io) hou2 no hW2 hR2 he
  refine wk_run C k_law_165 (pc2 := 167) (lv2 := [(6, .int r), (5, .int (sp_group V (xs (6 * n + 1))).1), (0, .ref b), (1, .ref x), (2, .ref y), (3, .ref ou), (4, .int (nI (6 * n)))]) (st2 := [.int (sp_group V (xs (6 * n + 1))).1, .int (V2 0 0)]) rfl ?_
  refine wk_br C d_law_167 (P := (V2 0 0) = ((sp_group V (xs (6 * n + 1))).1)) (tgt := 172) (rest := []) rfl (by decide) (fun c1 => ?_) (fun c1 => ?_)
  ·
    refine wk_run C k_law_172 (pc2 := 174) (lv2 := [(6, .int r), (5, .int (sp_group V (xs (6 * n + 1))).1), (0, .ref b), (1, .ref x), (2, .ref y), (3, .ref ou), (4, .int (nI (6 * n)))]) (st2 := [.int (sp_group V (xs (6 * n + 1))).1]) rfl ?_
    refine wk_br C d_law_174 (P := ¬ ((sp_group V (xs (6 * n + 1))).1) = 0) (tgt := 189) (rest := []) rfl (by decide) (fun c2 => ?_) (fun c2 => ?_)
    ·
      refine wk_goto C d_law_189 (tgt := 1471) (by decide) ?_
      refine Wk.sub (lv2 := [(0, .ref b), (1, .ref x), (2, .ref y), (3, .ref ou), (4, .int (nI (6 * n)))]) [2, 3, 4, 5, 6] rfl ?_
      exact K _ own2 _ iv2.1
    ·
      have hf3 := hf2 (Classical.not_not.mp c2)
      refine wk_run C k_law_177 (pc2 := 179) (lv2 := [(6, .int r), (5, .int (sp_group V (xs (6 * n + 1))).1), (0, .ref b), (1, .ref x), (2, .ref y), (3, .ref ou), (4, .int (nI (6 * n)))]) (st2 := [.int 0, .ref ou]) rfl ?_
      refine wk_lald C iv2.2 (nI_in (c := 0) (by decide) (by decide)) d_law_179 ?_
      show Wk _ _ _ _ _ _ _ _ _ _ _ _ _ _ _ _ _ _ _ (.long (f2 0) :: _)
      rw [hf3, er]
      refine wk_run C k_law_180 (pc2 := 183) (lv2 := [(6, .int r), (5, .int (sp_group V (xs (6 * n + 1))).1), (0, .ref b), (1, .ref x), (2, .ref y), (3, .ref ou), (4, .int (nI (6 * n)))]) (st2 := [.long r.toInt64, .long r.toInt64]) rfl ?_
      refine wk_lcmp C d_law_183 ?_
      refine wk_br C d_law_184 (P := (lg_cmp r.toInt64 r.toInt64) = 0) (tgt := 189) (rest := []) rfl (by decide) (fun c4 => ?_) (fun c4 => ?_)
      ·
        refine wk_goto C d_law_189 (tgt := 1471) (by decide) ?_
        refine Wk.sub (lv2 := [(0, .ref b), (1, .ref x), (2, .ref y), (3, .ref ou), (4, .int (nI (6 * n)))]) [2, 3, 4, 5, 6] rfl ?_
        exact K _ own2 _ iv2.1
      ·
        exact absurd (lg_s _) c4
  ·
    exact absurd ecd c1
theorem k_law_192 : px_dec code [.aload_n 1, .aload_n 0, .iload 4, .iconst 1, .iadd] 192 = true := by decide +kernel
theorem d_law_198 : decode code 198 = .ok (.iaload, 1) := by decide +kernel
theorem k_law_199 : px_dec code [.aload_n 0, .iload 4, .iconst 2, .iadd] 199 = true := by decide +kernel
theorem d_law_204 : decode code 204 = .ok (.iaload, 1) := by decide +kernel
theorem k_law_205 : px_dec code [.aload_n 3] 205 = true := by decide +kernel
theorem d_law_206 : decode code 206 = .ok (.invokestatic 83, 3) := by decide +kernel
theorem k_law_209 : px_dec code [.istore 5, .aload_n 2, .aload_n 0, .iload 4, .iconst 1, .iadd] 209 = true := by decide +kernel
theorem d_law_217 : decode code 217 = .ok (.iaload, 1) := by decide +kernel
theorem k_law_218 : px_dec code [.aload_n 0, .iload 4, .iconst 2, .iadd] 218 = true := by decide +kernel
theorem d_law_223 : decode code 223 = .ok (.iaload, 1) := by decide +kernel
theorem d_law_224 : decode code 224 = .ok (.invokevirtual 86, 3) := by decide +kernel
theorem k_law_227 : px_dec code [.istore 6, .aload_n 2] 227 = true := by decide +kernel
theorem d_law_230 : decode code 230 = .ok (.invokevirtual 79, 3) := by decide +kernel
theorem k_law_233 : px_dec code [.iload 5] 233 = true := by decide +kernel
theorem d_law_235 : decode code 235 = .ok (.if_icmp .eq 5, 3) := by decide +kernel
theorem k_law_240 : px_dec code [.iload 5] 240 = true := by decide +kernel
theorem d_law_242 : decode code 242 = .ok (.ifCond .ne 15, 3) := by decide +kernel
theorem d_law_257 : decode code 257 = .ok (.goto 1214, 3) := by decide +kernel
theorem k_law_245 : px_dec code [.aload_n 3, .iconst 0] 245 = true := by decide +kernel
theorem d_law_247 : decode code 247 = .ok (.laload, 1) := by decide +kernel
theorem k_law_248 : px_dec code [.iload 6, .i2l] 248 = true := by decide +kernel
theorem d_law_251 : decode code 251 = .ok (.lcmp, 1) := by decide +kernel
theorem d_law_252 : decode code 252 = .ok (.ifCond .eq 5, 3) := by decide +kernel
set_option maxRecDepth 100000 in
set_option maxHeartbeats 4000000 in
theorem lw_move {p : Program} {l : Launch} {e : Env} {s : State} {m : MethodId} {args : Array Value} {below : List Frame} {meth : Method} {c : Code} {Q : State → Prop} {D : va_G} {HB : Heap} {hh : List (Nat × Nat × Nat × Nat)} (C : wk_C p s m args meth c code "ProfileRightsLaw" 7 ret hh D HB) (hlt : l.stackTraces = false) {b L : Nat} {xs : Nat → Int32} (hZ : va_T .int b L (fun j => .int (xs j)) (hp_A HB) s HB) {x y ou : Nat} {A : Nat → Nat} {n cells slots : Nat} {V : vT} {own : oT} {h : hp_T} (hn : n < 512) (hL : L ≤ 3072) (h6 : 6 * n + 6 ≤ L) (hc : cells + 8 ≤ 601024) (hs : slots + 200 ≤ 7293034) (I : iv D x y ou A n V own h) (K : ∀ (V2 : vT) (own2 : oT) (h2 : hp_T), iv D x y ou A (n + 1) V2 own2 h2 → Wk p l e room_1 s m args below meth c 7 D HB Q h2 (cells + 8) (slots + 200) 1471 [(0, .ref b), (1, .ref x), (2, .ref y), (3, .ref ou), (4, .int (nI (6 * n)))] []) : Wk p l e room_1 s m args below meth c 7 D HB Q h cells slots 192 [(0, .ref b), (1, .ref x), (2, .ref y), (3, .ref ou), (4, .int (nI (6 * n)))] [] := by
  obtain ⟨IM, IC, IW, IR, Iy, IA, Io, f, hou⟩ := id I
  have no := mq_ou IM hou
  obtain ⟨gl, ul, pl, mo, aq, tr, hx0⟩ := cr_x IC
  refine wk_run C k_law_192 (pc2 := 198) (lv2 := [(0, .ref b), (1, .ref x), (2, .ref y), (3, .ref ou), (4, .int (nI (6 * n)))]) (st2 := [.int ((nI (6 * n)) + 1), .ref b, .ref x]) rfl ?_
  refine wk_tld C hZ (nI_in (c := 6 * n) (by omega) (by omega)) (show Value.int (xs (nI (6 * n)).toNatClampNeg) = .int (xs (6 * n)) by rw [nI_clamp (by omega)]) d_law_198 ?_
  refine wk_run C k_law_199 (pc2 := 204) (lv2 := [(0, .ref b), (1, .ref x), (2, .ref y), (3, .ref ou), (4, .int (nI (6 * n)))]) (st2 := [.int ((nI (6 * n)) + 2), .ref b, .int (xs (6 * n)), .ref x]) rfl ?_
  refine wk_tld C hZ (nI_in (c := 6 * n) (by omega) (by omega)) (show Value.int (xs (nI (6 * n)).toNatClampNeg) = .int (xs (6 * n)) by rw [nI_clamp (by omega)]) d_law_204 ?_
  refine wk_run C k_law_205 (pc2 := 206) (lv2 := [(0, .ref b), (1, .ref x), (2, .ref y), (3, .ref ou), (4, .int (nI (6 * n)))]) (st2 := [.ref ou, .int (xs (6 * n)), .int (xs (6 * n)), .ref x]) rfl ?_
  refine wk_callSW (rest := []) C (c_LW_move l D HB h hlt own V x ou (xs (6 * n + 1)) (xs (6 * n + 2)) f IC IW hou Io) cs_LW_83 kc_LW_move ki_LW rfl rfl (Nat.le_of_ble_eq_true rfl) (Nat.le_of_ble_eq_true rfl) (Nat.le_of_ble_eq_true rfl) hc hs d_law_206 (fun v h2 hq => ?_) (fun E h2 hq => by obtain ⟨_, _, z, _⟩ := hq; cases z)
  obtain ⟨own2, f2, e1, hcr, hso, ho2, hou2, hf2⟩ := hq; cases e1
  show Wk _ _ _ _ _ _ _ _ _ _ _ _ _ _ _ _ _ _ _ (.int (sp_move V (xs (6 * n + 1)) (xs (6 * n + 2))).1 :: _)
  have ic := iv_c I hso
  refine wk_run C k_law_209 (pc2 := 217) (lv2 := [(5, .int (sp_move V (xs (6 * n + 1)) (xs (6 * n + 2))).1), (0, .ref b), (1, .ref x), (2, .ref y), (3, .ref ou), (4, .int (nI (6 * n)))]) (st2 := [.int ((nI (6 * n)) + 1), .ref b, .ref y]) rfl ?_
  refine wk_tld C hZ (nI_in (c := 6 * n) (by omega) (by omega)) (show Value.int (xs (nI (6 * n)).toNatClampNeg) = .int (xs (6 * n)) by rw [nI_clamp (by omega)]) d_law_217 ?_
  refine wk_run C k_law_218 (pc2 := 223) (lv2 := [(5, .int (sp_move V (xs (6 * n + 1)) (xs (6 * n + 2))).1), (0, .ref b), (1, .ref x), (2, .ref y), (3, .ref ou), (4, .int (nI (6 * n)))]) (st2 := [.int ((nI (6 * n)) + 2), .ref b, .int (xs (6 * n)), .ref y]) rfl ?_
  refine wk_tld C hZ (nI_in (c := 6 * n) (by omega) (by omega)) (show Value.int (xs (nI (6 * n)).toNatClampNeg) = .int (xs (6 * n)) by rw [nI_clamp (by omega)]) d_law_223 ?_
  refine wk_callV (cl := ("ProfileRightsModel", T_MD, 27)) (rest := []) C (m_move l D HB h2 h2 y A V (xs (6 * n + 1)) (xs (6 * n + 2)) IW ic.1) cs_LW_86 kc_MD_move ki_MD ic.1.ob rfl rfl rfl (Nat.le_of_ble_eq_true rfl) (Nat.le_of_ble_eq_true rfl) (Nat.le_of_ble_eq_true rfl) hc hs d_law_224 (fun v2 h3 hq2 => ?_) (fun E h9 hq9 => by obtain ⟨_, _, _, _, z, _⟩ := hq9; cases z)
  obtain ⟨cd, r, V2, es, e1, hM2⟩ := hq2; cases e1
  show Wk _ _ _ _ _ _ _ _ _ _ _ _ _ _ _ _ _ _ _ (.int r :: _)
  have hW2 : wf V2 := by have z : wf (sp_move V (xs (6 * n + 1)) (xs (6 * n + 2))).2.2 := wf_move IW; rw [es] at z; exact z
  have hR2 : ok_ (V2 25 0) (n + 1) := by have z := r25_move (V := V) (xs (6 * n + 1)) (xs (6 * n + 2)) (by omega) IR; rw [es] at z; exact z
  have he : ∀ j, j ≠ 0 → j ≠ 26 → V2 j = (sp_move V (xs (6 * n + 1)) (xs (6 * n + 2))).2.2 j := fun j _ h26 => by rw [es]
  have ecd : V2 0 0 = (sp_move V (xs (6 * n + 1)) (xs (6 * n + 2))).1 := by have z := cd_move V (xs (6 * n + 1)) (xs (6 * n + 2)); rw [es] at z ⊢; exact z
  have er : (sp_move V (xs (6 * n + 1)) (xs (6 * n + 2))).2.1 = r := by rw [es]
  refine wk_run C k_law_227 (pc2 := 230) (lv2 := [(6, .int r), (5, .int (sp_move V (xs (6 * n + 1)) (xs (6 * n + 2))).1), (0, .ref b), (1, .ref x), (2, .ref y), (3, .ref ou), (4, .int (nI (6 * n)))]) (st2 := [.ref y]) rfl ?_
  refine wk_callV (cl := ("ProfileRightsModel", T_MD, 27)) (rest := []) C (c_MD_thrown l D HB h3 h2 y A V2 hM2) cs_LW_79 kc_MD_thrown ki_MD hM2.ob rfl rfl rfl (Nat.le_of_ble_eq_true rfl) (Nat.le_of_ble_eq_true rfl) (Nat.le_of_ble_eq_true rfl) hc hs d_law_230 (fun v3 h4 hq3 => ?_) (fun E h9 hq9 => by obtain ⟨_, _, _, _, z, _⟩ := hq9; cases z)
  obtain ⟨cd3, r3, V3, es3, e1, hM3⟩ := hq3; cases e1; cases es3
  show Wk _ _ _ _ _ _ _ _ _ _ _ _ _ _ _ _ _ _ _ (.int (V2 0 0) :: _)
  have iv2 := iv_m hcr hM3 ic.2.1 ic.2.2 (by rw [ho2]; exact Io) hou2 no hW2 hR2 he
  refine wk_run C k_law_233 (pc2 := 235) (lv2 := [(6, .int r), (5, .int (sp_move V (xs (6 * n + 1)) (xs (6 * n + 2))).1), (0, .ref b), (1, .ref x), (2, .ref y), (3, .ref ou), (4, .int (nI (6 * n)))]) (st2 := [.int (sp_move V (xs (6 * n + 1)) (xs (6 * n + 2))).1, .int (V2 0 0)]) rfl ?_
  refine wk_br C d_law_235 (P := (V2 0 0) = ((sp_move V (xs (6 * n + 1)) (xs (6 * n + 2))).1)) (tgt := 240) (rest := []) rfl (by decide) (fun c1 => ?_) (fun c1 => ?_)
  ·
    refine wk_run C k_law_240 (pc2 := 242) (lv2 := [(6, .int r), (5, .int (sp_move V (xs (6 * n + 1)) (xs (6 * n + 2))).1), (0, .ref b), (1, .ref x), (2, .ref y), (3, .ref ou), (4, .int (nI (6 * n)))]) (st2 := [.int (sp_move V (xs (6 * n + 1)) (xs (6 * n + 2))).1]) rfl ?_
    refine wk_br C d_law_242 (P := ¬ ((sp_move V (xs (6 * n + 1)) (xs (6 * n + 2))).1) = 0) (tgt := 257) (rest := []) rfl (by decide) (fun c2 => ?_) (fun c2 => ?_)
    ·
      refine wk_goto C d_law_257 (tgt := 1471) (by decide) ?_
      refine Wk.sub (lv2 := [(0, .ref b), (1, .ref x), (2, .ref y), (3, .ref ou), (4, .int (nI (6 * n)))]) [2, 3, 4, 5, 6] rfl ?_
      exact K _ own2 _ iv2.1
    ·
      have hf3 := hf2 (Classical.not_not.mp c2)
      refine wk_run C k_law_245 (pc2 := 247) (lv2 := [(6, .int r), (5, .int (sp_move V (xs (6 * n + 1)) (xs (6 * n + 2))).1), (0, .ref b), (1, .ref x), (2, .ref y), (3, .ref ou), (4, .int (nI (6 * n)))]) (st2 := [.int 0, .ref ou]) rfl ?_
      refine wk_lald C iv2.2 (nI_in (c := 0) (by decide) (by decide)) d_law_247 ?_
      show Wk _ _ _ _ _ _ _ _ _ _ _ _ _ _ _ _ _ _ _ (.long (f2 0) :: _)
      rw [hf3, er]
      refine wk_run C k_law_248 (pc2 := 251) (lv2 := [(6, .int r), (5, .int (sp_move V (xs (6 * n + 1)) (xs (6 * n + 2))).1), (0, .ref b), (1, .ref x), (2, .ref y), (3, .ref ou), (4, .int (nI (6 * n)))]) (st2 := [.long r.toInt64, .long r.toInt64]) rfl ?_
      refine wk_lcmp C d_law_251 ?_
      refine wk_br C d_law_252 (P := (lg_cmp r.toInt64 r.toInt64) = 0) (tgt := 257) (rest := []) rfl (by decide) (fun c4 => ?_) (fun c4 => ?_)
      ·
        refine wk_goto C d_law_257 (tgt := 1471) (by decide) ?_
        refine Wk.sub (lv2 := [(0, .ref b), (1, .ref x), (2, .ref y), (3, .ref ou), (4, .int (nI (6 * n)))]) [2, 3, 4, 5, 6] rfl ?_
        exact K _ own2 _ iv2.1
      ·
        exact absurd (lg_s _) c4
  ·
    exact absurd ecd c1
theorem k_law_260 : px_dec code [.aload_n 1, .aload_n 0, .iload 4, .iconst 1, .iadd] 260 = true := by decide +kernel
theorem d_law_266 : decode code 266 = .ok (.iaload, 1) := by decide +kernel
theorem k_law_267 : px_dec code [.aload_n 3] 267 = true := by decide +kernel
theorem d_law_268 : decode code 268 = .ok (.invokestatic 87, 3) := by decide +kernel
theorem k_law_271 : px_dec code [.istore 5, .aload_n 2, .aload_n 0, .iload 4, .iconst 1, .iadd] 271 = true := by decide +kernel
theorem d_law_279 : decode code 279 = .ok (.iaload, 1) := by decide +kernel
theorem d_law_280 : decode code 280 = .ok (.invokevirtual 89, 3) := by decide +kernel
theorem k_law_283 : px_dec code [.istore 6, .aload_n 2] 283 = true := by decide +kernel
theorem d_law_286 : decode code 286 = .ok (.invokevirtual 79, 3) := by decide +kernel
theorem k_law_289 : px_dec code [.iload 5] 289 = true := by decide +kernel
theorem d_law_291 : decode code 291 = .ok (.if_icmp .eq 5, 3) := by decide +kernel
theorem k_law_296 : px_dec code [.iload 5] 296 = true := by decide +kernel
theorem d_law_298 : decode code 298 = .ok (.ifCond .ne 15, 3) := by decide +kernel
theorem d_law_313 : decode code 313 = .ok (.goto 1158, 3) := by decide +kernel
theorem k_law_301 : px_dec code [.aload_n 3, .iconst 0] 301 = true := by decide +kernel
theorem d_law_303 : decode code 303 = .ok (.laload, 1) := by decide +kernel
theorem k_law_304 : px_dec code [.iload 6, .i2l] 304 = true := by decide +kernel
theorem d_law_307 : decode code 307 = .ok (.lcmp, 1) := by decide +kernel
theorem d_law_308 : decode code 308 = .ok (.ifCond .eq 5, 3) := by decide +kernel
set_option maxRecDepth 100000 in
set_option maxHeartbeats 4000000 in
theorem lw_user {p : Program} {l : Launch} {e : Env} {s : State} {m : MethodId} {args : Array Value} {below : List Frame} {meth : Method} {c : Code} {Q : State → Prop} {D : va_G} {HB : Heap} {hh : List (Nat × Nat × Nat × Nat)} (C : wk_C p s m args meth c code "ProfileRightsLaw" 7 ret hh D HB) (hlt : l.stackTraces = false) {b L : Nat} {xs : Nat → Int32} (hZ : va_T .int b L (fun j => .int (xs j)) (hp_A HB) s HB) {x y ou : Nat} {A : Nat → Nat} {n cells slots : Nat} {V : vT} {own : oT} {h : hp_T} (hn : n < 512) (hL : L ≤ 3072) (h6 : 6 * n + 6 ≤ L) (hc : cells + 8 ≤ 601024) (hs : slots + 200 ≤ 7293034) (I : iv D x y ou A n V own h) (K : ∀ (V2 : vT) (own2 : oT) (h2 : hp_T), iv D x y ou A (n + 1) V2 own2 h2 → Wk p l e room_1 s m args below meth c 7 D HB Q h2 (cells + 8) (slots + 200) 1471 [(0, .ref b), (1, .ref x), (2, .ref y), (3, .ref ou), (4, .int (nI (6 * n)))] []) : Wk p l e room_1 s m args below meth c 7 D HB Q h cells slots 260 [(0, .ref b), (1, .ref x), (2, .ref y), (3, .ref ou), (4, .int (nI (6 * n)))] [] := by
  obtain ⟨IM, IC, IW, IR, Iy, IA, Io, f, hou⟩ := id I
  have no := mq_ou IM hou
  obtain ⟨gl, ul, pl, mo, aq, tr, hx0⟩ := cr_x IC
  refine wk_run C k_law_260 (pc2 := 266) (lv2 := [(0, .ref b), (1, .ref x), (2, .ref y), (3, .ref ou), (4, .int (nI (6 * n)))]) (st2 := [.int ((nI (6 * n)) + 1), .ref b, .ref x]) rfl ?_
  refine wk_tld C hZ (nI_in (c := 6 * n) (by omega) (by omega)) (show Value.int (xs (nI (6 * n)).toNatClampNeg) = .int (xs (6 * n)) by rw [nI_clamp (by omega)]) d_law_266 ?_
  refine wk_run C k_law_267 (pc2 := 268) (lv2 := [(0, .ref b), (1, .ref x), (2, .ref y), (3, .ref ou), (4, .int (nI (6 * n)))]) (st2 := [.ref ou, .int (xs (6 * n)), .ref x]) rfl ?_
  refine wk_callSW (rest := []) C (c_LW_user l D HB h hlt own V x ou (xs (6 * n + 1)) f IC IW hou Io) cs_LW_87 kc_LW_user ki_LW rfl rfl (Nat.le_of_ble_eq_true rfl) (Nat.le_of_ble_eq_true rfl) (Nat.le_of_ble_eq_true rfl) hc hs d_law_268 (fun v h2 hq => ?_) (fun E h2 hq => by obtain ⟨_, _, z, _⟩ := hq; cases z)
  obtain ⟨own2, f2, e1, hcr, hso, ho2, hou2, hf2⟩ := hq; cases e1
  show Wk _ _ _ _ _ _ _ _ _ _ _ _ _ _ _ _ _ _ _ (.int (sp_user V (xs (6 * n + 1))).1 :: _)
  have ic := iv_c I hso
  refine wk_run C k_law_271 (pc2 := 279) (lv2 := [(5, .int (sp_user V (xs (6 * n + 1))).1), (0, .ref b), (1, .ref x), (2, .ref y), (3, .ref ou), (4, .int (nI (6 * n)))]) (st2 := [.int ((nI (6 * n)) + 1), .ref b, .ref y]) rfl ?_
  refine wk_tld C hZ (nI_in (c := 6 * n) (by omega) (by omega)) (show Value.int (xs (nI (6 * n)).toNatClampNeg) = .int (xs (6 * n)) by rw [nI_clamp (by omega)]) d_law_279 ?_
  refine wk_callV (cl := ("ProfileRightsModel", T_MD, 27)) (rest := []) C (m_user l D HB h2 h2 y A V (xs (6 * n + 1)) IW ic.1) cs_LW_89 kc_MD_user ki_MD ic.1.ob rfl rfl rfl (Nat.le_of_ble_eq_true rfl) (Nat.le_of_ble_eq_true rfl) (Nat.le_of_ble_eq_true rfl) hc hs d_law_280 (fun v2 h3 hq2 => ?_) (fun E h9 hq9 => by obtain ⟨_, _, _, _, z, _⟩ := hq9; cases z)
  obtain ⟨cd, r, V2, es, e1, hM2⟩ := hq2; cases e1
  show Wk _ _ _ _ _ _ _ _ _ _ _ _ _ _ _ _ _ _ _ (.int r :: _)
  have hW2 : wf V2 := by have z : wf (sp_user V (xs (6 * n + 1))).2.2 := wf_user IW; rw [es] at z; exact z
  have hR2 : ok_ (V2 25 0) (n + 1) := by have z := r25_user (V := V) (xs (6 * n + 1)) (by omega) IR; rw [es] at z; exact z
  have he : ∀ j, j ≠ 0 → j ≠ 26 → V2 j = (sp_user V (xs (6 * n + 1))).2.2 j := fun j _ h26 => by rw [es]
  have ecd : V2 0 0 = (sp_user V (xs (6 * n + 1))).1 := by have z := cd_user V (xs (6 * n + 1)); rw [es] at z ⊢; exact z
  have er : (sp_user V (xs (6 * n + 1))).2.1 = r := by rw [es]
  refine wk_run C k_law_283 (pc2 := 286) (lv2 := [(6, .int r), (5, .int (sp_user V (xs (6 * n + 1))).1), (0, .ref b), (1, .ref x), (2, .ref y), (3, .ref ou), (4, .int (nI (6 * n)))]) (st2 := [.ref y]) rfl ?_
  refine wk_callV (cl := ("ProfileRightsModel", T_MD, 27)) (rest := []) C (c_MD_thrown l D HB h3 h2 y A V2 hM2) cs_LW_79 kc_MD_thrown ki_MD hM2.ob rfl rfl rfl (Nat.le_of_ble_eq_true rfl) (Nat.le_of_ble_eq_true rfl) (Nat.le_of_ble_eq_true rfl) hc hs d_law_286 (fun v3 h4 hq3 => ?_) (fun E h9 hq9 => by obtain ⟨_, _, _, _, z, _⟩ := hq9; cases z)
  obtain ⟨cd3, r3, V3, es3, e1, hM3⟩ := hq3; cases e1; cases es3
  show Wk _ _ _ _ _ _ _ _ _ _ _ _ _ _ _ _ _ _ _ (.int (V2 0 0) :: _)
  have iv2 := iv_m hcr hM3 ic.2.1 ic.2.2 (by rw [ho2]; exact Io) hou2 no hW2 hR2 he
  refine wk_run C k_law_289 (pc2 := 291) (lv2 := [(6, .int r), (5, .int (sp_user V (xs (6 * n + 1))).1), (0, .ref b), (1, .ref x), (2, .ref y), (3, .ref ou), (4, .int (nI (6 * n)))]) (st2 := [.int (sp_user V (xs (6 * n + 1))).1, .int (V2 0 0)]) rfl ?_
  refine wk_br C d_law_291 (P := (V2 0 0) = ((sp_user V (xs (6 * n + 1))).1)) (tgt := 296) (rest := []) rfl (by decide) (fun c1 => ?_) (fun c1 => ?_)
  ·
    refine wk_run C k_law_296 (pc2 := 298) (lv2 := [(6, .int r), (5, .int (sp_user V (xs (6 * n + 1))).1), (0, .ref b), (1, .ref x), (2, .ref y), (3, .ref ou), (4, .int (nI (6 * n)))]) (st2 := [.int (sp_user V (xs (6 * n + 1))).1]) rfl ?_
    refine wk_br C d_law_298 (P := ¬ ((sp_user V (xs (6 * n + 1))).1) = 0) (tgt := 313) (rest := []) rfl (by decide) (fun c2 => ?_) (fun c2 => ?_)
    ·
      refine wk_goto C d_law_313 (tgt := 1471) (by decide) ?_
      refine Wk.sub (lv2 := [(0, .ref b), (1, .ref x), (2, .ref y), (3, .ref ou), (4, .int (nI (6 * n)))]) [2, 3, 4, 5, 6] rfl ?_
      exact K _ own2 _ iv2.1
    ·
      have hf3 := hf2 (Classical.not_not.mp c2)
      refine wk_run C k_law_301 (pc2 := 303) (lv2 := [(6, .int r), (5, .int (sp_user V (xs (6 * n + 1))).1), (0, .ref b), (1, .ref x), (2, .ref y), (3, .ref ou), (4, .int (nI (6 * n)))]) (st2 := [.int 0, .ref ou]) rfl ?_
      refine wk_lald C iv2.2 (nI_in (c := 0) (by decide) (by decide)) d_law_303 ?_
      show Wk _ _ _ _ _ _ _ _ _ _ _ _ _ _ _ _ _ _ _ (.long (f2 0) :: _)
      rw [hf3, er]
      refine wk_run C k_law_304 (pc2 := 307) (lv2 := [(6, .int r), (5, .int (sp_user V (xs (6 * n + 1))).1), (0, .ref b), (1, .ref x), (2, .ref y), (3, .ref ou), (4, .int (nI (6 * n)))]) (st2 := [.long r.toInt64, .long r.toInt64]) rfl ?_
      refine wk_lcmp C d_law_307 ?_
      refine wk_br C d_law_308 (P := (lg_cmp r.toInt64 r.toInt64) = 0) (tgt := 313) (rest := []) rfl (by decide) (fun c4 => ?_) (fun c4 => ?_)
      ·
        refine wk_goto C d_law_313 (tgt := 1471) (by decide) ?_
        refine Wk.sub (lv2 := [(0, .ref b), (1, .ref x), (2, .ref y), (3, .ref ou), (4, .int (nI (6 * n)))]) [2, 3, 4, 5, 6] rfl ?_
        exact K _ own2 _ iv2.1
      ·
        exact absurd (lg_s _) c4
  ·
    exact absurd ecd c1
theorem k_law_316 : px_dec code [.aload_n 1, .aload_n 0, .iload 4, .iconst 1, .iadd] 316 = true := by decide +kernel
theorem d_law_322 : decode code 322 = .ok (.iaload, 1) := by decide +kernel
theorem k_law_323 : px_dec code [.aload_n 0, .iload 4, .iconst 2, .iadd] 323 = true := by decide +kernel
theorem d_law_328 : decode code 328 = .ok (.iaload, 1) := by decide +kernel
theorem k_law_329 : px_dec code [.aload_n 3] 329 = true := by decide +kernel
theorem d_law_330 : decode code 330 = .ok (.invokestatic 90, 3) := by decide +kernel
theorem k_law_333 : px_dec code [.istore 5, .aload_n 2, .aload_n 0, .iload 4, .iconst 1, .iadd] 333 = true := by decide +kernel
theorem d_law_341 : decode code 341 = .ok (.iaload, 1) := by decide +kernel
theorem k_law_342 : px_dec code [.aload_n 0, .iload 4, .iconst 2, .iadd] 342 = true := by decide +kernel
theorem d_law_347 : decode code 347 = .ok (.iaload, 1) := by decide +kernel
theorem d_law_348 : decode code 348 = .ok (.invokevirtual 92, 3) := by decide +kernel
theorem k_law_351 : px_dec code [.istore 6, .aload_n 2] 351 = true := by decide +kernel
theorem d_law_354 : decode code 354 = .ok (.invokevirtual 79, 3) := by decide +kernel
theorem k_law_357 : px_dec code [.iload 5] 357 = true := by decide +kernel
theorem d_law_359 : decode code 359 = .ok (.if_icmp .eq 5, 3) := by decide +kernel
theorem k_law_364 : px_dec code [.iload 5] 364 = true := by decide +kernel
theorem d_law_366 : decode code 366 = .ok (.ifCond .ne 15, 3) := by decide +kernel
theorem d_law_381 : decode code 381 = .ok (.goto 1090, 3) := by decide +kernel
theorem k_law_369 : px_dec code [.aload_n 3, .iconst 0] 369 = true := by decide +kernel
theorem d_law_371 : decode code 371 = .ok (.laload, 1) := by decide +kernel
theorem k_law_372 : px_dec code [.iload 6, .i2l] 372 = true := by decide +kernel
theorem d_law_375 : decode code 375 = .ok (.lcmp, 1) := by decide +kernel
theorem d_law_376 : decode code 376 = .ok (.ifCond .eq 5, 3) := by decide +kernel
set_option maxRecDepth 100000 in
set_option maxHeartbeats 4000000 in
theorem lw_terminal {p : Program} {l : Launch} {e : Env} {s : State} {m : MethodId} {args : Array Value} {below : List Frame} {meth : Method} {c : Code} {Q : State → Prop} {D : va_G} {HB : Heap} {hh : List (Nat × Nat × Nat × Nat)} (C : wk_C p s m args meth c code "ProfileRightsLaw" 7 ret hh D HB) (hlt : l.stackTraces = false) {b L : Nat} {xs : Nat → Int32} (hZ : va_T .int b L (fun j => .int (xs j)) (hp_A HB) s HB) {x y ou : Nat} {A : Nat → Nat} {n cells slots : Nat} {V : vT} {own : oT} {h : hp_T} (hn : n < 512) (hL : L ≤ 3072) (h6 : 6 * n + 6 ≤ L) (hc : cells + 8 ≤ 601024) (hs : slots + 200 ≤ 7293034) (I : iv D x y ou A n V own h) (K : ∀ (V2 : vT) (own2 : oT) (h2 : hp_T), iv D x y ou A (n + 1) V2 own2 h2 → Wk p l e room_1 s m args below meth c 7 D HB Q h2 (cells + 8) (slots + 200) 1471 [(0, .ref b), (1, .ref x), (2, .ref y), (3, .ref ou), (4, .int (nI (6 * n)))] []) : Wk p l e room_1 s m args below meth c 7 D HB Q h cells slots 316 [(0, .ref b), (1, .ref x), (2, .ref y), (3, .ref ou), (4, .int (nI (6 * n)))] [] := by
  obtain ⟨IM, IC, IW, IR, Iy, IA, Io, f, hou⟩ := id I
  have no := mq_ou IM hou
  obtain ⟨gl, ul, pl, mo, aq, tr, hx0⟩ := cr_x IC
  refine wk_run C k_law_316 (pc2 := 322) (lv2 := [(0, .ref b), (1, .ref x), (2, .ref y), (3, .ref ou), (4, .int (nI (6 * n)))]) (st2 := [.int ((nI (6 * n)) + 1), .ref b, .ref x]) rfl ?_
  refine wk_tld C hZ (nI_in (c := 6 * n) (by omega) (by omega)) (show Value.int (xs (nI (6 * n)).toNatClampNeg) = .int (xs (6 * n)) by rw [nI_clamp (by omega)]) d_law_322 ?_
  refine wk_run C k_law_323 (pc2 := 328) (lv2 := [(0, .ref b), (1, .ref x), (2, .ref y), (3, .ref ou), (4, .int (nI (6 * n)))]) (st2 := [.int ((nI (6 * n)) + 2), .ref b, .int (xs (6 * n)), .ref x]) rfl ?_
  refine wk_tld C hZ (nI_in (c := 6 * n) (by omega) (by omega)) (show Value.int (xs (nI (6 * n)).toNatClampNeg) = .int (xs (6 * n)) by rw [nI_clamp (by omega)]) d_law_328 ?_
  refine wk_run C k_law_329 (pc2 := 330) (lv2 := [(0, .ref b), (1, .ref x), (2, .ref y), (3, .ref ou), (4, .int (nI (6 * n)))]) (st2 := [.ref ou, .int (xs (6 * n)), .int (xs (6 * n)), .ref x]) rfl ?_
  refine wk_callSW (rest := []) C (c_LW_terminal l D HB h hlt own V x ou (xs (6 * n + 1)) (xs (6 * n + 2)) f IC IW hou Io) cs_LW_90 kc_LW_terminal ki_LW rfl rfl (Nat.le_of_ble_eq_true rfl) (Nat.le_of_ble_eq_true rfl) (Nat.le_of_ble_eq_true rfl) hc hs d_law_330 (fun v h2 hq => ?_) (fun E h2 hq => by obtain ⟨_, _, z, _⟩ := hq; cases z)
  obtain ⟨own2, f2, e1, hcr, hso, ho2, hou2, hf2⟩ := hq; cases e1
  show Wk _ _ _ _ _ _ _ _ _ _ _ _ _ _ _ _ _ _ _ (.int (sp_terminal V (xs (6 * n + 1)) (xs (6 * n + 2))).1 :: _)
  have ic := iv_c I hso
  refine wk_run C k_law_333 (pc2 := 341) (lv2 := [(5, .int (sp_terminal V (xs (6 * n + 1)) (xs (6 * n + 2))).1), (0, .ref b), (1, .ref x), (2, .ref y), (3, .ref ou), (4, .int (nI (6 * n)))]) (st2 := [.int ((nI (6 * n)) + 1), .ref b, .ref y]) rfl ?_
  refine wk_tld C hZ (nI_in (c := 6 * n) (by omega) (by omega)) (show Value.int (xs (nI (6 * n)).toNatClampNeg) = .int (xs (6 * n)) by rw [nI_clamp (by omega)]) d_law_341 ?_
  refine wk_run C k_law_342 (pc2 := 347) (lv2 := [(5, .int (sp_terminal V (xs (6 * n + 1)) (xs (6 * n + 2))).1), (0, .ref b), (1, .ref x), (2, .ref y), (3, .ref ou), (4, .int (nI (6 * n)))]) (st2 := [.int ((nI (6 * n)) + 2), .ref b, .int (xs (6 * n)), .ref y]) rfl ?_
  refine wk_tld C hZ (nI_in (c := 6 * n) (by omega) (by omega)) (show Value.int (xs (nI (6 * n)).toNatClampNeg) = .int (xs (6 * n)) by rw [nI_clamp (by omega)]) d_law_347 ?_
  refine wk_callV (cl := ("ProfileRightsModel", T_MD, 27)) (rest := []) C (m_terminal l D HB h2 h2 y A V (xs (6 * n + 1)) (xs (6 * n + 2)) IW ic.1) cs_LW_92 kc_MD_terminal ki_MD ic.1.ob rfl rfl rfl (Nat.le_of_ble_eq_true rfl) (Nat.le_of_ble_eq_true rfl) (Nat.le_of_ble_eq_true rfl) hc hs d_law_348 (fun v2 h3 hq2 => ?_) (fun E h9 hq9 => by obtain ⟨_, _, _, _, z, _⟩ := hq9; cases z)
  obtain ⟨cd, r, V2, es, e1, hM2⟩ := hq2; cases e1
  show Wk _ _ _ _ _ _ _ _ _ _ _ _ _ _ _ _ _ _ _ (.int r :: _)
  have hW2 : wf V2 := by have z : wf (sp_terminal V (xs (6 * n + 1)) (xs (6 * n + 2))).2.2 := wf_terminal IW; rw [es] at z; exact z
  have hR2 : ok_ (V2 25 0) (n + 1) := by have z := r25_terminal (V := V) (xs (6 * n + 1)) (xs (6 * n + 2)) (by omega) IR; rw [es] at z; exact z
  have he : ∀ j, j ≠ 0 → j ≠ 26 → V2 j = (sp_terminal V (xs (6 * n + 1)) (xs (6 * n + 2))).2.2 j := fun j _ h26 => by rw [es]
  have ecd : V2 0 0 = (sp_terminal V (xs (6 * n + 1)) (xs (6 * n + 2))).1 := by have z := cd_terminal V (xs (6 * n + 1)) (xs (6 * n + 2)); rw [es] at z ⊢; exact z
  have er : (sp_terminal V (xs (6 * n + 1)) (xs (6 * n + 2))).2.1 = r := by rw [es]
  refine wk_run C k_law_351 (pc2 := 354) (lv2 := [(6, .int r), (5, .int (sp_terminal V (xs (6 * n + 1)) (xs (6 * n + 2))).1), (0, .ref b), (1, .ref x), (2, .ref y), (3, .ref ou), (4, .int (nI (6 * n)))]) (st2 := [.ref y]) rfl ?_
  refine wk_callV (cl := ("ProfileRightsModel", T_MD, 27)) (rest := []) C (c_MD_thrown l D HB h3 h2 y A V2 hM2) cs_LW_79 kc_MD_thrown ki_MD hM2.ob rfl rfl rfl (Nat.le_of_ble_eq_true rfl) (Nat.le_of_ble_eq_true rfl) (Nat.le_of_ble_eq_true rfl) hc hs d_law_354 (fun v3 h4 hq3 => ?_) (fun E h9 hq9 => by obtain ⟨_, _, _, _, z, _⟩ := hq9; cases z)
  obtain ⟨cd3, r3, V3, es3, e1, hM3⟩ := hq3; cases e1; cases es3
  show Wk _ _ _ _ _ _ _ _ _ _ _ _ _ _ _ _ _ _ _ (.int (V2 0 0) :: _)
  have iv2 := iv_m hcr hM3 ic.2.1 ic.2.2 (by rw [ho2]; exact Io) hou2 no hW2 hR2 he
  refine wk_run C k_law_357 (pc2 := 359) (lv2 := [(6, .int r), (5, .int (sp_terminal V (xs (6 * n + 1)) (xs (6 * n + 2))).1), (0, .ref b), (1, .ref x), (2, .ref y), (3, .ref ou), (4, .int (nI (6 * n)))]) (st2 := [.int (sp_terminal V (xs (6 * n + 1)) (xs (6 * n + 2))).1, .int (V2 0 0)]) rfl ?_
  refine wk_br C d_law_359 (P := (V2 0 0) = ((sp_terminal V (xs (6 * n + 1)) (xs (6 * n + 2))).1)) (tgt := 364) (rest := []) rfl (by decide) (fun c1 => ?_) (fun c1 => ?_)
  ·
    refine wk_run C k_law_364 (pc2 := 366) (lv2 := [(6, .int r), (5, .int (sp_terminal V (xs (6 * n + 1)) (xs (6 * n + 2))).1), (0, .ref b), (1, .ref x), (2, .ref y), (3, .ref ou), (4, .int (nI (6 * n)))]) (st2 := [.int (sp_terminal V (xs (6 * n + 1)) (xs (6 * n + 2))).1]) rfl ?_
    refine wk_br C d_law_366 (P := ¬ ((sp_terminal V (xs (6 * n + 1)) (xs (6 * n + 2))).1) = 0) (tgt := 381) (rest := []) rfl (by decide) (fun c2 => ?_) (fun c2 => ?_)
    ·
      refine wk_goto C d_law_381 (tgt := 1471) (by decide) ?_
      refine Wk.sub (lv2 := [(0, .ref b), (1, .ref x), (2, .ref y), (3, .ref ou), (4, .int (nI (6 * n)))]) [2, 3, 4, 5, 6] rfl ?_
      exact K _ own2 _ iv2.1
    ·
      have hf3 := hf2 (Classical.not_not.mp c2)
      refine wk_run C k_law_369 (pc2 := 371) (lv2 := [(6, .int r), (5, .int (sp_terminal V (xs (6 * n + 1)) (xs (6 * n + 2))).1), (0, .ref b), (1, .ref x), (2, .ref y), (3, .ref ou), (4, .int (nI (6 * n)))]) (st2 := [.int 0, .ref ou]) rfl ?_
      refine wk_lald C iv2.2 (nI_in (c := 0) (by decide) (by decide)) d_law_371 ?_
      show Wk _ _ _ _ _ _ _ _ _ _ _ _ _ _ _ _ _ _ _ (.long (f2 0) :: _)
      rw [hf3, er]
      refine wk_run C k_law_372 (pc2 := 375) (lv2 := [(6, .int r), (5, .int (sp_terminal V (xs (6 * n + 1)) (xs (6 * n + 2))).1), (0, .ref b), (1, .ref x), (2, .ref y), (3, .ref ou), (4, .int (nI (6 * n)))]) (st2 := [.long r.toInt64, .long r.toInt64]) rfl ?_
      refine wk_lcmp C d_law_375 ?_
      refine wk_br C d_law_376 (P := (lg_cmp r.toInt64 r.toInt64) = 0) (tgt := 381) (rest := []) rfl (by decide) (fun c4 => ?_) (fun c4 => ?_)
      ·
        refine wk_goto C d_law_381 (tgt := 1471) (by decide) ?_
        refine Wk.sub (lv2 := [(0, .ref b), (1, .ref x), (2, .ref y), (3, .ref ou), (4, .int (nI (6 * n)))]) [2, 3, 4, 5, 6] rfl ?_
        exact K _ own2 _ iv2.1
      ·
        exact absurd (lg_s _) c4
  ·
    exact absurd ecd c1
theorem k_law_384 : px_dec code [.aload_n 1, .aload_n 0, .iload 4, .iconst 1, .iadd] 384 = true := by decide +kernel
theorem d_law_390 : decode code 390 = .ok (.iaload, 1) := by decide +kernel
theorem k_law_391 : px_dec code [.aload_n 0, .iload 4, .iconst 2, .iadd] 391 = true := by decide +kernel
theorem d_law_396 : decode code 396 = .ok (.iaload, 1) := by decide +kernel
theorem d_law_397 : decode code 397 = .ok (.ifCond .eq 7, 3) := by decide +kernel
theorem k_law_404 : px_dec code [.iconst 0, .aload_n 3] 404 = true := by decide +kernel
theorem d_law_406 : decode code 406 = .ok (.invokestatic 93, 3) := by decide +kernel
theorem k_law_409 : px_dec code [.istore 5, .aload_n 2, .aload_n 0, .iload 4, .iconst 1, .iadd] 409 = true := by decide +kernel
theorem d_law_417 : decode code 417 = .ok (.iaload, 1) := by decide +kernel
theorem k_law_418 : px_dec code [.aload_n 0, .iload 4, .iconst 2, .iadd] 418 = true := by decide +kernel
theorem d_law_423 : decode code 423 = .ok (.iaload, 1) := by decide +kernel
theorem d_law_424 : decode code 424 = .ok (.ifCond .eq 7, 3) := by decide +kernel
theorem k_law_431 : px_dec code [.iconst 0] 431 = true := by decide +kernel
theorem d_law_432 : decode code 432 = .ok (.invokevirtual 96, 3) := by decide +kernel
theorem k_law_435 : px_dec code [.istore 6, .aload_n 2] 435 = true := by decide +kernel
theorem d_law_438 : decode code 438 = .ok (.invokevirtual 79, 3) := by decide +kernel
theorem k_law_441 : px_dec code [.iload 5] 441 = true := by decide +kernel
theorem d_law_443 : decode code 443 = .ok (.if_icmp .eq 5, 3) := by decide +kernel
theorem k_law_448 : px_dec code [.iload 5] 448 = true := by decide +kernel
theorem d_law_450 : decode code 450 = .ok (.ifCond .ne 15, 3) := by decide +kernel
theorem d_law_465 : decode code 465 = .ok (.goto 1006, 3) := by decide +kernel
theorem k_law_453 : px_dec code [.aload_n 3, .iconst 0] 453 = true := by decide +kernel
theorem d_law_455 : decode code 455 = .ok (.laload, 1) := by decide +kernel
theorem k_law_456 : px_dec code [.iload 6, .i2l] 456 = true := by decide +kernel
theorem d_law_459 : decode code 459 = .ok (.lcmp, 1) := by decide +kernel
theorem d_law_460 : decode code 460 = .ok (.ifCond .eq 5, 3) := by decide +kernel
theorem k_law_400 : px_dec code [.iconst 1] 400 = true := by decide +kernel
theorem d_law_401 : decode code 401 = .ok (.goto 4, 3) := by decide +kernel
theorem k_law_405 : px_dec code [.aload_n 3] 405 = true := by decide +kernel
theorem k_law_427 : px_dec code [.iconst 1] 427 = true := by decide +kernel
theorem d_law_428 : decode code 428 = .ok (.goto 4, 3) := by decide +kernel
set_option maxRecDepth 100000 in
set_option maxHeartbeats 4000000 in
theorem lw_revoke {p : Program} {l : Launch} {e : Env} {s : State} {m : MethodId} {args : Array Value} {below : List Frame} {meth : Method} {c : Code} {Q : State → Prop} {D : va_G} {HB : Heap} {hh : List (Nat × Nat × Nat × Nat)} (C : wk_C p s m args meth c code "ProfileRightsLaw" 7 ret hh D HB) (hlt : l.stackTraces = false) {b L : Nat} {xs : Nat → Int32} (hZ : va_T .int b L (fun j => .int (xs j)) (hp_A HB) s HB) {x y ou : Nat} {A : Nat → Nat} {n cells slots : Nat} {V : vT} {own : oT} {h : hp_T} (hn : n < 512) (hL : L ≤ 3072) (h6 : 6 * n + 6 ≤ L) (hc : cells + 8 ≤ 601024) (hs : slots + 200 ≤ 7293034) (I : iv D x y ou A n V own h) (K : ∀ (V2 : vT) (own2 : oT) (h2 : hp_T), iv D x y ou A (n + 1) V2 own2 h2 → Wk p l e room_1 s m args below meth c 7 D HB Q h2 (cells + 8) (slots + 200) 1471 [(0, .ref b), (1, .ref x), (2, .ref y), (3, .ref ou), (4, .int (nI (6 * n)))] []) : Wk p l e room_1 s m args below meth c 7 D HB Q h cells slots 384 [(0, .ref b), (1, .ref x), (2, .ref y), (3, .ref ou), (4, .int (nI (6 * n)))] [] := by
  obtain ⟨IM, IC, IW, IR, Iy, IA, Io, f, hou⟩ := id I
  have no := mq_ou IM hou
  obtain ⟨gl, ul, pl, mo, aq, tr, hx0⟩ := cr_x IC
  rcases Classical.em (xs (6 * n + 2) = 0) with hz | hz
  ·
    refine wk_run C k_law_384 (pc2 := 390) (lv2 := [(0, .ref b), (1, .ref x), (2, .ref y), (3, .ref ou), (4, .int (nI (6 * n)))]) (st2 := [.int ((nI (6 * n)) + 1), .ref b, .ref x]) rfl ?_
    refine wk_tld C hZ (nI_in (c := 6 * n) (by omega) (by omega)) (show Value.int (xs (nI (6 * n)).toNatClampNeg) = .int (xs (6 * n)) by rw [nI_clamp (by omega)]) d_law_390 ?_
    refine wk_run C k_law_391 (pc2 := 396) (lv2 := [(0, .ref b), (1, .ref x), (2, .ref y), (3, .ref ou), (4, .int (nI (6 * n)))]) (st2 := [.int ((nI (6 * n)) + 2), .ref b, .int (xs (6 * n)), .ref x]) rfl ?_
    refine wk_tld C hZ (nI_in (c := 6 * n) (by omega) (by omega)) (show Value.int (xs (nI (6 * n)).toNatClampNeg) = .int (xs (6 * n)) by rw [nI_clamp (by omega)]) d_law_396 ?_
    refine wk_br C d_law_397 (P := (xs (6 * n)) = 0) (tgt := 404) (rest := [.int (xs (6 * n)), .ref x]) rfl (by decide) (fun cb => ?_) (fun cb => ?_)
    rotate_left
    · exact absurd hz cb
    refine wk_run C k_law_404 (pc2 := 406) (lv2 := [(0, .ref b), (1, .ref x), (2, .ref y), (3, .ref ou), (4, .int (nI (6 * n)))]) (st2 := [.ref ou, .int 0, .int (xs (6 * n)), .ref x]) rfl ?_
    refine wk_callSW (rest := []) C (c_LW_revoke l D HB h hlt own V x ou (xs (6 * n + 1)) 0 f IC IW (Or.inl rfl) hou Io) cs_LW_93 kc_LW_revoke ki_LW rfl rfl (Nat.le_of_ble_eq_true rfl) (Nat.le_of_ble_eq_true rfl) (Nat.le_of_ble_eq_true rfl) hc hs d_law_406 (fun v h2 hq => ?_) (fun E h2 hq => by obtain ⟨_, _, z, _⟩ := hq; cases z)
    obtain ⟨own2, f2, e1, hcr, hso, ho2, hou2, hf2⟩ := hq; cases e1
    show Wk _ _ _ _ _ _ _ _ _ _ _ _ _ _ _ _ _ _ _ (.int (sp_revoke V (xs (6 * n + 1)) 0).1 :: _)
    have ic := iv_c I hso
    refine wk_run C k_law_409 (pc2 := 417) (lv2 := [(5, .int (sp_revoke V (xs (6 * n + 1)) 0).1), (0, .ref b), (1, .ref x), (2, .ref y), (3, .ref ou), (4, .int (nI (6 * n)))]) (st2 := [.int ((nI (6 * n)) + 1), .ref b, .ref y]) rfl ?_
    refine wk_tld C hZ (nI_in (c := 6 * n) (by omega) (by omega)) (show Value.int (xs (nI (6 * n)).toNatClampNeg) = .int (xs (6 * n)) by rw [nI_clamp (by omega)]) d_law_417 ?_
    refine wk_run C k_law_418 (pc2 := 423) (lv2 := [(5, .int (sp_revoke V (xs (6 * n + 1)) 0).1), (0, .ref b), (1, .ref x), (2, .ref y), (3, .ref ou), (4, .int (nI (6 * n)))]) (st2 := [.int ((nI (6 * n)) + 2), .ref b, .int (xs (6 * n)), .ref y]) rfl ?_
    refine wk_tld C hZ (nI_in (c := 6 * n) (by omega) (by omega)) (show Value.int (xs (nI (6 * n)).toNatClampNeg) = .int (xs (6 * n)) by rw [nI_clamp (by omega)]) d_law_423 ?_
    refine wk_br C d_law_424 (P := (xs (6 * n)) = 0) (tgt := 431) (rest := [.int (xs (6 * n)), .ref y]) rfl (by decide) (fun cb => ?_) (fun cb => ?_)
    rotate_left
    · exact absurd hz cb
    refine wk_run C k_law_431 (pc2 := 432) (lv2 := [(5, .int (sp_revoke V (xs (6 * n + 1)) 0).1), (0, .ref b), (1, .ref x), (2, .ref y), (3, .ref ou), (4, .int (nI (6 * n)))]) (st2 := [.int 0, .int (xs (6 * n)), .ref y]) rfl ?_
    refine wk_callV (cl := ("ProfileRightsModel", T_MD, 27)) (rest := []) C (m_revoke l D HB h2 h2 y A V (xs (6 * n + 1)) 0 IW (Or.inl rfl) ic.1) cs_LW_96 kc_MD_revoke ki_MD ic.1.ob rfl rfl rfl (Nat.le_of_ble_eq_true rfl) (Nat.le_of_ble_eq_true rfl) (Nat.le_of_ble_eq_true rfl) hc hs d_law_432 (fun v2 h3 hq2 => ?_) (fun E h9 hq9 => by obtain ⟨_, _, _, _, z, _⟩ := hq9; cases z)
    obtain ⟨cd, r, V2, es, e1, hM2⟩ := hq2; cases e1
    show Wk _ _ _ _ _ _ _ _ _ _ _ _ _ _ _ _ _ _ _ (.int r :: _)
    have hW2 : wf V2 := by have z : wf (sp_revoke V (xs (6 * n + 1)) 0).2.2 := wf_revoke IW (Or.inl rfl); rw [es] at z; exact z
    have hR2 : ok_ (V2 25 0) (n + 1) := by have z := r25_revoke (V := V) (xs (6 * n + 1)) 0 (by omega) IR; rw [es] at z; exact z
    have he : ∀ j, j ≠ 0 → j ≠ 26 → V2 j = (sp_revoke V (xs (6 * n + 1)) 0).2.2 j := fun j _ h26 => by rw [es]
    have ecd : V2 0 0 = (sp_revoke V (xs (6 * n + 1)) 0).1 := by have z := cd_revoke V (xs (6 * n + 1)) 0; rw [es] at z ⊢; exact z
    have er : (sp_revoke V (xs (6 * n + 1)) 0).2.1 = r := by rw [es]
    refine wk_run C k_law_435 (pc2 := 438) (lv2 := [(6, .int r), (5, .int (sp_revoke V (xs (6 * n + 1)) 0).1), (0, .ref b), (1, .ref x), (2, .ref y), (3, .ref ou), (4, .int (nI (6 * n)))]) (st2 := [.ref y]) rfl ?_
    refine wk_callV (cl := ("ProfileRightsModel", T_MD, 27)) (rest := []) C (c_MD_thrown l D HB h3 h2 y A V2 hM2) cs_LW_79 kc_MD_thrown ki_MD hM2.ob rfl rfl rfl (Nat.le_of_ble_eq_true rfl) (Nat.le_of_ble_eq_true rfl) (Nat.le_of_ble_eq_true rfl) hc hs d_law_438 (fun v3 h4 hq3 => ?_) (fun E h9 hq9 => by obtain ⟨_, _, _, _, z, _⟩ := hq9; cases z)
    obtain ⟨cd3, r3, V3, es3, e1, hM3⟩ := hq3; cases e1; cases es3
    show Wk _ _ _ _ _ _ _ _ _ _ _ _ _ _ _ _ _ _ _ (.int (V2 0 0) :: _)
    have iv2 := iv_m hcr hM3 ic.2.1 ic.2.2 (by rw [ho2]; exact Io) hou2 no hW2 hR2 he
    refine wk_run C k_law_441 (pc2 := 443) (lv2 := [(6, .int r), (5, .int (sp_revoke V (xs (6 * n + 1)) 0).1), (0, .ref b), (1, .ref x), (2, .ref y), (3, .ref ou), (4, .int (nI (6 * n)))]) (st2 := [.int (sp_revoke V (xs (6 * n + 1)) 0).1, .int (V2 0 0)]) rfl ?_
    refine wk_br C d_law_443 (P := (V2 0 0) = ((sp_revoke V (xs (6 * n + 1)) 0).1)) (tgt := 448) (rest := []) rfl (by decide) (fun c1 => ?_) (fun c1 => ?_)
    ·
      refine wk_run C k_law_448 (pc2 := 450) (lv2 := [(6, .int r), (5, .int (sp_revoke V (xs (6 * n + 1)) 0).1), (0, .ref b), (1, .ref x), (2, .ref y), (3, .ref ou), (4, .int (nI (6 * n)))]) (st2 := [.int (sp_revoke V (xs (6 * n + 1)) 0).1]) rfl ?_
      refine wk_br C d_law_450 (P := ¬ ((sp_revoke V (xs (6 * n + 1)) 0).1) = 0) (tgt := 465) (rest := []) rfl (by decide) (fun c2 => ?_) (fun c2 => ?_)
      ·
        refine wk_goto C d_law_465 (tgt := 1471) (by decide) ?_
        refine Wk.sub (lv2 := [(0, .ref b), (1, .ref x), (2, .ref y), (3, .ref ou), (4, .int (nI (6 * n)))]) [2, 3, 4, 5, 6] rfl ?_
        exact K _ own2 _ iv2.1
      ·
        have hf3 := hf2 (Classical.not_not.mp c2)
        refine wk_run C k_law_453 (pc2 := 455) (lv2 := [(6, .int r), (5, .int (sp_revoke V (xs (6 * n + 1)) 0).1), (0, .ref b), (1, .ref x), (2, .ref y), (3, .ref ou), (4, .int (nI (6 * n)))]) (st2 := [.int 0, .ref ou]) rfl ?_
        refine wk_lald C iv2.2 (nI_in (c := 0) (by decide) (by decide)) d_law_455 ?_
        show Wk _ _ _ _ _ _ _ _ _ _ _ _ _ _ _ _ _ _ _ (.long (f2 0) :: _)
        rw [hf3, er]
        refine wk_run C k_law_456 (pc2 := 459) (lv2 := [(6, .int r), (5, .int (sp_revoke V (xs (6 * n + 1)) 0).1), (0, .ref b), (1, .ref x), (2, .ref y), (3, .ref ou), (4, .int (nI (6 * n)))]) (st2 := [.long r.toInt64, .long r.toInt64]) rfl ?_
        refine wk_lcmp C d_law_459 ?_
        refine wk_br C d_law_460 (P := (lg_cmp r.toInt64 r.toInt64) = 0) (tgt := 465) (rest := []) rfl (by decide) (fun c4 => ?_) (fun c4 => ?_)
        ·
          refine wk_goto C d_law_465 (tgt := 1471) (by decide) ?_
          refine Wk.sub (lv2 := [(0, .ref b), (1, .ref x), (2, .ref y), (3, .ref ou), (4, .int (nI (6 * n)))]) [2, 3, 4, 5, 6] rfl ?_
          exact K _ own2 _ iv2.1
        ·
          exact absurd (lg_s _) c4
    ·
      exact absurd ecd c1
  ·
    refine wk_run C k_law_384 (pc2 := 390) (lv2 := [(0, .ref b), (1, .ref x), (2, .ref y), (3, .ref ou), (4, .int (nI (6 * n)))]) (st2 := [.int ((nI (6 * n)) + 1), .ref b, .ref x]) rfl ?_
    refine wk_tld C hZ (nI_in (c := 6 * n) (by omega) (by omega)) (show Value.int (xs (nI (6 * n)).toNatClampNeg) = .int (xs (6 * n)) by rw [nI_clamp (by omega)]) d_law_390 ?_
    refine wk_run C k_law_391 (pc2 := 396) (lv2 := [(0, .ref b), (1, .ref x), (2, .ref y), (3, .ref ou), (4, .int (nI (6 * n)))]) (st2 := [.int ((nI (6 * n)) + 2), .ref b, .int (xs (6 * n)), .ref x]) rfl ?_
    refine wk_tld C hZ (nI_in (c := 6 * n) (by omega) (by omega)) (show Value.int (xs (nI (6 * n)).toNatClampNeg) = .int (xs (6 * n)) by rw [nI_clamp (by omega)]) d_law_396 ?_
    refine wk_br C d_law_397 (P := (xs (6 * n)) = 0) (tgt := 404) (rest := [.int (xs (6 * n)), .ref x]) rfl (by decide) (fun cb => ?_) (fun cb => ?_)
    · exact absurd cb hz
    refine wk_run C k_law_400 (pc2 := 401) (lv2 := [(0, .ref b), (1, .ref x), (2, .ref y), (3, .ref ou), (4, .int (nI (6 * n)))]) (st2 := [.int 1, .int (xs (6 * n)), .ref x]) rfl ?_
    refine wk_goto C d_law_401 (tgt := 405) (by decide) ?_
    refine wk_run C k_law_405 (pc2 := 406) (lv2 := [(0, .ref b), (1, .ref x), (2, .ref y), (3, .ref ou), (4, .int (nI (6 * n)))]) (st2 := [.ref ou, .int 1, .int (xs (6 * n)), .ref x]) rfl ?_
    refine wk_callSW (rest := []) C (c_LW_revoke l D HB h hlt own V x ou (xs (6 * n + 1)) 1 f IC IW (Or.inr rfl) hou Io) cs_LW_93 kc_LW_revoke ki_LW rfl rfl (Nat.le_of_ble_eq_true rfl) (Nat.le_of_ble_eq_true rfl) (Nat.le_of_ble_eq_true rfl) hc hs d_law_406 (fun v h2 hq => ?_) (fun E h2 hq => by obtain ⟨_, _, z, _⟩ := hq; cases z)
    obtain ⟨own2, f2, e1, hcr, hso, ho2, hou2, hf2⟩ := hq; cases e1
    show Wk _ _ _ _ _ _ _ _ _ _ _ _ _ _ _ _ _ _ _ (.int (sp_revoke V (xs (6 * n + 1)) 1).1 :: _)
    have ic := iv_c I hso
    refine wk_run C k_law_409 (pc2 := 417) (lv2 := [(5, .int (sp_revoke V (xs (6 * n + 1)) 1).1), (0, .ref b), (1, .ref x), (2, .ref y), (3, .ref ou), (4, .int (nI (6 * n)))]) (st2 := [.int ((nI (6 * n)) + 1), .ref b, .ref y]) rfl ?_
    refine wk_tld C hZ (nI_in (c := 6 * n) (by omega) (by omega)) (show Value.int (xs (nI (6 * n)).toNatClampNeg) = .int (xs (6 * n)) by rw [nI_clamp (by omega)]) d_law_417 ?_
    refine wk_run C k_law_418 (pc2 := 423) (lv2 := [(5, .int (sp_revoke V (xs (6 * n + 1)) 1).1), (0, .ref b), (1, .ref x), (2, .ref y), (3, .ref ou), (4, .int (nI (6 * n)))]) (st2 := [.int ((nI (6 * n)) + 2), .ref b, .int (xs (6 * n)), .ref y]) rfl ?_
    refine wk_tld C hZ (nI_in (c := 6 * n) (by omega) (by omega)) (show Value.int (xs (nI (6 * n)).toNatClampNeg) = .int (xs (6 * n)) by rw [nI_clamp (by omega)]) d_law_423 ?_
    refine wk_br C d_law_424 (P := (xs (6 * n)) = 0) (tgt := 431) (rest := [.int (xs (6 * n)), .ref y]) rfl (by decide) (fun cb => ?_) (fun cb => ?_)
    · exact absurd cb hz
    refine wk_run C k_law_427 (pc2 := 428) (lv2 := [(5, .int (sp_revoke V (xs (6 * n + 1)) 1).1), (0, .ref b), (1, .ref x), (2, .ref y), (3, .ref ou), (4, .int (nI (6 * n)))]) (st2 := [.int 1, .int (xs (6 * n)), .ref y]) rfl ?_
    refine wk_goto C d_law_428 (tgt := 432) (by decide) ?_
    refine wk_callV (cl := ("ProfileRightsModel", T_MD, 27)) (rest := []) C (m_revoke l D HB h2 h2 y A V (xs (6 * n + 1)) 1 IW (Or.inr rfl) ic.1) cs_LW_96 kc_MD_revoke ki_MD ic.1.ob rfl rfl rfl (Nat.le_of_ble_eq_true rfl) (Nat.le_of_ble_eq_true rfl) (Nat.le_of_ble_eq_true rfl) hc hs d_law_432 (fun v2 h3 hq2 => ?_) (fun E h9 hq9 => by obtain ⟨_, _, _, _, z, _⟩ := hq9; cases z)
    obtain ⟨cd, r, V2, es, e1, hM2⟩ := hq2; cases e1
    show Wk _ _ _ _ _ _ _ _ _ _ _ _ _ _ _ _ _ _ _ (.int r :: _)
    have hW2 : wf V2 := by have z : wf (sp_revoke V (xs (6 * n + 1)) 1).2.2 := wf_revoke IW (Or.inr rfl); rw [es] at z; exact z
    have hR2 : ok_ (V2 25 0) (n + 1) := by have z := r25_revoke (V := V) (xs (6 * n + 1)) 1 (by omega) IR; rw [es] at z; exact z
    have he : ∀ j, j ≠ 0 → j ≠ 26 → V2 j = (sp_revoke V (xs (6 * n + 1)) 1).2.2 j := fun j _ h26 => by rw [es]
    have ecd : V2 0 0 = (sp_revoke V (xs (6 * n + 1)) 1).1 := by have z := cd_revoke V (xs (6 * n + 1)) 1; rw [es] at z ⊢; exact z
    have er : (sp_revoke V (xs (6 * n + 1)) 1).2.1 = r := by rw [es]
    refine wk_run C k_law_435 (pc2 := 438) (lv2 := [(6, .int r), (5, .int (sp_revoke V (xs (6 * n + 1)) 1).1), (0, .ref b), (1, .ref x), (2, .ref y), (3, .ref ou), (4, .int (nI (6 * n)))]) (st2 := [.ref y]) rfl ?_
    refine wk_callV (cl := ("ProfileRightsModel", T_MD, 27)) (rest := []) C (c_MD_thrown l D HB h3 h2 y A V2 hM2) cs_LW_79 kc_MD_thrown ki_MD hM2.ob rfl rfl rfl (Nat.le_of_ble_eq_true rfl) (Nat.le_of_ble_eq_true rfl) (Nat.le_of_ble_eq_true rfl) hc hs d_law_438 (fun v3 h4 hq3 => ?_) (fun E h9 hq9 => by obtain ⟨_, _, _, _, z, _⟩ := hq9; cases z)
    obtain ⟨cd3, r3, V3, es3, e1, hM3⟩ := hq3; cases e1; cases es3
    show Wk _ _ _ _ _ _ _ _ _ _ _ _ _ _ _ _ _ _ _ (.int (V2 0 0) :: _)
    have iv2 := iv_m hcr hM3 ic.2.1 ic.2.2 (by rw [ho2]; exact Io) hou2 no hW2 hR2 he
    refine wk_run C k_law_441 (pc2 := 443) (lv2 := [(6, .int r), (5, .int (sp_revoke V (xs (6 * n + 1)) 1).1), (0, .ref b), (1, .ref x), (2, .ref y), (3, .ref ou), (4, .int (nI (6 * n)))]) (st2 := [.int (sp_revoke V (xs (6 * n + 1)) 1).1, .int (V2 0 0)]) rfl ?_
    refine wk_br C d_law_443 (P := (V2 0 0) = ((sp_revoke V (xs (6 * n + 1)) 1).1)) (tgt := 448) (rest := []) rfl (by decide) (fun c1 => ?_) (fun c1 => ?_)
    ·
      refine wk_run C k_law_448 (pc2 := 450) (lv2 := [(6, .int r), (5, .int (sp_revoke V (xs (6 * n + 1)) 1).1), (0, .ref b), (1, .ref x), (2, .ref y), (3, .ref ou), (4, .int (nI (6 * n)))]) (st2 := [.int (sp_revoke V (xs (6 * n + 1)) 1).1]) rfl ?_
      refine wk_br C d_law_450 (P := ¬ ((sp_revoke V (xs (6 * n + 1)) 1).1) = 0) (tgt := 465) (rest := []) rfl (by decide) (fun c2 => ?_) (fun c2 => ?_)
      ·
        refine wk_goto C d_law_465 (tgt := 1471) (by decide) ?_
        refine Wk.sub (lv2 := [(0, .ref b), (1, .ref x), (2, .ref y), (3, .ref ou), (4, .int (nI (6 * n)))]) [2, 3, 4, 5, 6] rfl ?_
        exact K _ own2 _ iv2.1
      ·
        have hf3 := hf2 (Classical.not_not.mp c2)
        refine wk_run C k_law_453 (pc2 := 455) (lv2 := [(6, .int r), (5, .int (sp_revoke V (xs (6 * n + 1)) 1).1), (0, .ref b), (1, .ref x), (2, .ref y), (3, .ref ou), (4, .int (nI (6 * n)))]) (st2 := [.int 0, .ref ou]) rfl ?_
        refine wk_lald C iv2.2 (nI_in (c := 0) (by decide) (by decide)) d_law_455 ?_
        show Wk _ _ _ _ _ _ _ _ _ _ _ _ _ _ _ _ _ _ _ (.long (f2 0) :: _)
        rw [hf3, er]
        refine wk_run C k_law_456 (pc2 := 459) (lv2 := [(6, .int r), (5, .int (sp_revoke V (xs (6 * n + 1)) 1).1), (0, .ref b), (1, .ref x), (2, .ref y), (3, .ref ou), (4, .int (nI (6 * n)))]) (st2 := [.long r.toInt64, .long r.toInt64]) rfl ?_
        refine wk_lcmp C d_law_459 ?_
        refine wk_br C d_law_460 (P := (lg_cmp r.toInt64 r.toInt64) = 0) (tgt := 465) (rest := []) rfl (by decide) (fun c4 => ?_) (fun c4 => ?_)
        ·
          refine wk_goto C d_law_465 (tgt := 1471) (by decide) ?_
          refine Wk.sub (lv2 := [(0, .ref b), (1, .ref x), (2, .ref y), (3, .ref ou), (4, .int (nI (6 * n)))]) [2, 3, 4, 5, 6] rfl ?_
          exact K _ own2 _ iv2.1
        ·
          exact absurd (lg_s _) c4
    ·
      exact absurd ecd c1
theorem k_law_468 : px_dec code [.aload_n 1, .aload_n 0, .iload 4, .iconst 1, .iadd] 468 = true := by decide +kernel
theorem d_law_474 : decode code 474 = .ok (.iaload, 1) := by decide +kernel
theorem k_law_475 : px_dec code [.aload_n 0, .iload 4, .iconst 2, .iadd] 475 = true := by decide +kernel
theorem d_law_480 : decode code 480 = .ok (.iaload, 1) := by decide +kernel
theorem d_law_481 : decode code 481 = .ok (.ifCond .eq 7, 3) := by decide +kernel
theorem k_law_488 : px_dec code [.iconst 0, .aload_n 3] 488 = true := by decide +kernel
theorem d_law_490 : decode code 490 = .ok (.invokestatic 97, 3) := by decide +kernel
theorem k_law_493 : px_dec code [.istore 5, .aload_n 2, .aload_n 0, .iload 4, .iconst 1, .iadd] 493 = true := by decide +kernel
theorem d_law_501 : decode code 501 = .ok (.iaload, 1) := by decide +kernel
theorem k_law_502 : px_dec code [.aload_n 0, .iload 4, .iconst 2, .iadd] 502 = true := by decide +kernel
theorem d_law_507 : decode code 507 = .ok (.iaload, 1) := by decide +kernel
theorem d_law_508 : decode code 508 = .ok (.ifCond .eq 7, 3) := by decide +kernel
theorem k_law_515 : px_dec code [.iconst 0] 515 = true := by decide +kernel
theorem d_law_516 : decode code 516 = .ok (.invokevirtual 99, 3) := by decide +kernel
theorem k_law_519 : px_dec code [.istore 6, .aload_n 2] 519 = true := by decide +kernel
theorem d_law_522 : decode code 522 = .ok (.invokevirtual 79, 3) := by decide +kernel
theorem k_law_525 : px_dec code [.iload 5] 525 = true := by decide +kernel
theorem d_law_527 : decode code 527 = .ok (.if_icmp .eq 5, 3) := by decide +kernel
theorem k_law_532 : px_dec code [.iload 5] 532 = true := by decide +kernel
theorem d_law_534 : decode code 534 = .ok (.ifCond .ne 15, 3) := by decide +kernel
theorem d_law_549 : decode code 549 = .ok (.goto 922, 3) := by decide +kernel
theorem k_law_537 : px_dec code [.aload_n 3, .iconst 0] 537 = true := by decide +kernel
theorem d_law_539 : decode code 539 = .ok (.laload, 1) := by decide +kernel
theorem k_law_540 : px_dec code [.iload 6, .i2l] 540 = true := by decide +kernel
theorem d_law_543 : decode code 543 = .ok (.lcmp, 1) := by decide +kernel
theorem d_law_544 : decode code 544 = .ok (.ifCond .eq 5, 3) := by decide +kernel
theorem k_law_484 : px_dec code [.iconst 1] 484 = true := by decide +kernel
theorem d_law_485 : decode code 485 = .ok (.goto 4, 3) := by decide +kernel
theorem k_law_489 : px_dec code [.aload_n 3] 489 = true := by decide +kernel
theorem k_law_511 : px_dec code [.iconst 1] 511 = true := by decide +kernel
theorem d_law_512 : decode code 512 = .ok (.goto 4, 3) := by decide +kernel
set_option maxRecDepth 100000 in
set_option maxHeartbeats 4000000 in
theorem lw_pass {p : Program} {l : Launch} {e : Env} {s : State} {m : MethodId} {args : Array Value} {below : List Frame} {meth : Method} {c : Code} {Q : State → Prop} {D : va_G} {HB : Heap} {hh : List (Nat × Nat × Nat × Nat)} (C : wk_C p s m args meth c code "ProfileRightsLaw" 7 ret hh D HB) (hlt : l.stackTraces = false) {b L : Nat} {xs : Nat → Int32} (hZ : va_T .int b L (fun j => .int (xs j)) (hp_A HB) s HB) {x y ou : Nat} {A : Nat → Nat} {n cells slots : Nat} {V : vT} {own : oT} {h : hp_T} (hn : n < 512) (hL : L ≤ 3072) (h6 : 6 * n + 6 ≤ L) (hc : cells + 8 ≤ 601024) (hs : slots + 200 ≤ 7293034) (I : iv D x y ou A n V own h) (K : ∀ (V2 : vT) (own2 : oT) (h2 : hp_T), iv D x y ou A (n + 1) V2 own2 h2 → Wk p l e room_1 s m args below meth c 7 D HB Q h2 (cells + 8) (slots + 200) 1471 [(0, .ref b), (1, .ref x), (2, .ref y), (3, .ref ou), (4, .int (nI (6 * n)))] []) : Wk p l e room_1 s m args below meth c 7 D HB Q h cells slots 468 [(0, .ref b), (1, .ref x), (2, .ref y), (3, .ref ou), (4, .int (nI (6 * n)))] [] := by
  obtain ⟨IM, IC, IW, IR, Iy, IA, Io, f, hou⟩ := id I
  have no := mq_ou IM hou
  obtain ⟨gl, ul, pl, mo, aq, tr, hx0⟩ := cr_x IC
  rcases Classical.em (xs (6 * n + 2) = 0) with hz | hz
  ·
    refine wk_run C k_law_468 (pc2 := 474) (lv2 := [(0, .ref b), (1, .ref x), (2, .ref y), (3, .ref ou), (4, .int (nI (6 * n)))]) (st2 := [.int ((nI (6 * n)) + 1), .ref b, .ref x]) rfl ?_
    refine wk_tld C hZ (nI_in (c := 6 * n) (by omega) (by omega)) (show Value.int (xs (nI (6 * n)).toNatClampNeg) = .int (xs (6 * n)) by rw [nI_clamp (by omega)]) d_law_474 ?_
    refine wk_run C k_law_475 (pc2 := 480) (lv2 := [(0, .ref b), (1, .ref x), (2, .ref y), (3, .ref ou), (4, .int (nI (6 * n)))]) (st2 := [.int ((nI (6 * n)) + 2), .ref b, .int (xs (6 * n)), .ref x]) rfl ?_
    refine wk_tld C hZ (nI_in (c := 6 * n) (by omega) (by omega)) (show Value.int (xs (nI (6 * n)).toNatClampNeg) = .int (xs (6 * n)) by rw [nI_clamp (by omega)]) d_law_480 ?_
    refine wk_br C d_law_481 (P := (xs (6 * n)) = 0) (tgt := 488) (rest := [.int (xs (6 * n)), .ref x]) rfl (by decide) (fun cb => ?_) (fun cb => ?_)
    rotate_left
    · exact absurd hz cb
    refine wk_run C k_law_488 (pc2 := 490) (lv2 := [(0, .ref b), (1, .ref x), (2, .ref y), (3, .ref ou), (4, .int (nI (6 * n)))]) (st2 := [.ref ou, .int 0, .int (xs (6 * n)), .ref x]) rfl ?_
    refine wk_callSW (rest := []) C (c_LW_pass l D HB h hlt own V x ou (xs (6 * n + 1)) 0 f IC IW (Or.inl rfl) hou Io) cs_LW_97 kc_LW_pass ki_LW rfl rfl (Nat.le_of_ble_eq_true rfl) (Nat.le_of_ble_eq_true rfl) (Nat.le_of_ble_eq_true rfl) hc hs d_law_490 (fun v h2 hq => ?_) (fun E h2 hq => by obtain ⟨_, _, z, _⟩ := hq; cases z)
    obtain ⟨own2, f2, e1, hcr, hso, ho2, hou2, hf2⟩ := hq; cases e1
    show Wk _ _ _ _ _ _ _ _ _ _ _ _ _ _ _ _ _ _ _ (.int (sp_pass V (xs (6 * n + 1)) 0).1 :: _)
    have ic := iv_c I hso
    refine wk_run C k_law_493 (pc2 := 501) (lv2 := [(5, .int (sp_pass V (xs (6 * n + 1)) 0).1), (0, .ref b), (1, .ref x), (2, .ref y), (3, .ref ou), (4, .int (nI (6 * n)))]) (st2 := [.int ((nI (6 * n)) + 1), .ref b, .ref y]) rfl ?_
    refine wk_tld C hZ (nI_in (c := 6 * n) (by omega) (by omega)) (show Value.int (xs (nI (6 * n)).toNatClampNeg) = .int (xs (6 * n)) by rw [nI_clamp (by omega)]) d_law_501 ?_
    refine wk_run C k_law_502 (pc2 := 507) (lv2 := [(5, .int (sp_pass V (xs (6 * n + 1)) 0).1), (0, .ref b), (1, .ref x), (2, .ref y), (3, .ref ou), (4, .int (nI (6 * n)))]) (st2 := [.int ((nI (6 * n)) + 2), .ref b, .int (xs (6 * n)), .ref y]) rfl ?_
    refine wk_tld C hZ (nI_in (c := 6 * n) (by omega) (by omega)) (show Value.int (xs (nI (6 * n)).toNatClampNeg) = .int (xs (6 * n)) by rw [nI_clamp (by omega)]) d_law_507 ?_
    refine wk_br C d_law_508 (P := (xs (6 * n)) = 0) (tgt := 515) (rest := [.int (xs (6 * n)), .ref y]) rfl (by decide) (fun cb => ?_) (fun cb => ?_)
    rotate_left
    · exact absurd hz cb
    refine wk_run C k_law_515 (pc2 := 516) (lv2 := [(5, .int (sp_pass V (xs (6 * n + 1)) 0).1), (0, .ref b), (1, .ref x), (2, .ref y), (3, .ref ou), (4, .int (nI (6 * n)))]) (st2 := [.int 0, .int (xs (6 * n)), .ref y]) rfl ?_
    refine wk_callV (cl := ("ProfileRightsModel", T_MD, 27)) (rest := []) C (m_pass l D HB h2 h2 y A V (xs (6 * n + 1)) 0 IW ic.1) cs_LW_99 kc_MD_pass ki_MD ic.1.ob rfl rfl rfl (Nat.le_of_ble_eq_true rfl) (Nat.le_of_ble_eq_true rfl) (Nat.le_of_ble_eq_true rfl) hc hs d_law_516 (fun v2 h3 hq2 => ?_) (fun E h9 hq9 => by obtain ⟨_, _, _, _, z, _⟩ := hq9; cases z)
    obtain ⟨cd, r, V2, es, e1, hM2⟩ := hq2; cases e1
    show Wk _ _ _ _ _ _ _ _ _ _ _ _ _ _ _ _ _ _ _ (.int r :: _)
    have hW2 : wf V2 := by have z : wf (sp_pass V (xs (6 * n + 1)) 0).2.2 := wf_pass IW; rw [es] at z; exact z
    have hR2 : ok_ (V2 25 0) (n + 1) := by have z := r25_pass (V := V) (xs (6 * n + 1)) 0 (by omega) IR; rw [es] at z; exact z
    have he : ∀ j, j ≠ 0 → j ≠ 26 → V2 j = (sp_pass V (xs (6 * n + 1)) 0).2.2 j := fun j _ h26 => by rw [es]
    have ecd : V2 0 0 = (sp_pass V (xs (6 * n + 1)) 0).1 := by have z := cd_pass V (xs (6 * n + 1)) 0; rw [es] at z ⊢; exact z
    have er : (sp_pass V (xs (6 * n + 1)) 0).2.1 = r := by rw [es]
    refine wk_run C k_law_519 (pc2 := 522) (lv2 := [(6, .int r), (5, .int (sp_pass V (xs (6 * n + 1)) 0).1), (0, .ref b), (1, .ref x), (2, .ref y), (3, .ref ou), (4, .int (nI (6 * n)))]) (st2 := [.ref y]) rfl ?_
    refine wk_callV (cl := ("ProfileRightsModel", T_MD, 27)) (rest := []) C (c_MD_thrown l D HB h3 h2 y A V2 hM2) cs_LW_79 kc_MD_thrown ki_MD hM2.ob rfl rfl rfl (Nat.le_of_ble_eq_true rfl) (Nat.le_of_ble_eq_true rfl) (Nat.le_of_ble_eq_true rfl) hc hs d_law_522 (fun v3 h4 hq3 => ?_) (fun E h9 hq9 => by obtain ⟨_, _, _, _, z, _⟩ := hq9; cases z)
    obtain ⟨cd3, r3, V3, es3, e1, hM3⟩ := hq3; cases e1; cases es3
    show Wk _ _ _ _ _ _ _ _ _ _ _ _ _ _ _ _ _ _ _ (.int (V2 0 0) :: _)
    have iv2 := iv_m hcr hM3 ic.2.1 ic.2.2 (by rw [ho2]; exact Io) hou2 no hW2 hR2 he
    refine wk_run C k_law_525 (pc2 := 527) (lv2 := [(6, .int r), (5, .int (sp_pass V (xs (6 * n + 1)) 0).1), (0, .ref b), (1, .ref x), (2, .ref y), (3, .ref ou), (4, .int (nI (6 * n)))]) (st2 := [.int (sp_pass V (xs (6 * n + 1)) 0).1, .int (V2 0 0)]) rfl ?_
    refine wk_br C d_law_527 (P := (V2 0 0) = ((sp_pass V (xs (6 * n + 1)) 0).1)) (tgt := 532) (rest := []) rfl (by decide) (fun c1 => ?_) (fun c1 => ?_)
    ·
      refine wk_run C k_law_532 (pc2 := 534) (lv2 := [(6, .int r), (5, .int (sp_pass V (xs (6 * n + 1)) 0).1), (0, .ref b), (1, .ref x), (2, .ref y), (3, .ref ou), (4, .int (nI (6 * n)))]) (st2 := [.int (sp_pass V (xs (6 * n + 1)) 0).1]) rfl ?_
      refine wk_br C d_law_534 (P := ¬ ((sp_pass V (xs (6 * n + 1)) 0).1) = 0) (tgt := 549) (rest := []) rfl (by decide) (fun c2 => ?_) (fun c2 => ?_)
      ·
        refine wk_goto C d_law_549 (tgt := 1471) (by decide) ?_
        refine Wk.sub (lv2 := [(0, .ref b), (1, .ref x), (2, .ref y), (3, .ref ou), (4, .int (nI (6 * n)))]) [2, 3, 4, 5, 6] rfl ?_
        exact K _ own2 _ iv2.1
      ·
        have hf3 := hf2 (Classical.not_not.mp c2)
        refine wk_run C k_law_537 (pc2 := 539) (lv2 := [(6, .int r), (5, .int (sp_pass V (xs (6 * n + 1)) 0).1), (0, .ref b), (1, .ref x), (2, .ref y), (3, .ref ou), (4, .int (nI (6 * n)))]) (st2 := [.int 0, .ref ou]) rfl ?_
        refine wk_lald C iv2.2 (nI_in (c := 0) (by decide) (by decide)) d_law_539 ?_
        show Wk _ _ _ _ _ _ _ _ _ _ _ _ _ _ _ _ _ _ _ (.long (f2 0) :: _)
        rw [hf3, er]
        refine wk_run C k_law_540 (pc2 := 543) (lv2 := [(6, .int r), (5, .int (sp_pass V (xs (6 * n + 1)) 0).1), (0, .ref b), (1, .ref x), (2, .ref y), (3, .ref ou), (4, .int (nI (6 * n)))]) (st2 := [.long r.toInt64, .long r.toInt64]) rfl ?_
        refine wk_lcmp C d_law_543 ?_
        refine wk_br C d_law_544 (P := (lg_cmp r.toInt64 r.toInt64) = 0) (tgt := 549) (rest := []) rfl (by decide) (fun c4 => ?_) (fun c4 => ?_)
        ·
          refine wk_goto C d_law_549 (tgt := 1471) (by decide) ?_
          refine Wk.sub (lv2 := [(0, .ref b), (1, .ref x), (2, .ref y), (3, .ref ou), (4, .int (nI (6 * n)))]) [2, 3, 4, 5, 6] rfl ?_
          exact K _ own2 _ iv2.1
        ·
          exact absurd (lg_s _) c4
    ·
      exact absurd ecd c1
  ·
    refine wk_run C k_law_468 (pc2 := 474) (lv2 := [(0, .ref b), (1, .ref x), (2, .ref y), (3, .ref ou), (4, .int (nI (6 * n)))]) (st2 := [.int ((nI (6 * n)) + 1), .ref b, .ref x]) rfl ?_
    refine wk_tld C hZ (nI_in (c := 6 * n) (by omega) (by omega)) (show Value.int (xs (nI (6 * n)).toNatClampNeg) = .int (xs (6 * n)) by rw [nI_clamp (by omega)]) d_law_474 ?_
    refine wk_run C k_law_475 (pc2 := 480) (lv2 := [(0, .ref b), (1, .ref x), (2, .ref y), (3, .ref ou), (4, .int (nI (6 * n)))]) (st2 := [.int ((nI (6 * n)) + 2), .ref b, .int (xs (6 * n)), .ref x]) rfl ?_
    refine wk_tld C hZ (nI_in (c := 6 * n) (by omega) (by omega)) (show Value.int (xs (nI (6 * n)).toNatClampNeg) = .int (xs (6 * n)) by rw [nI_clamp (by omega)]) d_law_480 ?_
    refine wk_br C d_law_481 (P := (xs (6 * n)) = 0) (tgt := 488) (rest := [.int (xs (6 * n)), .ref x]) rfl (by decide) (fun cb => ?_) (fun cb => ?_)
    · exact absurd cb hz
    refine wk_run C k_law_484 (pc2 := 485) (lv2 := [(0, .ref b), (1, .ref x), (2, .ref y), (3, .ref ou), (4, .int (nI (6 * n)))]) (st2 := [.int 1, .int (xs (6 * n)), .ref x]) rfl ?_
    refine wk_goto C d_law_485 (tgt := 489) (by decide) ?_
    refine wk_run C k_law_489 (pc2 := 490) (lv2 := [(0, .ref b), (1, .ref x), (2, .ref y), (3, .ref ou), (4, .int (nI (6 * n)))]) (st2 := [.ref ou, .int 1, .int (xs (6 * n)), .ref x]) rfl ?_
    refine wk_callSW (rest := []) C (c_LW_pass l D HB h hlt own V x ou (xs (6 * n + 1)) 1 f IC IW (Or.inr rfl) hou Io) cs_LW_97 kc_LW_pass ki_LW rfl rfl (Nat.le_of_ble_eq_true rfl) (Nat.le_of_ble_eq_true rfl) (Nat.le_of_ble_eq_true rfl) hc hs d_law_490 (fun v h2 hq => ?_) (fun E h2 hq => by obtain ⟨_, _, z, _⟩ := hq; cases z)
    obtain ⟨own2, f2, e1, hcr, hso, ho2, hou2, hf2⟩ := hq; cases e1
    show Wk _ _ _ _ _ _ _ _ _ _ _ _ _ _ _ _ _ _ _ (.int (sp_pass V (xs (6 * n + 1)) 1).1 :: _)
    have ic := iv_c I hso
    refine wk_run C k_law_493 (pc2 := 501) (lv2 := [(5, .int (sp_pass V (xs (6 * n + 1)) 1).1), (0, .ref b), (1, .ref x), (2, .ref y), (3, .ref ou), (4, .int (nI (6 * n)))]) (st2 := [.int ((nI (6 * n)) + 1), .ref b, .ref y]) rfl ?_
    refine wk_tld C hZ (nI_in (c := 6 * n) (by omega) (by omega)) (show Value.int (xs (nI (6 * n)).toNatClampNeg) = .int (xs (6 * n)) by rw [nI_clamp (by omega)]) d_law_501 ?_
    refine wk_run C k_law_502 (pc2 := 507) (lv2 := [(5, .int (sp_pass V (xs (6 * n + 1)) 1).1), (0, .ref b), (1, .ref x), (2, .ref y), (3, .ref ou), (4, .int (nI (6 * n)))]) (st2 := [.int ((nI (6 * n)) + 2), .ref b, .int (xs (6 * n)), .ref y]) rfl ?_
    refine wk_tld C hZ (nI_in (c := 6 * n) (by omega) (by omega)) (show Value.int (xs (nI (6 * n)).toNatClampNeg) = .int (xs (6 * n)) by rw [nI_clamp (by omega)]) d_law_507 ?_
    refine wk_br C d_law_508 (P := (xs (6 * n)) = 0) (tgt := 515) (rest := [.int (xs (6 * n)), .ref y]) rfl (by decide) (fun cb => ?_) (fun cb => ?_)
    · exact absurd cb hz
    refine wk_run C k_law_511 (pc2 := 512) (lv2 := [(5, .int (sp_pass V (xs (6 * n + 1)) 1).1), (0, .ref b), (1, .ref x), (2, .ref y), (3, .ref ou), (4, .int (nI (6 * n)))]) (st2 := [.int 1, .int (xs (6 * n)), .ref y]) rfl ?_
    refine wk_goto C d_law_512 (tgt := 516) (by decide) ?_
    refine wk_callV (cl := ("ProfileRightsModel", T_MD, 27)) (rest := []) C (m_pass l D HB h2 h2 y A V (xs (6 * n + 1)) 1 IW ic.1) cs_LW_99 kc_MD_pass ki_MD ic.1.ob rfl rfl rfl (Nat.le_of_ble_eq_true rfl) (Nat.le_of_ble_eq_true rfl) (Nat.le_of_ble_eq_true rfl) hc hs d_law_516 (fun v2 h3 hq2 => ?_) (fun E h9 hq9 => by obtain ⟨_, _, _, _, z, _⟩ := hq9; cases z)
    obtain ⟨cd, r, V2, es, e1, hM2⟩ := hq2; cases e1
    show Wk _ _ _ _ _ _ _ _ _ _ _ _ _ _ _ _ _ _ _ (.int r :: _)
    have hW2 : wf V2 := by have z : wf (sp_pass V (xs (6 * n + 1)) 1).2.2 := wf_pass IW; rw [es] at z; exact z
    have hR2 : ok_ (V2 25 0) (n + 1) := by have z := r25_pass (V := V) (xs (6 * n + 1)) 1 (by omega) IR; rw [es] at z; exact z
    have he : ∀ j, j ≠ 0 → j ≠ 26 → V2 j = (sp_pass V (xs (6 * n + 1)) 1).2.2 j := fun j _ h26 => by rw [es]
    have ecd : V2 0 0 = (sp_pass V (xs (6 * n + 1)) 1).1 := by have z := cd_pass V (xs (6 * n + 1)) 1; rw [es] at z ⊢; exact z
    have er : (sp_pass V (xs (6 * n + 1)) 1).2.1 = r := by rw [es]
    refine wk_run C k_law_519 (pc2 := 522) (lv2 := [(6, .int r), (5, .int (sp_pass V (xs (6 * n + 1)) 1).1), (0, .ref b), (1, .ref x), (2, .ref y), (3, .ref ou), (4, .int (nI (6 * n)))]) (st2 := [.ref y]) rfl ?_
    refine wk_callV (cl := ("ProfileRightsModel", T_MD, 27)) (rest := []) C (c_MD_thrown l D HB h3 h2 y A V2 hM2) cs_LW_79 kc_MD_thrown ki_MD hM2.ob rfl rfl rfl (Nat.le_of_ble_eq_true rfl) (Nat.le_of_ble_eq_true rfl) (Nat.le_of_ble_eq_true rfl) hc hs d_law_522 (fun v3 h4 hq3 => ?_) (fun E h9 hq9 => by obtain ⟨_, _, _, _, z, _⟩ := hq9; cases z)
    obtain ⟨cd3, r3, V3, es3, e1, hM3⟩ := hq3; cases e1; cases es3
    show Wk _ _ _ _ _ _ _ _ _ _ _ _ _ _ _ _ _ _ _ (.int (V2 0 0) :: _)
    have iv2 := iv_m hcr hM3 ic.2.1 ic.2.2 (by rw [ho2]; exact Io) hou2 no hW2 hR2 he
    refine wk_run C k_law_525 (pc2 := 527) (lv2 := [(6, .int r), (5, .int (sp_pass V (xs (6 * n + 1)) 1).1), (0, .ref b), (1, .ref x), (2, .ref y), (3, .ref ou), (4, .int (nI (6 * n)))]) (st2 := [.int (sp_pass V (xs (6 * n + 1)) 1).1, .int (V2 0 0)]) rfl ?_
    refine wk_br C d_law_527 (P := (V2 0 0) = ((sp_pass V (xs (6 * n + 1)) 1).1)) (tgt := 532) (rest := []) rfl (by decide) (fun c1 => ?_) (fun c1 => ?_)
    ·
      refine wk_run C k_law_532 (pc2 := 534) (lv2 := [(6, .int r), (5, .int (sp_pass V (xs (6 * n + 1)) 1).1), (0, .ref b), (1, .ref x), (2, .ref y), (3, .ref ou), (4, .int (nI (6 * n)))]) (st2 := [.int (sp_pass V (xs (6 * n + 1)) 1).1]) rfl ?_
      refine wk_br C d_law_534 (P := ¬ ((sp_pass V (xs (6 * n + 1)) 1).1) = 0) (tgt := 549) (rest := []) rfl (by decide) (fun c2 => ?_) (fun c2 => ?_)
      ·
        refine wk_goto C d_law_549 (tgt := 1471) (by decide) ?_
        refine Wk.sub (lv2 := [(0, .ref b), (1, .ref x), (2, .ref y), (3, .ref ou), (4, .int (nI (6 * n)))]) [2, 3, 4, 5, 6] rfl ?_
        exact K _ own2 _ iv2.1
      ·
        have hf3 := hf2 (Classical.not_not.mp c2)
        refine wk_run C k_law_537 (pc2 := 539) (lv2 := [(6, .int r), (5, .int (sp_pass V (xs (6 * n + 1)) 1).1), (0, .ref b), (1, .ref x), (2, .ref y), (3, .ref ou), (4, .int (nI (6 * n)))]) (st2 := [.int 0, .ref ou]) rfl ?_
        refine wk_lald C iv2.2 (nI_in (c := 0) (by decide) (by decide)) d_law_539 ?_
        show Wk _ _ _ _ _ _ _ _ _ _ _ _ _ _ _ _ _ _ _ (.long (f2 0) :: _)
        rw [hf3, er]
        refine wk_run C k_law_540 (pc2 := 543) (lv2 := [(6, .int r), (5, .int (sp_pass V (xs (6 * n + 1)) 1).1), (0, .ref b), (1, .ref x), (2, .ref y), (3, .ref ou), (4, .int (nI (6 * n)))]) (st2 := [.long r.toInt64, .long r.toInt64]) rfl ?_
        refine wk_lcmp C d_law_543 ?_
        refine wk_br C d_law_544 (P := (lg_cmp r.toInt64 r.toInt64) = 0) (tgt := 549) (rest := []) rfl (by decide) (fun c4 => ?_) (fun c4 => ?_)
        ·
          refine wk_goto C d_law_549 (tgt := 1471) (by decide) ?_
          refine Wk.sub (lv2 := [(0, .ref b), (1, .ref x), (2, .ref y), (3, .ref ou), (4, .int (nI (6 * n)))]) [2, 3, 4, 5, 6] rfl ?_
          exact K _ own2 _ iv2.1
        ·
          exact absurd (lg_s _) c4
    ·
      exact absurd ecd c1
theorem k_law_552 : px_dec code [.aload_n 1, .aload_n 0, .iload 4, .iconst 1, .iadd] 552 = true := by decide +kernel
theorem d_law_558 : decode code 558 = .ok (.iaload, 1) := by decide +kernel
theorem k_law_559 : px_dec code [.aload_n 0, .iload 4, .iconst 2, .iadd] 559 = true := by decide +kernel
theorem d_law_564 : decode code 564 = .ok (.iaload, 1) := by decide +kernel
theorem k_law_565 : px_dec code [.aload_n 3] 565 = true := by decide +kernel
theorem d_law_566 : decode code 566 = .ok (.invokestatic 100, 3) := by decide +kernel
theorem k_law_569 : px_dec code [.istore 5, .aload_n 2, .aload_n 0, .iload 4, .iconst 1, .iadd] 569 = true := by decide +kernel
theorem d_law_577 : decode code 577 = .ok (.iaload, 1) := by decide +kernel
theorem k_law_578 : px_dec code [.aload_n 0, .iload 4, .iconst 2, .iadd] 578 = true := by decide +kernel
theorem d_law_583 : decode code 583 = .ok (.iaload, 1) := by decide +kernel
theorem d_law_584 : decode code 584 = .ok (.invokevirtual 102, 3) := by decide +kernel
theorem k_law_587 : px_dec code [.istore 6, .aload_n 2] 587 = true := by decide +kernel
theorem d_law_590 : decode code 590 = .ok (.invokevirtual 79, 3) := by decide +kernel
theorem k_law_593 : px_dec code [.iload 5] 593 = true := by decide +kernel
theorem d_law_595 : decode code 595 = .ok (.if_icmp .eq 5, 3) := by decide +kernel
theorem k_law_600 : px_dec code [.iload 5] 600 = true := by decide +kernel
theorem d_law_602 : decode code 602 = .ok (.ifCond .ne 15, 3) := by decide +kernel
theorem d_law_617 : decode code 617 = .ok (.goto 854, 3) := by decide +kernel
theorem k_law_605 : px_dec code [.aload_n 3, .iconst 0] 605 = true := by decide +kernel
theorem d_law_607 : decode code 607 = .ok (.laload, 1) := by decide +kernel
theorem k_law_608 : px_dec code [.iload 6, .i2l] 608 = true := by decide +kernel
theorem d_law_611 : decode code 611 = .ok (.lcmp, 1) := by decide +kernel
theorem d_law_612 : decode code 612 = .ok (.ifCond .eq 5, 3) := by decide +kernel
set_option maxRecDepth 100000 in
set_option maxHeartbeats 4000000 in
theorem lw_mode {p : Program} {l : Launch} {e : Env} {s : State} {m : MethodId} {args : Array Value} {below : List Frame} {meth : Method} {c : Code} {Q : State → Prop} {D : va_G} {HB : Heap} {hh : List (Nat × Nat × Nat × Nat)} (C : wk_C p s m args meth c code "ProfileRightsLaw" 7 ret hh D HB) (hlt : l.stackTraces = false) {b L : Nat} {xs : Nat → Int32} (hZ : va_T .int b L (fun j => .int (xs j)) (hp_A HB) s HB) {x y ou : Nat} {A : Nat → Nat} {n cells slots : Nat} {V : vT} {own : oT} {h : hp_T} (hn : n < 512) (hL : L ≤ 3072) (h6 : 6 * n + 6 ≤ L) (hc : cells + 8 ≤ 601024) (hs : slots + 200 ≤ 7293034) (I : iv D x y ou A n V own h) (K : ∀ (V2 : vT) (own2 : oT) (h2 : hp_T), iv D x y ou A (n + 1) V2 own2 h2 → Wk p l e room_1 s m args below meth c 7 D HB Q h2 (cells + 8) (slots + 200) 1471 [(0, .ref b), (1, .ref x), (2, .ref y), (3, .ref ou), (4, .int (nI (6 * n)))] []) : Wk p l e room_1 s m args below meth c 7 D HB Q h cells slots 552 [(0, .ref b), (1, .ref x), (2, .ref y), (3, .ref ou), (4, .int (nI (6 * n)))] [] := by
  obtain ⟨IM, IC, IW, IR, Iy, IA, Io, f, hou⟩ := id I
  have no := mq_ou IM hou
  obtain ⟨gl, ul, pl, mo, aq, tr, hx0⟩ := cr_x IC
  refine wk_run C k_law_552 (pc2 := 558) (lv2 := [(0, .ref b), (1, .ref x), (2, .ref y), (3, .ref ou), (4, .int (nI (6 * n)))]) (st2 := [.int ((nI (6 * n)) + 1), .ref b, .ref x]) rfl ?_
  refine wk_tld C hZ (nI_in (c := 6 * n) (by omega) (by omega)) (show Value.int (xs (nI (6 * n)).toNatClampNeg) = .int (xs (6 * n)) by rw [nI_clamp (by omega)]) d_law_558 ?_
  refine wk_run C k_law_559 (pc2 := 564) (lv2 := [(0, .ref b), (1, .ref x), (2, .ref y), (3, .ref ou), (4, .int (nI (6 * n)))]) (st2 := [.int ((nI (6 * n)) + 2), .ref b, .int (xs (6 * n)), .ref x]) rfl ?_
  refine wk_tld C hZ (nI_in (c := 6 * n) (by omega) (by omega)) (show Value.int (xs (nI (6 * n)).toNatClampNeg) = .int (xs (6 * n)) by rw [nI_clamp (by omega)]) d_law_564 ?_
  refine wk_run C k_law_565 (pc2 := 566) (lv2 := [(0, .ref b), (1, .ref x), (2, .ref y), (3, .ref ou), (4, .int (nI (6 * n)))]) (st2 := [.ref ou, .int (xs (6 * n)), .int (xs (6 * n)), .ref x]) rfl ?_
  refine wk_callSW (rest := []) C (c_LW_mode l D HB h hlt own V x ou (xs (6 * n + 1)) (xs (6 * n + 2)) f IC IW hou Io) cs_LW_100 kc_LW_mode ki_LW rfl rfl (Nat.le_of_ble_eq_true rfl) (Nat.le_of_ble_eq_true rfl) (Nat.le_of_ble_eq_true rfl) hc hs d_law_566 (fun v h2 hq => ?_) (fun E h2 hq => by obtain ⟨_, _, z, _⟩ := hq; cases z)
  obtain ⟨own2, f2, e1, hcr, hso, ho2, hou2, hf2⟩ := hq; cases e1
  show Wk _ _ _ _ _ _ _ _ _ _ _ _ _ _ _ _ _ _ _ (.int (sp_mode V (xs (6 * n + 1)) (xs (6 * n + 2))).1 :: _)
  have ic := iv_c I hso
  refine wk_run C k_law_569 (pc2 := 577) (lv2 := [(5, .int (sp_mode V (xs (6 * n + 1)) (xs (6 * n + 2))).1), (0, .ref b), (1, .ref x), (2, .ref y), (3, .ref ou), (4, .int (nI (6 * n)))]) (st2 := [.int ((nI (6 * n)) + 1), .ref b, .ref y]) rfl ?_
  refine wk_tld C hZ (nI_in (c := 6 * n) (by omega) (by omega)) (show Value.int (xs (nI (6 * n)).toNatClampNeg) = .int (xs (6 * n)) by rw [nI_clamp (by omega)]) d_law_577 ?_
  refine wk_run C k_law_578 (pc2 := 583) (lv2 := [(5, .int (sp_mode V (xs (6 * n + 1)) (xs (6 * n + 2))).1), (0, .ref b), (1, .ref x), (2, .ref y), (3, .ref ou), (4, .int (nI (6 * n)))]) (st2 := [.int ((nI (6 * n)) + 2), .ref b, .int (xs (6 * n)), .ref y]) rfl ?_
  refine wk_tld C hZ (nI_in (c := 6 * n) (by omega) (by omega)) (show Value.int (xs (nI (6 * n)).toNatClampNeg) = .int (xs (6 * n)) by rw [nI_clamp (by omega)]) d_law_583 ?_
  refine wk_callV (cl := ("ProfileRightsModel", T_MD, 27)) (rest := []) C (m_mode l D HB h2 h2 y A V (xs (6 * n + 1)) (xs (6 * n + 2)) IW ic.1) cs_LW_102 kc_MD_mode ki_MD ic.1.ob rfl rfl rfl (Nat.le_of_ble_eq_true rfl) (Nat.le_of_ble_eq_true rfl) (Nat.le_of_ble_eq_true rfl) hc hs d_law_584 (fun v2 h3 hq2 => ?_) (fun E h9 hq9 => by obtain ⟨_, _, _, _, z, _⟩ := hq9; cases z)
  obtain ⟨cd, r, V2, es, e1, hM2⟩ := hq2; cases e1
  show Wk _ _ _ _ _ _ _ _ _ _ _ _ _ _ _ _ _ _ _ (.int r :: _)
  have hW2 : wf V2 := by have z : wf (sp_mode V (xs (6 * n + 1)) (xs (6 * n + 2))).2.2 := wf_mode IW; rw [es] at z; exact z
  have hR2 : ok_ (V2 25 0) (n + 1) := by have z := r25_mode (V := V) (xs (6 * n + 1)) (xs (6 * n + 2)) (by omega) IR; rw [es] at z; exact z
  have he : ∀ j, j ≠ 0 → j ≠ 26 → V2 j = (sp_mode V (xs (6 * n + 1)) (xs (6 * n + 2))).2.2 j := fun j _ h26 => by rw [es]
  have ecd : V2 0 0 = (sp_mode V (xs (6 * n + 1)) (xs (6 * n + 2))).1 := by have z := cd_mode V (xs (6 * n + 1)) (xs (6 * n + 2)); rw [es] at z ⊢; exact z
  have er : (sp_mode V (xs (6 * n + 1)) (xs (6 * n + 2))).2.1 = r := by rw [es]
  refine wk_run C k_law_587 (pc2 := 590) (lv2 := [(6, .int r), (5, .int (sp_mode V (xs (6 * n + 1)) (xs (6 * n + 2))).1), (0, .ref b), (1, .ref x), (2, .ref y), (3, .ref ou), (4, .int (nI (6 * n)))]) (st2 := [.ref y]) rfl ?_
  refine wk_callV (cl := ("ProfileRightsModel", T_MD, 27)) (rest := []) C (c_MD_thrown l D HB h3 h2 y A V2 hM2) cs_LW_79 kc_MD_thrown ki_MD hM2.ob rfl rfl rfl (Nat.le_of_ble_eq_true rfl) (Nat.le_of_ble_eq_true rfl) (Nat.le_of_ble_eq_true rfl) hc hs d_law_590 (fun v3 h4 hq3 => ?_) (fun E h9 hq9 => by obtain ⟨_, _, _, _, z, _⟩ := hq9; cases z)
  obtain ⟨cd3, r3, V3, es3, e1, hM3⟩ := hq3; cases e1; cases es3
  show Wk _ _ _ _ _ _ _ _ _ _ _ _ _ _ _ _ _ _ _ (.int (V2 0 0) :: _)
  have iv2 := iv_m hcr hM3 ic.2.1 ic.2.2 (by rw [ho2]; exact Io) hou2 no hW2 hR2 he
  refine wk_run C k_law_593 (pc2 := 595) (lv2 := [(6, .int r), (5, .int (sp_mode V (xs (6 * n + 1)) (xs (6 * n + 2))).1), (0, .ref b), (1, .ref x), (2, .ref y), (3, .ref ou), (4, .int (nI (6 * n)))]) (st2 := [.int (sp_mode V (xs (6 * n + 1)) (xs (6 * n + 2))).1, .int (V2 0 0)]) rfl ?_
  refine wk_br C d_law_595 (P := (V2 0 0) = ((sp_mode V (xs (6 * n + 1)) (xs (6 * n + 2))).1)) (tgt := 600) (rest := []) rfl (by decide) (fun c1 => ?_) (fun c1 => ?_)
  ·
    refine wk_run C k_law_600 (pc2 := 602) (lv2 := [(6, .int r), (5, .int (sp_mode V (xs (6 * n + 1)) (xs (6 * n + 2))).1), (0, .ref b), (1, .ref x), (2, .ref y), (3, .ref ou), (4, .int (nI (6 * n)))]) (st2 := [.int (sp_mode V (xs (6 * n + 1)) (xs (6 * n + 2))).1]) rfl ?_
    refine wk_br C d_law_602 (P := ¬ ((sp_mode V (xs (6 * n + 1)) (xs (6 * n + 2))).1) = 0) (tgt := 617) (rest := []) rfl (by decide) (fun c2 => ?_) (fun c2 => ?_)
    ·
      refine wk_goto C d_law_617 (tgt := 1471) (by decide) ?_
      refine Wk.sub (lv2 := [(0, .ref b), (1, .ref x), (2, .ref y), (3, .ref ou), (4, .int (nI (6 * n)))]) [2, 3, 4, 5, 6] rfl ?_
      exact K _ own2 _ iv2.1
    ·
      have hf3 := hf2 (Classical.not_not.mp c2)
      refine wk_run C k_law_605 (pc2 := 607) (lv2 := [(6, .int r), (5, .int (sp_mode V (xs (6 * n + 1)) (xs (6 * n + 2))).1), (0, .ref b), (1, .ref x), (2, .ref y), (3, .ref ou), (4, .int (nI (6 * n)))]) (st2 := [.int 0, .ref ou]) rfl ?_
      refine wk_lald C iv2.2 (nI_in (c := 0) (by decide) (by decide)) d_law_607 ?_
      show Wk _ _ _ _ _ _ _ _ _ _ _ _ _ _ _ _ _ _ _ (.long (f2 0) :: _)
      rw [hf3, er]
      refine wk_run C k_law_608 (pc2 := 611) (lv2 := [(6, .int r), (5, .int (sp_mode V (xs (6 * n + 1)) (xs (6 * n + 2))).1), (0, .ref b), (1, .ref x), (2, .ref y), (3, .ref ou), (4, .int (nI (6 * n)))]) (st2 := [.long r.toInt64, .long r.toInt64]) rfl ?_
      refine wk_lcmp C d_law_611 ?_
      refine wk_br C d_law_612 (P := (lg_cmp r.toInt64 r.toInt64) = 0) (tgt := 617) (rest := []) rfl (by decide) (fun c4 => ?_) (fun c4 => ?_)
      ·
        refine wk_goto C d_law_617 (tgt := 1471) (by decide) ?_
        refine Wk.sub (lv2 := [(0, .ref b), (1, .ref x), (2, .ref y), (3, .ref ou), (4, .int (nI (6 * n)))]) [2, 3, 4, 5, 6] rfl ?_
        exact K _ own2 _ iv2.1
      ·
        exact absurd (lg_s _) c4
  ·
    exact absurd ecd c1
theorem k_law_620 : px_dec code [.aload_n 1, .aload_n 0, .iload 4, .iconst 1, .iadd] 620 = true := by decide +kernel
theorem d_law_626 : decode code 626 = .ok (.iaload, 1) := by decide +kernel
theorem k_law_627 : px_dec code [.aload_n 0, .iload 4, .iconst 2, .iadd] 627 = true := by decide +kernel
theorem d_law_632 : decode code 632 = .ok (.iaload, 1) := by decide +kernel
theorem k_law_633 : px_dec code [.aload_n 3] 633 = true := by decide +kernel
theorem d_law_634 : decode code 634 = .ok (.invokestatic 103, 3) := by decide +kernel
theorem k_law_637 : px_dec code [.istore 5, .aload_n 2, .aload_n 0, .iload 4, .iconst 1, .iadd] 637 = true := by decide +kernel
theorem d_law_645 : decode code 645 = .ok (.iaload, 1) := by decide +kernel
theorem k_law_646 : px_dec code [.aload_n 0, .iload 4, .iconst 2, .iadd] 646 = true := by decide +kernel
theorem d_law_651 : decode code 651 = .ok (.iaload, 1) := by decide +kernel
theorem d_law_652 : decode code 652 = .ok (.invokevirtual 105, 3) := by decide +kernel
theorem k_law_655 : px_dec code [.istore 6, .aload_n 2] 655 = true := by decide +kernel
theorem d_law_658 : decode code 658 = .ok (.invokevirtual 79, 3) := by decide +kernel
theorem k_law_661 : px_dec code [.iload 5] 661 = true := by decide +kernel
theorem d_law_663 : decode code 663 = .ok (.if_icmp .eq 5, 3) := by decide +kernel
theorem k_law_668 : px_dec code [.iload 5] 668 = true := by decide +kernel
theorem d_law_670 : decode code 670 = .ok (.ifCond .ne 15, 3) := by decide +kernel
theorem d_law_685 : decode code 685 = .ok (.goto 786, 3) := by decide +kernel
theorem k_law_673 : px_dec code [.aload_n 3, .iconst 0] 673 = true := by decide +kernel
theorem d_law_675 : decode code 675 = .ok (.laload, 1) := by decide +kernel
theorem k_law_676 : px_dec code [.iload 6, .i2l] 676 = true := by decide +kernel
theorem d_law_679 : decode code 679 = .ok (.lcmp, 1) := by decide +kernel
theorem d_law_680 : decode code 680 = .ok (.ifCond .eq 5, 3) := by decide +kernel
set_option maxRecDepth 100000 in
set_option maxHeartbeats 4000000 in
theorem lw_profile {p : Program} {l : Launch} {e : Env} {s : State} {m : MethodId} {args : Array Value} {below : List Frame} {meth : Method} {c : Code} {Q : State → Prop} {D : va_G} {HB : Heap} {hh : List (Nat × Nat × Nat × Nat)} (C : wk_C p s m args meth c code "ProfileRightsLaw" 7 ret hh D HB) (hlt : l.stackTraces = false) {b L : Nat} {xs : Nat → Int32} (hZ : va_T .int b L (fun j => .int (xs j)) (hp_A HB) s HB) {x y ou : Nat} {A : Nat → Nat} {n cells slots : Nat} {V : vT} {own : oT} {h : hp_T} (hn : n < 512) (hL : L ≤ 3072) (h6 : 6 * n + 6 ≤ L) (hc : cells + 8 ≤ 601024) (hs : slots + 200 ≤ 7293034) (I : iv D x y ou A n V own h) (K : ∀ (V2 : vT) (own2 : oT) (h2 : hp_T), iv D x y ou A (n + 1) V2 own2 h2 → Wk p l e room_1 s m args below meth c 7 D HB Q h2 (cells + 8) (slots + 200) 1471 [(0, .ref b), (1, .ref x), (2, .ref y), (3, .ref ou), (4, .int (nI (6 * n)))] []) : Wk p l e room_1 s m args below meth c 7 D HB Q h cells slots 620 [(0, .ref b), (1, .ref x), (2, .ref y), (3, .ref ou), (4, .int (nI (6 * n)))] [] := by
  obtain ⟨IM, IC, IW, IR, Iy, IA, Io, f, hou⟩ := id I
  have no := mq_ou IM hou
  obtain ⟨gl, ul, pl, mo, aq, tr, hx0⟩ := cr_x IC
  refine wk_run C k_law_620 (pc2 := 626) (lv2 := [(0, .ref b), (1, .ref x), (2, .ref y), (3, .ref ou), (4, .int (nI (6 * n)))]) (st2 := [.int ((nI (6 * n)) + 1), .ref b, .ref x]) rfl ?_
  refine wk_tld C hZ (nI_in (c := 6 * n) (by omega) (by omega)) (show Value.int (xs (nI (6 * n)).toNatClampNeg) = .int (xs (6 * n)) by rw [nI_clamp (by omega)]) d_law_626 ?_
  refine wk_run C k_law_627 (pc2 := 632) (lv2 := [(0, .ref b), (1, .ref x), (2, .ref y), (3, .ref ou), (4, .int (nI (6 * n)))]) (st2 := [.int ((nI (6 * n)) + 2), .ref b, .int (xs (6 * n)), .ref x]) rfl ?_
  refine wk_tld C hZ (nI_in (c := 6 * n) (by omega) (by omega)) (show Value.int (xs (nI (6 * n)).toNatClampNeg) = .int (xs (6 * n)) by rw [nI_clamp (by omega)]) d_law_632 ?_
  refine wk_run C k_law_633 (pc2 := 634) (lv2 := [(0, .ref b), (1, .ref x), (2, .ref y), (3, .ref ou), (4, .int (nI (6 * n)))]) (st2 := [.ref ou, .int (xs (6 * n)), .int (xs (6 * n)), .ref x]) rfl ?_
  refine wk_callSW (rest := []) C (c_LW_profile l D HB h hlt own V x ou (xs (6 * n + 1)) (xs (6 * n + 2)) f IC IW hou Io) cs_LW_103 kc_LW_profile ki_LW rfl rfl (Nat.le_of_ble_eq_true rfl) (Nat.le_of_ble_eq_true rfl) (Nat.le_of_ble_eq_true rfl) hc hs d_law_634 (fun v h2 hq => ?_) (fun E h2 hq => by obtain ⟨_, _, z, _⟩ := hq; cases z)
  obtain ⟨own2, f2, e1, hcr, hso, ho2, hou2, hf2⟩ := hq; cases e1
  show Wk _ _ _ _ _ _ _ _ _ _ _ _ _ _ _ _ _ _ _ (.int (sp_profile V (xs (6 * n + 1)) (xs (6 * n + 2))).1 :: _)
  have ic := iv_c I hso
  refine wk_run C k_law_637 (pc2 := 645) (lv2 := [(5, .int (sp_profile V (xs (6 * n + 1)) (xs (6 * n + 2))).1), (0, .ref b), (1, .ref x), (2, .ref y), (3, .ref ou), (4, .int (nI (6 * n)))]) (st2 := [.int ((nI (6 * n)) + 1), .ref b, .ref y]) rfl ?_
  refine wk_tld C hZ (nI_in (c := 6 * n) (by omega) (by omega)) (show Value.int (xs (nI (6 * n)).toNatClampNeg) = .int (xs (6 * n)) by rw [nI_clamp (by omega)]) d_law_645 ?_
  refine wk_run C k_law_646 (pc2 := 651) (lv2 := [(5, .int (sp_profile V (xs (6 * n + 1)) (xs (6 * n + 2))).1), (0, .ref b), (1, .ref x), (2, .ref y), (3, .ref ou), (4, .int (nI (6 * n)))]) (st2 := [.int ((nI (6 * n)) + 2), .ref b, .int (xs (6 * n)), .ref y]) rfl ?_
  refine wk_tld C hZ (nI_in (c := 6 * n) (by omega) (by omega)) (show Value.int (xs (nI (6 * n)).toNatClampNeg) = .int (xs (6 * n)) by rw [nI_clamp (by omega)]) d_law_651 ?_
  refine wk_callV (cl := ("ProfileRightsModel", T_MD, 27)) (rest := []) C (m_profile l D HB h2 h2 y A V (xs (6 * n + 1)) (xs (6 * n + 2)) IW ic.1) cs_LW_105 kc_MD_profile ki_MD ic.1.ob rfl rfl rfl (Nat.le_of_ble_eq_true rfl) (Nat.le_of_ble_eq_true rfl) (Nat.le_of_ble_eq_true rfl) hc hs d_law_652 (fun v2 h3 hq2 => ?_) (fun E h9 hq9 => by obtain ⟨_, _, _, _, z, _⟩ := hq9; cases z)
  obtain ⟨cd, r, V2, es, e1, hM2⟩ := hq2; cases e1
  show Wk _ _ _ _ _ _ _ _ _ _ _ _ _ _ _ _ _ _ _ (.int r :: _)
  have hW2 : wf V2 := by have z : wf (sp_profile V (xs (6 * n + 1)) (xs (6 * n + 2))).2.2 := wf_profile IW; rw [es] at z; exact z
  have hR2 : ok_ (V2 25 0) (n + 1) := by have z := r25_profile (V := V) (xs (6 * n + 1)) (xs (6 * n + 2)) (by omega) IR; rw [es] at z; exact z
  have he : ∀ j, j ≠ 0 → j ≠ 26 → V2 j = (sp_profile V (xs (6 * n + 1)) (xs (6 * n + 2))).2.2 j := fun j _ h26 => by rw [es]
  have ecd : V2 0 0 = (sp_profile V (xs (6 * n + 1)) (xs (6 * n + 2))).1 := by have z := cd_profile V (xs (6 * n + 1)) (xs (6 * n + 2)); rw [es] at z ⊢; exact z
  have er : (sp_profile V (xs (6 * n + 1)) (xs (6 * n + 2))).2.1 = r := by rw [es]
  refine wk_run C k_law_655 (pc2 := 658) (lv2 := [(6, .int r), (5, .int (sp_profile V (xs (6 * n + 1)) (xs (6 * n + 2))).1), (0, .ref b), (1, .ref x), (2, .ref y), (3, .ref ou), (4, .int (nI (6 * n)))]) (st2 := [.ref y]) rfl ?_
  refine wk_callV (cl := ("ProfileRightsModel", T_MD, 27)) (rest := []) C (c_MD_thrown l D HB h3 h2 y A V2 hM2) cs_LW_79 kc_MD_thrown ki_MD hM2.ob rfl rfl rfl (Nat.le_of_ble_eq_true rfl) (Nat.le_of_ble_eq_true rfl) (Nat.le_of_ble_eq_true rfl) hc hs d_law_658 (fun v3 h4 hq3 => ?_) (fun E h9 hq9 => by obtain ⟨_, _, _, _, z, _⟩ := hq9; cases z)
  obtain ⟨cd3, r3, V3, es3, e1, hM3⟩ := hq3; cases e1; cases es3
  show Wk _ _ _ _ _ _ _ _ _ _ _ _ _ _ _ _ _ _ _ (.int (V2 0 0) :: _)
  have iv2 := iv_m hcr hM3 ic.2.1 ic.2.2 (by rw [ho2]; exact Io) hou2 no hW2 hR2 he
  refine wk_run C k_law_661 (pc2 := 663) (lv2 := [(6, .int r), (5, .int (sp_profile V (xs (6 * n + 1)) (xs (6 * n + 2))).1), (0, .ref b), (1, .ref x), (2, .ref y), (3, .ref ou), (4, .int (nI (6 * n)))]) (st2 := [.int (sp_profile V (xs (6 * n + 1)) (xs (6 * n + 2))).1, .int (V2 0 0)]) rfl ?_
  refine wk_br C d_law_663 (P := (V2 0 0) = ((sp_profile V (xs (6 * n + 1)) (xs (6 * n + 2))).1)) (tgt := 668) (rest := []) rfl (by decide) (fun c1 => ?_) (fun c1 => ?_)
  ·
    refine wk_run C k_law_668 (pc2 := 670) (lv2 := [(6, .int r), (5, .int (sp_profile V (xs (6 * n + 1)) (xs (6 * n + 2))).1), (0, .ref b), (1, .ref x), (2, .ref y), (3, .ref ou), (4, .int (nI (6 * n)))]) (st2 := [.int (sp_profile V (xs (6 * n + 1)) (xs (6 * n + 2))).1]) rfl ?_
    refine wk_br C d_law_670 (P := ¬ ((sp_profile V (xs (6 * n + 1)) (xs (6 * n + 2))).1) = 0) (tgt := 685) (rest := []) rfl (by decide) (fun c2 => ?_) (fun c2 => ?_)
    ·
      refine wk_goto C d_law_685 (tgt := 1471) (by decide) ?_
      refine Wk.sub (lv2 := [(0, .ref b), (1, .ref x), (2, .ref y), (3, .ref ou), (4, .int (nI (6 * n)))]) [2, 3, 4, 5, 6] rfl ?_
      exact K _ own2 _ iv2.1
    ·
      have hf3 := hf2 (Classical.not_not.mp c2)
      refine wk_run C k_law_673 (pc2 := 675) (lv2 := [(6, .int r), (5, .int (sp_profile V (xs (6 * n + 1)) (xs (6 * n + 2))).1), (0, .ref b), (1, .ref x), (2, .ref y), (3, .ref ou), (4, .int (nI (6 * n)))]) (st2 := [.int 0, .ref ou]) rfl ?_
      refine wk_lald C iv2.2 (nI_in (c := 0) (by decide) (by decide)) d_law_675 ?_
      show Wk _ _ _ _ _ _ _ _ _ _ _ _ _ _ _ _ _ _ _ (.long (f2 0) :: _)
      rw [hf3, er]
      refine wk_run C k_law_676 (pc2 := 679) (lv2 := [(6, .int r), (5, .int (sp_profile V (xs (6 * n + 1)) (xs (6 * n + 2))).1), (0, .ref b), (1, .ref x), (2, .ref y), (3, .ref ou), (4, .int (nI (6 * n)))]) (st2 := [.long r.toInt64, .long r.toInt64]) rfl ?_
      refine wk_lcmp C d_law_679 ?_
      refine wk_br C d_law_680 (P := (lg_cmp r.toInt64 r.toInt64) = 0) (tgt := 685) (rest := []) rfl (by decide) (fun c4 => ?_) (fun c4 => ?_)
      ·
        refine wk_goto C d_law_685 (tgt := 1471) (by decide) ?_
        refine Wk.sub (lv2 := [(0, .ref b), (1, .ref x), (2, .ref y), (3, .ref ou), (4, .int (nI (6 * n)))]) [2, 3, 4, 5, 6] rfl ?_
        exact K _ own2 _ iv2.1
      ·
        exact absurd (lg_s _) c4
  ·
    exact absurd ecd c1
theorem k_law_688 : px_dec code [.aload_n 1, .aload_n 0, .iload 4, .iconst 1, .iadd] 688 = true := by decide +kernel
theorem d_law_694 : decode code 694 = .ok (.iaload, 1) := by decide +kernel
theorem k_law_695 : px_dec code [.aload_n 0, .iload 4, .iconst 2, .iadd] 695 = true := by decide +kernel
theorem d_law_700 : decode code 700 = .ok (.iaload, 1) := by decide +kernel
theorem k_law_701 : px_dec code [.aload_n 3] 701 = true := by decide +kernel
theorem d_law_702 : decode code 702 = .ok (.invokestatic 106, 3) := by decide +kernel
theorem k_law_705 : px_dec code [.istore 5, .aload_n 2, .aload_n 0, .iload 4, .iconst 1, .iadd] 705 = true := by decide +kernel
theorem d_law_713 : decode code 713 = .ok (.iaload, 1) := by decide +kernel
theorem k_law_714 : px_dec code [.aload_n 0, .iload 4, .iconst 2, .iadd] 714 = true := by decide +kernel
theorem d_law_719 : decode code 719 = .ok (.iaload, 1) := by decide +kernel
theorem d_law_720 : decode code 720 = .ok (.invokevirtual 108, 3) := by decide +kernel
theorem k_law_723 : px_dec code [.istore 6, .aload_n 2] 723 = true := by decide +kernel
theorem d_law_726 : decode code 726 = .ok (.invokevirtual 79, 3) := by decide +kernel
theorem k_law_729 : px_dec code [.iload 5] 729 = true := by decide +kernel
theorem d_law_731 : decode code 731 = .ok (.if_icmp .eq 5, 3) := by decide +kernel
theorem k_law_736 : px_dec code [.iload 5] 736 = true := by decide +kernel
theorem d_law_738 : decode code 738 = .ok (.ifCond .ne 15, 3) := by decide +kernel
theorem d_law_753 : decode code 753 = .ok (.goto 718, 3) := by decide +kernel
theorem k_law_741 : px_dec code [.aload_n 3, .iconst 0] 741 = true := by decide +kernel
theorem d_law_743 : decode code 743 = .ok (.laload, 1) := by decide +kernel
theorem k_law_744 : px_dec code [.iload 6, .i2l] 744 = true := by decide +kernel
theorem d_law_747 : decode code 747 = .ok (.lcmp, 1) := by decide +kernel
theorem d_law_748 : decode code 748 = .ok (.ifCond .eq 5, 3) := by decide +kernel
set_option maxRecDepth 100000 in
set_option maxHeartbeats 4000000 in
theorem lw_name {p : Program} {l : Launch} {e : Env} {s : State} {m : MethodId} {args : Array Value} {below : List Frame} {meth : Method} {c : Code} {Q : State → Prop} {D : va_G} {HB : Heap} {hh : List (Nat × Nat × Nat × Nat)} (C : wk_C p s m args meth c code "ProfileRightsLaw" 7 ret hh D HB) (hlt : l.stackTraces = false) {b L : Nat} {xs : Nat → Int32} (hZ : va_T .int b L (fun j => .int (xs j)) (hp_A HB) s HB) {x y ou : Nat} {A : Nat → Nat} {n cells slots : Nat} {V : vT} {own : oT} {h : hp_T} (hn : n < 512) (hL : L ≤ 3072) (h6 : 6 * n + 6 ≤ L) (hc : cells + 8 ≤ 601024) (hs : slots + 200 ≤ 7293034) (I : iv D x y ou A n V own h) (K : ∀ (V2 : vT) (own2 : oT) (h2 : hp_T), iv D x y ou A (n + 1) V2 own2 h2 → Wk p l e room_1 s m args below meth c 7 D HB Q h2 (cells + 8) (slots + 200) 1471 [(0, .ref b), (1, .ref x), (2, .ref y), (3, .ref ou), (4, .int (nI (6 * n)))] []) : Wk p l e room_1 s m args below meth c 7 D HB Q h cells slots 688 [(0, .ref b), (1, .ref x), (2, .ref y), (3, .ref ou), (4, .int (nI (6 * n)))] [] := by
  obtain ⟨IM, IC, IW, IR, Iy, IA, Io, f, hou⟩ := id I
  have no := mq_ou IM hou
  obtain ⟨gl, ul, pl, mo, aq, tr, hx0⟩ := cr_x IC
  refine wk_run C k_law_688 (pc2 := 694) (lv2 := [(0, .ref b), (1, .ref x), (2, .ref y), (3, .ref ou), (4, .int (nI (6 * n)))]) (st2 := [.int ((nI (6 * n)) + 1), .ref b, .ref x]) rfl ?_
  refine wk_tld C hZ (nI_in (c := 6 * n) (by omega) (by omega)) (show Value.int (xs (nI (6 * n)).toNatClampNeg) = .int (xs (6 * n)) by rw [nI_clamp (by omega)]) d_law_694 ?_
  refine wk_run C k_law_695 (pc2 := 700) (lv2 := [(0, .ref b), (1, .ref x), (2, .ref y), (3, .ref ou), (4, .int (nI (6 * n)))]) (st2 := [.int ((nI (6 * n)) + 2), .ref b, .int (xs (6 * n)), .ref x]) rfl ?_
  refine wk_tld C hZ (nI_in (c := 6 * n) (by omega) (by omega)) (show Value.int (xs (nI (6 * n)).toNatClampNeg) = .int (xs (6 * n)) by rw [nI_clamp (by omega)]) d_law_700 ?_
  refine wk_run C k_law_701 (pc2 := 702) (lv2 := [(0, .ref b), (1, .ref x), (2, .ref y), (3, .ref ou), (4, .int (nI (6 * n)))]) (st2 := [.ref ou, .int (xs (6 * n)), .int (xs (6 * n)), .ref x]) rfl ?_
  refine wk_callSW (rest := []) C (c_LW_name l D HB h hlt own V x ou (xs (6 * n + 1)) (xs (6 * n + 2)) f IC IW hou Io) cs_LW_106 kc_LW_name ki_LW rfl rfl (Nat.le_of_ble_eq_true rfl) (Nat.le_of_ble_eq_true rfl) (Nat.le_of_ble_eq_true rfl) hc hs d_law_702 (fun v h2 hq => ?_) (fun E h2 hq => by obtain ⟨_, _, z, _⟩ := hq; cases z)
  obtain ⟨own2, f2, e1, hcr, hso, ho2, hou2, hf2⟩ := hq; cases e1
  show Wk _ _ _ _ _ _ _ _ _ _ _ _ _ _ _ _ _ _ _ (.int (sp_name V (xs (6 * n + 1)) (xs (6 * n + 2))).1 :: _)
  have ic := iv_c I hso
  refine wk_run C k_law_705 (pc2 := 713) (lv2 := [(5, .int (sp_name V (xs (6 * n + 1)) (xs (6 * n + 2))).1), (0, .ref b), (1, .ref x), (2, .ref y), (3, .ref ou), (4, .int (nI (6 * n)))]) (st2 := [.int ((nI (6 * n)) + 1), .ref b, .ref y]) rfl ?_
  refine wk_tld C hZ (nI_in (c := 6 * n) (by omega) (by omega)) (show Value.int (xs (nI (6 * n)).toNatClampNeg) = .int (xs (6 * n)) by rw [nI_clamp (by omega)]) d_law_713 ?_
  refine wk_run C k_law_714 (pc2 := 719) (lv2 := [(5, .int (sp_name V (xs (6 * n + 1)) (xs (6 * n + 2))).1), (0, .ref b), (1, .ref x), (2, .ref y), (3, .ref ou), (4, .int (nI (6 * n)))]) (st2 := [.int ((nI (6 * n)) + 2), .ref b, .int (xs (6 * n)), .ref y]) rfl ?_
  refine wk_tld C hZ (nI_in (c := 6 * n) (by omega) (by omega)) (show Value.int (xs (nI (6 * n)).toNatClampNeg) = .int (xs (6 * n)) by rw [nI_clamp (by omega)]) d_law_719 ?_
  refine wk_callV (cl := ("ProfileRightsModel", T_MD, 27)) (rest := []) C (m_name l D HB h2 h2 y A V (xs (6 * n + 1)) (xs (6 * n + 2)) IW ic.1) cs_LW_108 kc_MD_name ki_MD ic.1.ob rfl rfl rfl (Nat.le_of_ble_eq_true rfl) (Nat.le_of_ble_eq_true rfl) (Nat.le_of_ble_eq_true rfl) hc hs d_law_720 (fun v2 h3 hq2 => ?_) (fun E h9 hq9 => by obtain ⟨_, _, _, _, z, _⟩ := hq9; cases z)
  obtain ⟨cd, r, V2, es, e1, hM2⟩ := hq2; cases e1
  show Wk _ _ _ _ _ _ _ _ _ _ _ _ _ _ _ _ _ _ _ (.int r :: _)
  have hW2 : wf V2 := by have z : wf (sp_name V (xs (6 * n + 1)) (xs (6 * n + 2))).2.2 := wf_name IW; rw [es] at z; exact z
  have hR2 : ok_ (V2 25 0) (n + 1) := by have z := r25_name (V := V) (xs (6 * n + 1)) (xs (6 * n + 2)) (by omega) IR; rw [es] at z; exact z
  have he : ∀ j, j ≠ 0 → j ≠ 26 → V2 j = (sp_name V (xs (6 * n + 1)) (xs (6 * n + 2))).2.2 j := fun j _ h26 => by rw [es]
  have ecd : V2 0 0 = (sp_name V (xs (6 * n + 1)) (xs (6 * n + 2))).1 := by have z := cd_name V (xs (6 * n + 1)) (xs (6 * n + 2)); rw [es] at z ⊢; exact z
  have er : (sp_name V (xs (6 * n + 1)) (xs (6 * n + 2))).2.1 = r := by rw [es]
  refine wk_run C k_law_723 (pc2 := 726) (lv2 := [(6, .int r), (5, .int (sp_name V (xs (6 * n + 1)) (xs (6 * n + 2))).1), (0, .ref b), (1, .ref x), (2, .ref y), (3, .ref ou), (4, .int (nI (6 * n)))]) (st2 := [.ref y]) rfl ?_
  refine wk_callV (cl := ("ProfileRightsModel", T_MD, 27)) (rest := []) C (c_MD_thrown l D HB h3 h2 y A V2 hM2) cs_LW_79 kc_MD_thrown ki_MD hM2.ob rfl rfl rfl (Nat.le_of_ble_eq_true rfl) (Nat.le_of_ble_eq_true rfl) (Nat.le_of_ble_eq_true rfl) hc hs d_law_726 (fun v3 h4 hq3 => ?_) (fun E h9 hq9 => by obtain ⟨_, _, _, _, z, _⟩ := hq9; cases z)
  obtain ⟨cd3, r3, V3, es3, e1, hM3⟩ := hq3; cases e1; cases es3
  show Wk _ _ _ _ _ _ _ _ _ _ _ _ _ _ _ _ _ _ _ (.int (V2 0 0) :: _)
  have iv2 := iv_m hcr hM3 ic.2.1 ic.2.2 (by rw [ho2]; exact Io) hou2 no hW2 hR2 he
  refine wk_run C k_law_729 (pc2 := 731) (lv2 := [(6, .int r), (5, .int (sp_name V (xs (6 * n + 1)) (xs (6 * n + 2))).1), (0, .ref b), (1, .ref x), (2, .ref y), (3, .ref ou), (4, .int (nI (6 * n)))]) (st2 := [.int (sp_name V (xs (6 * n + 1)) (xs (6 * n + 2))).1, .int (V2 0 0)]) rfl ?_
  refine wk_br C d_law_731 (P := (V2 0 0) = ((sp_name V (xs (6 * n + 1)) (xs (6 * n + 2))).1)) (tgt := 736) (rest := []) rfl (by decide) (fun c1 => ?_) (fun c1 => ?_)
  ·
    refine wk_run C k_law_736 (pc2 := 738) (lv2 := [(6, .int r), (5, .int (sp_name V (xs (6 * n + 1)) (xs (6 * n + 2))).1), (0, .ref b), (1, .ref x), (2, .ref y), (3, .ref ou), (4, .int (nI (6 * n)))]) (st2 := [.int (sp_name V (xs (6 * n + 1)) (xs (6 * n + 2))).1]) rfl ?_
    refine wk_br C d_law_738 (P := ¬ ((sp_name V (xs (6 * n + 1)) (xs (6 * n + 2))).1) = 0) (tgt := 753) (rest := []) rfl (by decide) (fun c2 => ?_) (fun c2 => ?_)
    ·
      refine wk_goto C d_law_753 (tgt := 1471) (by decide) ?_
      refine Wk.sub (lv2 := [(0, .ref b), (1, .ref x), (2, .ref y), (3, .ref ou), (4, .int (nI (6 * n)))]) [2, 3, 4, 5, 6] rfl ?_
      exact K _ own2 _ iv2.1
    ·
      have hf3 := hf2 (Classical.not_not.mp c2)
      refine wk_run C k_law_741 (pc2 := 743) (lv2 := [(6, .int r), (5, .int (sp_name V (xs (6 * n + 1)) (xs (6 * n + 2))).1), (0, .ref b), (1, .ref x), (2, .ref y), (3, .ref ou), (4, .int (nI (6 * n)))]) (st2 := [.int 0, .ref ou]) rfl ?_
      refine wk_lald C iv2.2 (nI_in (c := 0) (by decide) (by decide)) d_law_743 ?_
      show Wk _ _ _ _ _ _ _ _ _ _ _ _ _ _ _ _ _ _ _ (.long (f2 0) :: _)
      rw [hf3, er]
      refine wk_run C k_law_744 (pc2 := 747) (lv2 := [(6, .int r), (5, .int (sp_name V (xs (6 * n + 1)) (xs (6 * n + 2))).1), (0, .ref b), (1, .ref x), (2, .ref y), (3, .ref ou), (4, .int (nI (6 * n)))]) (st2 := [.long r.toInt64, .long r.toInt64]) rfl ?_
      refine wk_lcmp C d_law_747 ?_
      refine wk_br C d_law_748 (P := (lg_cmp r.toInt64 r.toInt64) = 0) (tgt := 753) (rest := []) rfl (by decide) (fun c4 => ?_) (fun c4 => ?_)
      ·
        refine wk_goto C d_law_753 (tgt := 1471) (by decide) ?_
        refine Wk.sub (lv2 := [(0, .ref b), (1, .ref x), (2, .ref y), (3, .ref ou), (4, .int (nI (6 * n)))]) [2, 3, 4, 5, 6] rfl ?_
        exact K _ own2 _ iv2.1
      ·
        exact absurd (lg_s _) c4
  ·
    exact absurd ecd c1
theorem k_law_756 : px_dec code [.aload_n 1, .aload_n 0, .iload 4, .iconst 1, .iadd] 756 = true := by decide +kernel
theorem d_law_762 : decode code 762 = .ok (.iaload, 1) := by decide +kernel
theorem k_law_763 : px_dec code [.aload_n 0, .iload 4, .iconst 2, .iadd] 763 = true := by decide +kernel
theorem d_law_768 : decode code 768 = .ok (.iaload, 1) := by decide +kernel
theorem k_law_769 : px_dec code [.aload_n 0, .iload 4, .iconst 3, .iadd] 769 = true := by decide +kernel
theorem d_law_774 : decode code 774 = .ok (.iaload, 1) := by decide +kernel
theorem k_law_775 : px_dec code [.aload_n 3] 775 = true := by decide +kernel
theorem d_law_776 : decode code 776 = .ok (.invokestatic 109, 3) := by decide +kernel
theorem k_law_779 : px_dec code [.istore 5, .aload_n 2, .aload_n 0, .iload 4, .iconst 1, .iadd] 779 = true := by decide +kernel
theorem d_law_787 : decode code 787 = .ok (.iaload, 1) := by decide +kernel
theorem k_law_788 : px_dec code [.aload_n 0, .iload 4, .iconst 2, .iadd] 788 = true := by decide +kernel
theorem d_law_793 : decode code 793 = .ok (.iaload, 1) := by decide +kernel
theorem k_law_794 : px_dec code [.aload_n 0, .iload 4, .iconst 3, .iadd] 794 = true := by decide +kernel
theorem d_law_799 : decode code 799 = .ok (.iaload, 1) := by decide +kernel
theorem d_law_800 : decode code 800 = .ok (.invokevirtual 112, 3) := by decide +kernel
theorem k_law_803 : px_dec code [.istore 6, .aload_n 2] 803 = true := by decide +kernel
theorem d_law_806 : decode code 806 = .ok (.invokevirtual 79, 3) := by decide +kernel
theorem k_law_809 : px_dec code [.iload 5] 809 = true := by decide +kernel
theorem d_law_811 : decode code 811 = .ok (.if_icmp .eq 5, 3) := by decide +kernel
theorem k_law_816 : px_dec code [.iload 5] 816 = true := by decide +kernel
theorem d_law_818 : decode code 818 = .ok (.ifCond .ne 15, 3) := by decide +kernel
theorem d_law_833 : decode code 833 = .ok (.goto 638, 3) := by decide +kernel
theorem k_law_821 : px_dec code [.aload_n 3, .iconst 0] 821 = true := by decide +kernel
theorem d_law_823 : decode code 823 = .ok (.laload, 1) := by decide +kernel
theorem k_law_824 : px_dec code [.iload 6, .i2l] 824 = true := by decide +kernel
theorem d_law_827 : decode code 827 = .ok (.lcmp, 1) := by decide +kernel
theorem d_law_828 : decode code 828 = .ok (.ifCond .eq 5, 3) := by decide +kernel
set_option maxRecDepth 100000 in
set_option maxHeartbeats 4000000 in
theorem lw_universal {p : Program} {l : Launch} {e : Env} {s : State} {m : MethodId} {args : Array Value} {below : List Frame} {meth : Method} {c : Code} {Q : State → Prop} {D : va_G} {HB : Heap} {hh : List (Nat × Nat × Nat × Nat)} (C : wk_C p s m args meth c code "ProfileRightsLaw" 7 ret hh D HB) (hlt : l.stackTraces = false) {b L : Nat} {xs : Nat → Int32} (hZ : va_T .int b L (fun j => .int (xs j)) (hp_A HB) s HB) {x y ou : Nat} {A : Nat → Nat} {n cells slots : Nat} {V : vT} {own : oT} {h : hp_T} (hn : n < 512) (hL : L ≤ 3072) (h6 : 6 * n + 6 ≤ L) (hc : cells + 8 ≤ 601024) (hs : slots + 200 ≤ 7293034) (I : iv D x y ou A n V own h) (K : ∀ (V2 : vT) (own2 : oT) (h2 : hp_T), iv D x y ou A (n + 1) V2 own2 h2 → Wk p l e room_1 s m args below meth c 7 D HB Q h2 (cells + 8) (slots + 200) 1471 [(0, .ref b), (1, .ref x), (2, .ref y), (3, .ref ou), (4, .int (nI (6 * n)))] []) : Wk p l e room_1 s m args below meth c 7 D HB Q h cells slots 756 [(0, .ref b), (1, .ref x), (2, .ref y), (3, .ref ou), (4, .int (nI (6 * n)))] [] := by
  obtain ⟨IM, IC, IW, IR, Iy, IA, Io, f, hou⟩ := id I
  have no := mq_ou IM hou
  obtain ⟨gl, ul, pl, mo, aq, tr, hx0⟩ := cr_x IC
  refine wk_run C k_law_756 (pc2 := 762) (lv2 := [(0, .ref b), (1, .ref x), (2, .ref y), (3, .ref ou), (4, .int (nI (6 * n)))]) (st2 := [.int ((nI (6 * n)) + 1), .ref b, .ref x]) rfl ?_
  refine wk_tld C hZ (nI_in (c := 6 * n) (by omega) (by omega)) (show Value.int (xs (nI (6 * n)).toNatClampNeg) = .int (xs (6 * n)) by rw [nI_clamp (by omega)]) d_law_762 ?_
  refine wk_run C k_law_763 (pc2 := 768) (lv2 := [(0, .ref b), (1, .ref x), (2, .ref y), (3, .ref ou), (4, .int (nI (6 * n)))]) (st2 := [.int ((nI (6 * n)) + 2), .ref b, .int (xs (6 * n)), .ref x]) rfl ?_
  refine wk_tld C hZ (nI_in (c := 6 * n) (by omega) (by omega)) (show Value.int (xs (nI (6 * n)).toNatClampNeg) = .int (xs (6 * n)) by rw [nI_clamp (by omega)]) d_law_768 ?_
  refine wk_run C k_law_769 (pc2 := 774) (lv2 := [(0, .ref b), (1, .ref x), (2, .ref y), (3, .ref ou), (4, .int (nI (6 * n)))]) (st2 := [.int ((nI (6 * n)) + 3), .ref b, .int (xs (6 * n)), .int (xs (6 * n)), .ref x]) rfl ?_
  refine wk_tld C hZ (nI_in (c := 6 * n) (by omega) (by omega)) (show Value.int (xs (nI (6 * n)).toNatClampNeg) = .int (xs (6 * n)) by rw [nI_clamp (by omega)]) d_law_774 ?_
  refine wk_run C k_law_775 (pc2 := 776) (lv2 := [(0, .ref b), (1, .ref x), (2, .ref y), (3, .ref ou), (4, .int (nI (6 * n)))]) (st2 := [.ref ou, .int (xs (6 * n)), .int (xs (6 * n)), .int (xs (6 * n)), .ref x]) rfl ?_
  refine wk_callSW (rest := []) C (c_LW_universal l D HB h hlt own V x ou (xs (6 * n + 1)) (xs (6 * n + 2)) (xs (6 * n + 3)) f IC IW hou Io) cs_LW_109 kc_LW_universal ki_LW rfl rfl (Nat.le_of_ble_eq_true rfl) (Nat.le_of_ble_eq_true rfl) (Nat.le_of_ble_eq_true rfl) hc hs d_law_776 (fun v h2 hq => ?_) (fun E h2 hq => by obtain ⟨_, _, z, _⟩ := hq; cases z)
  obtain ⟨own2, f2, e1, hcr, hso, ho2, hou2, hf2⟩ := hq; cases e1
  show Wk _ _ _ _ _ _ _ _ _ _ _ _ _ _ _ _ _ _ _ (.int (sp_universal V (xs (6 * n + 1)) (xs (6 * n + 2)) (xs (6 * n + 3))).1 :: _)
  have ic := iv_c I hso
  refine wk_run C k_law_779 (pc2 := 787) (lv2 := [(5, .int (sp_universal V (xs (6 * n + 1)) (xs (6 * n + 2)) (xs (6 * n + 3))).1), (0, .ref b), (1, .ref x), (2, .ref y), (3, .ref ou), (4, .int (nI (6 * n)))]) (st2 := [.int ((nI (6 * n)) + 1), .ref b, .ref y]) rfl ?_
  refine wk_tld C hZ (nI_in (c := 6 * n) (by omega) (by omega)) (show Value.int (xs (nI (6 * n)).toNatClampNeg) = .int (xs (6 * n)) by rw [nI_clamp (by omega)]) d_law_787 ?_
  refine wk_run C k_law_788 (pc2 := 793) (lv2 := [(5, .int (sp_universal V (xs (6 * n + 1)) (xs (6 * n + 2)) (xs (6 * n + 3))).1), (0, .ref b), (1, .ref x), (2, .ref y), (3, .ref ou), (4, .int (nI (6 * n)))]) (st2 := [.int ((nI (6 * n)) + 2), .ref b, .int (xs (6 * n)), .ref y]) rfl ?_
  refine wk_tld C hZ (nI_in (c := 6 * n) (by omega) (by omega)) (show Value.int (xs (nI (6 * n)).toNatClampNeg) = .int (xs (6 * n)) by rw [nI_clamp (by omega)]) d_law_793 ?_
  refine wk_run C k_law_794 (pc2 := 799) (lv2 := [(5, .int (sp_universal V (xs (6 * n + 1)) (xs (6 * n + 2)) (xs (6 * n + 3))).1), (0, .ref b), (1, .ref x), (2, .ref y), (3, .ref ou), (4, .int (nI (6 * n)))]) (st2 := [.int ((nI (6 * n)) + 3), .ref b, .int (xs (6 * n)), .int (xs (6 * n)), .ref y]) rfl ?_
  refine wk_tld C hZ (nI_in (c := 6 * n) (by omega) (by omega)) (show Value.int (xs (nI (6 * n)).toNatClampNeg) = .int (xs (6 * n)) by rw [nI_clamp (by omega)]) d_law_799 ?_
  refine wk_callV (cl := ("ProfileRightsModel", T_MD, 27)) (rest := []) C (m_universal l D HB h2 h2 y A V (xs (6 * n + 1)) (xs (6 * n + 2)) (xs (6 * n + 3)) IW ic.1) cs_LW_112 kc_MD_universal ki_MD ic.1.ob rfl rfl rfl (Nat.le_of_ble_eq_true rfl) (Nat.le_of_ble_eq_true rfl) (Nat.le_of_ble_eq_true rfl) hc hs d_law_800 (fun v2 h3 hq2 => ?_) (fun E h9 hq9 => by obtain ⟨_, _, _, _, z, _⟩ := hq9; cases z)
  obtain ⟨cd, r, V2, es, e1, hM2⟩ := hq2; cases e1
  show Wk _ _ _ _ _ _ _ _ _ _ _ _ _ _ _ _ _ _ _ (.int r :: _)
  have hW2 : wf V2 := by have z : wf (sp_universal V (xs (6 * n + 1)) (xs (6 * n + 2)) (xs (6 * n + 3))).2.2 := wf_universal IW; rw [es] at z; exact z
  have hR2 : ok_ (V2 25 0) (n + 1) := by have z := r25_universal (V := V) (xs (6 * n + 1)) (xs (6 * n + 2)) (xs (6 * n + 3)) (by omega) IR; rw [es] at z; exact z
  have he : ∀ j, j ≠ 0 → j ≠ 26 → V2 j = (sp_universal V (xs (6 * n + 1)) (xs (6 * n + 2)) (xs (6 * n + 3))).2.2 j := fun j _ h26 => by rw [es]
  have ecd : V2 0 0 = (sp_universal V (xs (6 * n + 1)) (xs (6 * n + 2)) (xs (6 * n + 3))).1 := by have z := cd_universal V (xs (6 * n + 1)) (xs (6 * n + 2)) (xs (6 * n + 3)); rw [es] at z ⊢; exact z
  have er : (sp_universal V (xs (6 * n + 1)) (xs (6 * n + 2)) (xs (6 * n + 3))).2.1 = r := by rw [es]
  refine wk_run C k_law_803 (pc2 := 806) (lv2 := [(6, .int r), (5, .int (sp_universal V (xs (6 * n + 1)) (xs (6 * n + 2)) (xs (6 * n + 3))).1), (0, .ref b), (1, .ref x), (2, .ref y), (3, .ref ou), (4, .int (nI (6 * n)))]) (st2 := [.ref y]) rfl ?_
  refine wk_callV (cl := ("ProfileRightsModel", T_MD, 27)) (rest := []) C (c_MD_thrown l D HB h3 h2 y A V2 hM2) cs_LW_79 kc_MD_thrown ki_MD hM2.ob rfl rfl rfl (Nat.le_of_ble_eq_true rfl) (Nat.le_of_ble_eq_true rfl) (Nat.le_of_ble_eq_true rfl) hc hs d_law_806 (fun v3 h4 hq3 => ?_) (fun E h9 hq9 => by obtain ⟨_, _, _, _, z, _⟩ := hq9; cases z)
  obtain ⟨cd3, r3, V3, es3, e1, hM3⟩ := hq3; cases e1; cases es3
  show Wk _ _ _ _ _ _ _ _ _ _ _ _ _ _ _ _ _ _ _ (.int (V2 0 0) :: _)
  have iv2 := iv_m hcr hM3 ic.2.1 ic.2.2 (by rw [ho2]; exact Io) hou2 no hW2 hR2 he
  refine wk_run C k_law_809 (pc2 := 811) (lv2 := [(6, .int r), (5, .int (sp_universal V (xs (6 * n + 1)) (xs (6 * n + 2)) (xs (6 * n + 3))).1), (0, .ref b), (1, .ref x), (2, .ref y), (3, .ref ou), (4, .int (nI (6 * n)))]) (st2 := [.int (sp_universal V (xs (6 * n + 1)) (xs (6 * n + 2)) (xs (6 * n + 3))).1, .int (V2 0 0)]) rfl ?_
  refine wk_br C d_law_811 (P := (V2 0 0) = ((sp_universal V (xs (6 * n + 1)) (xs (6 * n + 2)) (xs (6 * n + 3))).1)) (tgt := 816) (rest := []) rfl (by decide) (fun c1 => ?_) (fun c1 => ?_)
  ·
    refine wk_run C k_law_816 (pc2 := 818) (lv2 := [(6, .int r), (5, .int (sp_universal V (xs (6 * n + 1)) (xs (6 * n + 2)) (xs (6 * n + 3))).1), (0, .ref b), (1, .ref x), (2, .ref y), (3, .ref ou), (4, .int (nI (6 * n)))]) (st2 := [.int (sp_universal V (xs (6 * n + 1)) (xs (6 * n + 2)) (xs (6 * n + 3))).1]) rfl ?_
    refine wk_br C d_law_818 (P := ¬ ((sp_universal V (xs (6 * n + 1)) (xs (6 * n + 2)) (xs (6 * n + 3))).1) = 0) (tgt := 833) (rest := []) rfl (by decide) (fun c2 => ?_) (fun c2 => ?_)
    ·
      refine wk_goto C d_law_833 (tgt := 1471) (by decide) ?_
      refine Wk.sub (lv2 := [(0, .ref b), (1, .ref x), (2, .ref y), (3, .ref ou), (4, .int (nI (6 * n)))]) [2, 3, 4, 5, 6] rfl ?_
      exact K _ own2 _ iv2.1
    ·
      have hf3 := hf2 (Classical.not_not.mp c2)
      refine wk_run C k_law_821 (pc2 := 823) (lv2 := [(6, .int r), (5, .int (sp_universal V (xs (6 * n + 1)) (xs (6 * n + 2)) (xs (6 * n + 3))).1), (0, .ref b), (1, .ref x), (2, .ref y), (3, .ref ou), (4, .int (nI (6 * n)))]) (st2 := [.int 0, .ref ou]) rfl ?_
      refine wk_lald C iv2.2 (nI_in (c := 0) (by decide) (by decide)) d_law_823 ?_
      show Wk _ _ _ _ _ _ _ _ _ _ _ _ _ _ _ _ _ _ _ (.long (f2 0) :: _)
      rw [hf3, er]
      refine wk_run C k_law_824 (pc2 := 827) (lv2 := [(6, .int r), (5, .int (sp_universal V (xs (6 * n + 1)) (xs (6 * n + 2)) (xs (6 * n + 3))).1), (0, .ref b), (1, .ref x), (2, .ref y), (3, .ref ou), (4, .int (nI (6 * n)))]) (st2 := [.long r.toInt64, .long r.toInt64]) rfl ?_
      refine wk_lcmp C d_law_827 ?_
      refine wk_br C d_law_828 (P := (lg_cmp r.toInt64 r.toInt64) = 0) (tgt := 833) (rest := []) rfl (by decide) (fun c4 => ?_) (fun c4 => ?_)
      ·
        refine wk_goto C d_law_833 (tgt := 1471) (by decide) ?_
        refine Wk.sub (lv2 := [(0, .ref b), (1, .ref x), (2, .ref y), (3, .ref ou), (4, .int (nI (6 * n)))]) [2, 3, 4, 5, 6] rfl ?_
        exact K _ own2 _ iv2.1
      ·
        exact absurd (lg_s _) c4
  ·
    exact absurd ecd c1
theorem k_law_836 : px_dec code [.aload_n 1, .aload_n 0, .iload 4, .iconst 1, .iadd] 836 = true := by decide +kernel
theorem d_law_842 : decode code 842 = .ok (.iaload, 1) := by decide +kernel
theorem k_law_843 : px_dec code [.aload_n 0, .iload 4, .iconst 2, .iadd] 843 = true := by decide +kernel
theorem d_law_848 : decode code 848 = .ok (.iaload, 1) := by decide +kernel
theorem k_law_849 : px_dec code [.aload_n 0, .iload 4, .iconst 3, .iadd] 849 = true := by decide +kernel
theorem d_law_854 : decode code 854 = .ok (.iaload, 1) := by decide +kernel
theorem k_law_855 : px_dec code [.aload_n 3] 855 = true := by decide +kernel
theorem d_law_856 : decode code 856 = .ok (.invokestatic 113, 3) := by decide +kernel
theorem k_law_859 : px_dec code [.istore 5, .aload_n 2, .aload_n 0, .iload 4, .iconst 1, .iadd] 859 = true := by decide +kernel
theorem d_law_867 : decode code 867 = .ok (.iaload, 1) := by decide +kernel
theorem k_law_868 : px_dec code [.aload_n 0, .iload 4, .iconst 2, .iadd] 868 = true := by decide +kernel
theorem d_law_873 : decode code 873 = .ok (.iaload, 1) := by decide +kernel
theorem k_law_874 : px_dec code [.aload_n 0, .iload 4, .iconst 3, .iadd] 874 = true := by decide +kernel
theorem d_law_879 : decode code 879 = .ok (.iaload, 1) := by decide +kernel
theorem d_law_880 : decode code 880 = .ok (.invokevirtual 115, 3) := by decide +kernel
theorem k_law_883 : px_dec code [.istore 6, .aload_n 2] 883 = true := by decide +kernel
theorem d_law_886 : decode code 886 = .ok (.invokevirtual 79, 3) := by decide +kernel
theorem k_law_889 : px_dec code [.iload 5] 889 = true := by decide +kernel
theorem d_law_891 : decode code 891 = .ok (.if_icmp .eq 5, 3) := by decide +kernel
theorem k_law_896 : px_dec code [.iload 5] 896 = true := by decide +kernel
theorem d_law_898 : decode code 898 = .ok (.ifCond .ne 15, 3) := by decide +kernel
theorem d_law_913 : decode code 913 = .ok (.goto 558, 3) := by decide +kernel
theorem k_law_901 : px_dec code [.aload_n 3, .iconst 0] 901 = true := by decide +kernel
theorem d_law_903 : decode code 903 = .ok (.laload, 1) := by decide +kernel
theorem k_law_904 : px_dec code [.iload 6, .i2l] 904 = true := by decide +kernel
theorem d_law_907 : decode code 907 = .ok (.lcmp, 1) := by decide +kernel
theorem d_law_908 : decode code 908 = .ok (.ifCond .eq 5, 3) := by decide +kernel
set_option maxRecDepth 100000 in
set_option maxHeartbeats 4000000 in
theorem lw_permit {p : Program} {l : Launch} {e : Env} {s : State} {m : MethodId} {args : Array Value} {below : List Frame} {meth : Method} {c : Code} {Q : State → Prop} {D : va_G} {HB : Heap} {hh : List (Nat × Nat × Nat × Nat)} (C : wk_C p s m args meth c code "ProfileRightsLaw" 7 ret hh D HB) (hlt : l.stackTraces = false) {b L : Nat} {xs : Nat → Int32} (hZ : va_T .int b L (fun j => .int (xs j)) (hp_A HB) s HB) {x y ou : Nat} {A : Nat → Nat} {n cells slots : Nat} {V : vT} {own : oT} {h : hp_T} (hn : n < 512) (hL : L ≤ 3072) (h6 : 6 * n + 6 ≤ L) (hc : cells + 8 ≤ 601024) (hs : slots + 200 ≤ 7293034) (I : iv D x y ou A n V own h) (K : ∀ (V2 : vT) (own2 : oT) (h2 : hp_T), iv D x y ou A (n + 1) V2 own2 h2 → Wk p l e room_1 s m args below meth c 7 D HB Q h2 (cells + 8) (slots + 200) 1471 [(0, .ref b), (1, .ref x), (2, .ref y), (3, .ref ou), (4, .int (nI (6 * n)))] []) : Wk p l e room_1 s m args below meth c 7 D HB Q h cells slots 836 [(0, .ref b), (1, .ref x), (2, .ref y), (3, .ref ou), (4, .int (nI (6 * n)))] [] := by
  obtain ⟨IM, IC, IW, IR, Iy, IA, Io, f, hou⟩ := id I
  have no := mq_ou IM hou
  obtain ⟨gl, ul, pl, mo, aq, tr, hx0⟩ := cr_x IC
  refine wk_run C k_law_836 (pc2 := 842) (lv2 := [(0, .ref b), (1, .ref x), (2, .ref y), (3, .ref ou), (4, .int (nI (6 * n)))]) (st2 := [.int ((nI (6 * n)) + 1), .ref b, .ref x]) rfl ?_
  refine wk_tld C hZ (nI_in (c := 6 * n) (by omega) (by omega)) (show Value.int (xs (nI (6 * n)).toNatClampNeg) = .int (xs (6 * n)) by rw [nI_clamp (by omega)]) d_law_842 ?_
  refine wk_run C k_law_843 (pc2 := 848) (lv2 := [(0, .ref b), (1, .ref x), (2, .ref y), (3, .ref ou), (4, .int (nI (6 * n)))]) (st2 := [.int ((nI (6 * n)) + 2), .ref b, .int (xs (6 * n)), .ref x]) rfl ?_
  refine wk_tld C hZ (nI_in (c := 6 * n) (by omega) (by omega)) (show Value.int (xs (nI (6 * n)).toNatClampNeg) = .int (xs (6 * n)) by rw [nI_clamp (by omega)]) d_law_848 ?_
  refine wk_run C k_law_849 (pc2 := 854) (lv2 := [(0, .ref b), (1, .ref x), (2, .ref y), (3, .ref ou), (4, .int (nI (6 * n)))]) (st2 := [.int ((nI (6 * n)) + 3), .ref b, .int (xs (6 * n)), .int (xs (6 * n)), .ref x]) rfl ?_
  refine wk_tld C hZ (nI_in (c := 6 * n) (by omega) (by omega)) (show Value.int (xs (nI (6 * n)).toNatClampNeg) = .int (xs (6 * n)) by rw [nI_clamp (by omega)]) d_law_854 ?_
  refine wk_run C k_law_855 (pc2 := 856) (lv2 := [(0, .ref b), (1, .ref x), (2, .ref y), (3, .ref ou), (4, .int (nI (6 * n)))]) (st2 := [.ref ou, .int (xs (6 * n)), .int (xs (6 * n)), .int (xs (6 * n)), .ref x]) rfl ?_
  refine wk_callSW (rest := []) C (c_LW_permit l D HB h hlt own V x ou (xs (6 * n + 1)) (xs (6 * n + 2)) (xs (6 * n + 3)) f IC IW hou Io) cs_LW_113 kc_LW_permit ki_LW rfl rfl (Nat.le_of_ble_eq_true rfl) (Nat.le_of_ble_eq_true rfl) (Nat.le_of_ble_eq_true rfl) hc hs d_law_856 (fun v h2 hq => ?_) (fun E h2 hq => by obtain ⟨_, _, z, _⟩ := hq; cases z)
  obtain ⟨own2, f2, e1, hcr, hso, ho2, hou2, hf2⟩ := hq; cases e1
  show Wk _ _ _ _ _ _ _ _ _ _ _ _ _ _ _ _ _ _ _ (.int (sp_permit V (xs (6 * n + 1)) (xs (6 * n + 2)) (xs (6 * n + 3))).1 :: _)
  have ic := iv_c I hso
  refine wk_run C k_law_859 (pc2 := 867) (lv2 := [(5, .int (sp_permit V (xs (6 * n + 1)) (xs (6 * n + 2)) (xs (6 * n + 3))).1), (0, .ref b), (1, .ref x), (2, .ref y), (3, .ref ou), (4, .int (nI (6 * n)))]) (st2 := [.int ((nI (6 * n)) + 1), .ref b, .ref y]) rfl ?_
  refine wk_tld C hZ (nI_in (c := 6 * n) (by omega) (by omega)) (show Value.int (xs (nI (6 * n)).toNatClampNeg) = .int (xs (6 * n)) by rw [nI_clamp (by omega)]) d_law_867 ?_
  refine wk_run C k_law_868 (pc2 := 873) (lv2 := [(5, .int (sp_permit V (xs (6 * n + 1)) (xs (6 * n + 2)) (xs (6 * n + 3))).1), (0, .ref b), (1, .ref x), (2, .ref y), (3, .ref ou), (4, .int (nI (6 * n)))]) (st2 := [.int ((nI (6 * n)) + 2), .ref b, .int (xs (6 * n)), .ref y]) rfl ?_
  refine wk_tld C hZ (nI_in (c := 6 * n) (by omega) (by omega)) (show Value.int (xs (nI (6 * n)).toNatClampNeg) = .int (xs (6 * n)) by rw [nI_clamp (by omega)]) d_law_873 ?_
  refine wk_run C k_law_874 (pc2 := 879) (lv2 := [(5, .int (sp_permit V (xs (6 * n + 1)) (xs (6 * n + 2)) (xs (6 * n + 3))).1), (0, .ref b), (1, .ref x), (2, .ref y), (3, .ref ou), (4, .int (nI (6 * n)))]) (st2 := [.int ((nI (6 * n)) + 3), .ref b, .int (xs (6 * n)), .int (xs (6 * n)), .ref y]) rfl ?_
  refine wk_tld C hZ (nI_in (c := 6 * n) (by omega) (by omega)) (show Value.int (xs (nI (6 * n)).toNatClampNeg) = .int (xs (6 * n)) by rw [nI_clamp (by omega)]) d_law_879 ?_
  refine wk_callV (cl := ("ProfileRightsModel", T_MD, 27)) (rest := []) C (m_permit l D HB h2 h2 y A V (xs (6 * n + 1)) (xs (6 * n + 2)) (xs (6 * n + 3)) IW ic.1) cs_LW_115 kc_MD_permit ki_MD ic.1.ob rfl rfl rfl (Nat.le_of_ble_eq_true rfl) (Nat.le_of_ble_eq_true rfl) (Nat.le_of_ble_eq_true rfl) hc hs d_law_880 (fun v2 h3 hq2 => ?_) (fun E h9 hq9 => by obtain ⟨_, _, _, _, z, _⟩ := hq9; cases z)
  obtain ⟨cd, r, V2, es, e1, hM2⟩ := hq2; cases e1
  show Wk _ _ _ _ _ _ _ _ _ _ _ _ _ _ _ _ _ _ _ (.int r :: _)
  have hW2 : wf V2 := by have z : wf (sp_permit V (xs (6 * n + 1)) (xs (6 * n + 2)) (xs (6 * n + 3))).2.2 := wf_permit IW; rw [es] at z; exact z
  have hR2 : ok_ (V2 25 0) (n + 1) := by have z := r25_permit (V := V) (xs (6 * n + 1)) (xs (6 * n + 2)) (xs (6 * n + 3)) (by omega) IR; rw [es] at z; exact z
  have he : ∀ j, j ≠ 0 → j ≠ 26 → V2 j = (sp_permit V (xs (6 * n + 1)) (xs (6 * n + 2)) (xs (6 * n + 3))).2.2 j := fun j _ h26 => by rw [es]
  have ecd : V2 0 0 = (sp_permit V (xs (6 * n + 1)) (xs (6 * n + 2)) (xs (6 * n + 3))).1 := by have z := cd_permit V (xs (6 * n + 1)) (xs (6 * n + 2)) (xs (6 * n + 3)); rw [es] at z ⊢; exact z
  have er : (sp_permit V (xs (6 * n + 1)) (xs (6 * n + 2)) (xs (6 * n + 3))).2.1 = r := by rw [es]
  refine wk_run C k_law_883 (pc2 := 886) (lv2 := [(6, .int r), (5, .int (sp_permit V (xs (6 * n + 1)) (xs (6 * n + 2)) (xs (6 * n + 3))).1), (0, .ref b), (1, .ref x), (2, .ref y), (3, .ref ou), (4, .int (nI (6 * n)))]) (st2 := [.ref y]) rfl ?_
  refine wk_callV (cl := ("ProfileRightsModel", T_MD, 27)) (rest := []) C (c_MD_thrown l D HB h3 h2 y A V2 hM2) cs_LW_79 kc_MD_thrown ki_MD hM2.ob rfl rfl rfl (Nat.le_of_ble_eq_true rfl) (Nat.le_of_ble_eq_true rfl) (Nat.le_of_ble_eq_true rfl) hc hs d_law_886 (fun v3 h4 hq3 => ?_) (fun E h9 hq9 => by obtain ⟨_, _, _, _, z, _⟩ := hq9; cases z)
  obtain ⟨cd3, r3, V3, es3, e1, hM3⟩ := hq3; cases e1; cases es3
  show Wk _ _ _ _ _ _ _ _ _ _ _ _ _ _ _ _ _ _ _ (.int (V2 0 0) :: _)
  have iv2 := iv_m hcr hM3 ic.2.1 ic.2.2 (by rw [ho2]; exact Io) hou2 no hW2 hR2 he
  refine wk_run C k_law_889 (pc2 := 891) (lv2 := [(6, .int r), (5, .int (sp_permit V (xs (6 * n + 1)) (xs (6 * n + 2)) (xs (6 * n + 3))).1), (0, .ref b), (1, .ref x), (2, .ref y), (3, .ref ou), (4, .int (nI (6 * n)))]) (st2 := [.int (sp_permit V (xs (6 * n + 1)) (xs (6 * n + 2)) (xs (6 * n + 3))).1, .int (V2 0 0)]) rfl ?_
  refine wk_br C d_law_891 (P := (V2 0 0) = ((sp_permit V (xs (6 * n + 1)) (xs (6 * n + 2)) (xs (6 * n + 3))).1)) (tgt := 896) (rest := []) rfl (by decide) (fun c1 => ?_) (fun c1 => ?_)
  ·
    refine wk_run C k_law_896 (pc2 := 898) (lv2 := [(6, .int r), (5, .int (sp_permit V (xs (6 * n + 1)) (xs (6 * n + 2)) (xs (6 * n + 3))).1), (0, .ref b), (1, .ref x), (2, .ref y), (3, .ref ou), (4, .int (nI (6 * n)))]) (st2 := [.int (sp_permit V (xs (6 * n + 1)) (xs (6 * n + 2)) (xs (6 * n + 3))).1]) rfl ?_
    refine wk_br C d_law_898 (P := ¬ ((sp_permit V (xs (6 * n + 1)) (xs (6 * n + 2)) (xs (6 * n + 3))).1) = 0) (tgt := 913) (rest := []) rfl (by decide) (fun c2 => ?_) (fun c2 => ?_)
    ·
      refine wk_goto C d_law_913 (tgt := 1471) (by decide) ?_
      refine Wk.sub (lv2 := [(0, .ref b), (1, .ref x), (2, .ref y), (3, .ref ou), (4, .int (nI (6 * n)))]) [2, 3, 4, 5, 6] rfl ?_
      exact K _ own2 _ iv2.1
    ·
      have hf3 := hf2 (Classical.not_not.mp c2)
      refine wk_run C k_law_901 (pc2 := 903) (lv2 := [(6, .int r), (5, .int (sp_permit V (xs (6 * n + 1)) (xs (6 * n + 2)) (xs (6 * n + 3))).1), (0, .ref b), (1, .ref x), (2, .ref y), (3, .ref ou), (4, .int (nI (6 * n)))]) (st2 := [.int 0, .ref ou]) rfl ?_
      refine wk_lald C iv2.2 (nI_in (c := 0) (by decide) (by decide)) d_law_903 ?_
      show Wk _ _ _ _ _ _ _ _ _ _ _ _ _ _ _ _ _ _ _ (.long (f2 0) :: _)
      rw [hf3, er]
      refine wk_run C k_law_904 (pc2 := 907) (lv2 := [(6, .int r), (5, .int (sp_permit V (xs (6 * n + 1)) (xs (6 * n + 2)) (xs (6 * n + 3))).1), (0, .ref b), (1, .ref x), (2, .ref y), (3, .ref ou), (4, .int (nI (6 * n)))]) (st2 := [.long r.toInt64, .long r.toInt64]) rfl ?_
      refine wk_lcmp C d_law_907 ?_
      refine wk_br C d_law_908 (P := (lg_cmp r.toInt64 r.toInt64) = 0) (tgt := 913) (rest := []) rfl (by decide) (fun c4 => ?_) (fun c4 => ?_)
      ·
        refine wk_goto C d_law_913 (tgt := 1471) (by decide) ?_
        refine Wk.sub (lv2 := [(0, .ref b), (1, .ref x), (2, .ref y), (3, .ref ou), (4, .int (nI (6 * n)))]) [2, 3, 4, 5, 6] rfl ?_
        exact K _ own2 _ iv2.1
      ·
        exact absurd (lg_s _) c4
  ·
    exact absurd ecd c1
theorem k_law_916 : px_dec code [.aload_n 1, .aload_n 0, .iload 4, .iconst 1, .iadd] 916 = true := by decide +kernel
theorem d_law_922 : decode code 922 = .ok (.iaload, 1) := by decide +kernel
theorem k_law_923 : px_dec code [.aload_n 0, .iload 4, .iconst 2, .iadd] 923 = true := by decide +kernel
theorem d_law_928 : decode code 928 = .ok (.iaload, 1) := by decide +kernel
theorem k_law_929 : px_dec code [.aload_n 0, .iload 4, .iconst 3, .iadd] 929 = true := by decide +kernel
theorem d_law_934 : decode code 934 = .ok (.iaload, 1) := by decide +kernel
theorem k_law_935 : px_dec code [.aload_n 0, .iload 4, .iconst 4, .iadd] 935 = true := by decide +kernel
theorem d_law_940 : decode code 940 = .ok (.iaload, 1) := by decide +kernel
theorem k_law_941 : px_dec code [.aload_n 3] 941 = true := by decide +kernel
theorem d_law_942 : decode code 942 = .ok (.invokestatic 116, 3) := by decide +kernel
theorem k_law_945 : px_dec code [.istore 5, .aload_n 2, .aload_n 0, .iload 4, .iconst 1, .iadd] 945 = true := by decide +kernel
theorem d_law_953 : decode code 953 = .ok (.iaload, 1) := by decide +kernel
theorem k_law_954 : px_dec code [.aload_n 0, .iload 4, .iconst 2, .iadd] 954 = true := by decide +kernel
theorem d_law_959 : decode code 959 = .ok (.iaload, 1) := by decide +kernel
theorem k_law_960 : px_dec code [.aload_n 0, .iload 4, .iconst 3, .iadd] 960 = true := by decide +kernel
theorem d_law_965 : decode code 965 = .ok (.iaload, 1) := by decide +kernel
theorem k_law_966 : px_dec code [.aload_n 0, .iload 4, .iconst 4, .iadd] 966 = true := by decide +kernel
theorem d_law_971 : decode code 971 = .ok (.iaload, 1) := by decide +kernel
theorem d_law_972 : decode code 972 = .ok (.invokevirtual 119, 3) := by decide +kernel
theorem k_law_975 : px_dec code [.istore 6, .aload_n 2] 975 = true := by decide +kernel
theorem d_law_978 : decode code 978 = .ok (.invokevirtual 79, 3) := by decide +kernel
theorem k_law_981 : px_dec code [.iload 5] 981 = true := by decide +kernel
theorem d_law_983 : decode code 983 = .ok (.if_icmp .eq 5, 3) := by decide +kernel
theorem k_law_988 : px_dec code [.iload 5] 988 = true := by decide +kernel
theorem d_law_990 : decode code 990 = .ok (.ifCond .ne 15, 3) := by decide +kernel
theorem d_law_1005 : decode code 1005 = .ok (.goto 466, 3) := by decide +kernel
theorem k_law_993 : px_dec code [.aload_n 3, .iconst 0] 993 = true := by decide +kernel
theorem d_law_995 : decode code 995 = .ok (.laload, 1) := by decide +kernel
theorem k_law_996 : px_dec code [.iload 6, .i2l] 996 = true := by decide +kernel
theorem d_law_999 : decode code 999 = .ok (.lcmp, 1) := by decide +kernel
theorem d_law_1000 : decode code 1000 = .ok (.ifCond .eq 5, 3) := by decide +kernel
set_option maxRecDepth 100000 in
set_option maxHeartbeats 4000000 in
theorem lw_condition {p : Program} {l : Launch} {e : Env} {s : State} {m : MethodId} {args : Array Value} {below : List Frame} {meth : Method} {c : Code} {Q : State → Prop} {D : va_G} {HB : Heap} {hh : List (Nat × Nat × Nat × Nat)} (C : wk_C p s m args meth c code "ProfileRightsLaw" 7 ret hh D HB) (hlt : l.stackTraces = false) {b L : Nat} {xs : Nat → Int32} (hZ : va_T .int b L (fun j => .int (xs j)) (hp_A HB) s HB) {x y ou : Nat} {A : Nat → Nat} {n cells slots : Nat} {V : vT} {own : oT} {h : hp_T} (hn : n < 512) (hL : L ≤ 3072) (h6 : 6 * n + 6 ≤ L) (hc : cells + 8 ≤ 601024) (hs : slots + 200 ≤ 7293034) (I : iv D x y ou A n V own h) (K : ∀ (V2 : vT) (own2 : oT) (h2 : hp_T), iv D x y ou A (n + 1) V2 own2 h2 → Wk p l e room_1 s m args below meth c 7 D HB Q h2 (cells + 8) (slots + 200) 1471 [(0, .ref b), (1, .ref x), (2, .ref y), (3, .ref ou), (4, .int (nI (6 * n)))] []) : Wk p l e room_1 s m args below meth c 7 D HB Q h cells slots 916 [(0, .ref b), (1, .ref x), (2, .ref y), (3, .ref ou), (4, .int (nI (6 * n)))] [] := by
  obtain ⟨IM, IC, IW, IR, Iy, IA, Io, f, hou⟩ := id I
  have no := mq_ou IM hou
  obtain ⟨gl, ul, pl, mo, aq, tr, hx0⟩ := cr_x IC
  refine wk_run C k_law_916 (pc2 := 922) (lv2 := [(0, .ref b), (1, .ref x), (2, .ref y), (3, .ref ou), (4, .int (nI (6 * n)))]) (st2 := [.int ((nI (6 * n)) + 1), .ref b, .ref x]) rfl ?_
  refine wk_tld C hZ (nI_in (c := 6 * n) (by omega) (by omega)) (show Value.int (xs (nI (6 * n)).toNatClampNeg) = .int (xs (6 * n)) by rw [nI_clamp (by omega)]) d_law_922 ?_
  refine wk_run C k_law_923 (pc2 := 928) (lv2 := [(0, .ref b), (1, .ref x), (2, .ref y), (3, .ref ou), (4, .int (nI (6 * n)))]) (st2 := [.int ((nI (6 * n)) + 2), .ref b, .int (xs (6 * n)), .ref x]) rfl ?_
  refine wk_tld C hZ (nI_in (c := 6 * n) (by omega) (by omega)) (show Value.int (xs (nI (6 * n)).toNatClampNeg) = .int (xs (6 * n)) by rw [nI_clamp (by omega)]) d_law_928 ?_
  refine wk_run C k_law_929 (pc2 := 934) (lv2 := [(0, .ref b), (1, .ref x), (2, .ref y), (3, .ref ou), (4, .int (nI (6 * n)))]) (st2 := [.int ((nI (6 * n)) + 3), .ref b, .int (xs (6 * n)), .int (xs (6 * n)), .ref x]) rfl ?_
  refine wk_tld C hZ (nI_in (c := 6 * n) (by omega) (by omega)) (show Value.int (xs (nI (6 * n)).toNatClampNeg) = .int (xs (6 * n)) by rw [nI_clamp (by omega)]) d_law_934 ?_
  refine wk_run C k_law_935 (pc2 := 940) (lv2 := [(0, .ref b), (1, .ref x), (2, .ref y), (3, .ref ou), (4, .int (nI (6 * n)))]) (st2 := [.int ((nI (6 * n)) + 4), .ref b, .int (xs (6 * n)), .int (xs (6 * n)), .int (xs (6 * n)), .ref x]) rfl ?_
  refine wk_tld C hZ (nI_in (c := 6 * n) (by omega) (by omega)) (show Value.int (xs (nI (6 * n)).toNatClampNeg) = .int (xs (6 * n)) by rw [nI_clamp (by omega)]) d_law_940 ?_
  refine wk_run C k_law_941 (pc2 := 942) (lv2 := [(0, .ref b), (1, .ref x), (2, .ref y), (3, .ref ou), (4, .int (nI (6 * n)))]) (st2 := [.ref ou, .int (xs (6 * n)), .int (xs (6 * n)), .int (xs (6 * n)), .int (xs (6 * n)), .ref x]) rfl ?_
  refine wk_callSW (rest := []) C (c_LW_condition l D HB h hlt own V x ou (xs (6 * n + 1)) (xs (6 * n + 2)) (xs (6 * n + 3)) (xs (6 * n + 4)) f IC IW hou Io) cs_LW_116 kc_LW_condition ki_LW rfl rfl (Nat.le_of_ble_eq_true rfl) (Nat.le_of_ble_eq_true rfl) (Nat.le_of_ble_eq_true rfl) hc hs d_law_942 (fun v h2 hq => ?_) (fun E h2 hq => by obtain ⟨_, _, z, _⟩ := hq; cases z)
  obtain ⟨own2, f2, e1, hcr, hso, ho2, hou2, hf2⟩ := hq; cases e1
  show Wk _ _ _ _ _ _ _ _ _ _ _ _ _ _ _ _ _ _ _ (.int (sp_condition V (xs (6 * n + 1)) (xs (6 * n + 2)) (xs (6 * n + 3)) (xs (6 * n + 4))).1 :: _)
  have ic := iv_c I hso
  refine wk_run C k_law_945 (pc2 := 953) (lv2 := [(5, .int (sp_condition V (xs (6 * n + 1)) (xs (6 * n + 2)) (xs (6 * n + 3)) (xs (6 * n + 4))).1), (0, .ref b), (1, .ref x), (2, .ref y), (3, .ref ou), (4, .int (nI (6 * n)))]) (st2 := [.int ((nI (6 * n)) + 1), .ref b, .ref y]) rfl ?_
  refine wk_tld C hZ (nI_in (c := 6 * n) (by omega) (by omega)) (show Value.int (xs (nI (6 * n)).toNatClampNeg) = .int (xs (6 * n)) by rw [nI_clamp (by omega)]) d_law_953 ?_
  refine wk_run C k_law_954 (pc2 := 959) (lv2 := [(5, .int (sp_condition V (xs (6 * n + 1)) (xs (6 * n + 2)) (xs (6 * n + 3)) (xs (6 * n + 4))).1), (0, .ref b), (1, .ref x), (2, .ref y), (3, .ref ou), (4, .int (nI (6 * n)))]) (st2 := [.int ((nI (6 * n)) + 2), .ref b, .int (xs (6 * n)), .ref y]) rfl ?_
  refine wk_tld C hZ (nI_in (c := 6 * n) (by omega) (by omega)) (show Value.int (xs (nI (6 * n)).toNatClampNeg) = .int (xs (6 * n)) by rw [nI_clamp (by omega)]) d_law_959 ?_
  refine wk_run C k_law_960 (pc2 := 965) (lv2 := [(5, .int (sp_condition V (xs (6 * n + 1)) (xs (6 * n + 2)) (xs (6 * n + 3)) (xs (6 * n + 4))).1), (0, .ref b), (1, .ref x), (2, .ref y), (3, .ref ou), (4, .int (nI (6 * n)))]) (st2 := [.int ((nI (6 * n)) + 3), .ref b, .int (xs (6 * n)), .int (xs (6 * n)), .ref y]) rfl ?_
  refine wk_tld C hZ (nI_in (c := 6 * n) (by omega) (by omega)) (show Value.int (xs (nI (6 * n)).toNatClampNeg) = .int (xs (6 * n)) by rw [nI_clamp (by omega)]) d_law_965 ?_
  refine wk_run C k_law_966 (pc2 := 971) (lv2 := [(5, .int (sp_condition V (xs (6 * n + 1)) (xs (6 * n + 2)) (xs (6 * n + 3)) (xs (6 * n + 4))).1), (0, .ref b), (1, .ref x), (2, .ref y), (3, .ref ou), (4, .int (nI (6 * n)))]) (st2 := [.int ((nI (6 * n)) + 4), .ref b, .int (xs (6 * n)), .int (xs (6 * n)), .int (xs (6 * n)), .ref y]) rfl ?_
  refine wk_tld C hZ (nI_in (c := 6 * n) (by omega) (by omega)) (show Value.int (xs (nI (6 * n)).toNatClampNeg) = .int (xs (6 * n)) by rw [nI_clamp (by omega)]) d_law_971 ?_
  refine wk_callV (cl := ("ProfileRightsModel", T_MD, 27)) (rest := []) C (m_condition l D HB h2 h2 y A V (xs (6 * n + 1)) (xs (6 * n + 2)) (xs (6 * n + 3)) (xs (6 * n + 4)) IW ic.1) cs_LW_119 kc_MD_condition ki_MD ic.1.ob rfl rfl rfl (Nat.le_of_ble_eq_true rfl) (Nat.le_of_ble_eq_true rfl) (Nat.le_of_ble_eq_true rfl) hc hs d_law_972 (fun v2 h3 hq2 => ?_) (fun E h9 hq9 => by obtain ⟨_, _, _, _, z, _⟩ := hq9; cases z)
  obtain ⟨cd, r, V2, es, e1, hM2⟩ := hq2; cases e1
  show Wk _ _ _ _ _ _ _ _ _ _ _ _ _ _ _ _ _ _ _ (.int r :: _)
  have hW2 : wf V2 := by have z : wf (sp_condition V (xs (6 * n + 1)) (xs (6 * n + 2)) (xs (6 * n + 3)) (xs (6 * n + 4))).2.2 := wf_condition IW; rw [es] at z; exact z
  have hR2 : ok_ (V2 25 0) (n + 1) := by have z := r25_condition (V := V) (xs (6 * n + 1)) (xs (6 * n + 2)) (xs (6 * n + 3)) (xs (6 * n + 4)) (by omega) IR; rw [es] at z; exact z
  have he : ∀ j, j ≠ 0 → j ≠ 26 → V2 j = (sp_condition V (xs (6 * n + 1)) (xs (6 * n + 2)) (xs (6 * n + 3)) (xs (6 * n + 4))).2.2 j := fun j _ h26 => by rw [es]
  have ecd : V2 0 0 = (sp_condition V (xs (6 * n + 1)) (xs (6 * n + 2)) (xs (6 * n + 3)) (xs (6 * n + 4))).1 := by have z := cd_condition V (xs (6 * n + 1)) (xs (6 * n + 2)) (xs (6 * n + 3)) (xs (6 * n + 4)); rw [es] at z ⊢; exact z
  have er : (sp_condition V (xs (6 * n + 1)) (xs (6 * n + 2)) (xs (6 * n + 3)) (xs (6 * n + 4))).2.1 = r := by rw [es]
  refine wk_run C k_law_975 (pc2 := 978) (lv2 := [(6, .int r), (5, .int (sp_condition V (xs (6 * n + 1)) (xs (6 * n + 2)) (xs (6 * n + 3)) (xs (6 * n + 4))).1), (0, .ref b), (1, .ref x), (2, .ref y), (3, .ref ou), (4, .int (nI (6 * n)))]) (st2 := [.ref y]) rfl ?_
  refine wk_callV (cl := ("ProfileRightsModel", T_MD, 27)) (rest := []) C (c_MD_thrown l D HB h3 h2 y A V2 hM2) cs_LW_79 kc_MD_thrown ki_MD hM2.ob rfl rfl rfl (Nat.le_of_ble_eq_true rfl) (Nat.le_of_ble_eq_true rfl) (Nat.le_of_ble_eq_true rfl) hc hs d_law_978 (fun v3 h4 hq3 => ?_) (fun E h9 hq9 => by obtain ⟨_, _, _, _, z, _⟩ := hq9; cases z)
  obtain ⟨cd3, r3, V3, es3, e1, hM3⟩ := hq3; cases e1; cases es3
  show Wk _ _ _ _ _ _ _ _ _ _ _ _ _ _ _ _ _ _ _ (.int (V2 0 0) :: _)
  have iv2 := iv_m hcr hM3 ic.2.1 ic.2.2 (by rw [ho2]; exact Io) hou2 no hW2 hR2 he
  refine wk_run C k_law_981 (pc2 := 983) (lv2 := [(6, .int r), (5, .int (sp_condition V (xs (6 * n + 1)) (xs (6 * n + 2)) (xs (6 * n + 3)) (xs (6 * n + 4))).1), (0, .ref b), (1, .ref x), (2, .ref y), (3, .ref ou), (4, .int (nI (6 * n)))]) (st2 := [.int (sp_condition V (xs (6 * n + 1)) (xs (6 * n + 2)) (xs (6 * n + 3)) (xs (6 * n + 4))).1, .int (V2 0 0)]) rfl ?_
  refine wk_br C d_law_983 (P := (V2 0 0) = ((sp_condition V (xs (6 * n + 1)) (xs (6 * n + 2)) (xs (6 * n + 3)) (xs (6 * n + 4))).1)) (tgt := 988) (rest := []) rfl (by decide) (fun c1 => ?_) (fun c1 => ?_)
  ·
    refine wk_run C k_law_988 (pc2 := 990) (lv2 := [(6, .int r), (5, .int (sp_condition V (xs (6 * n + 1)) (xs (6 * n + 2)) (xs (6 * n + 3)) (xs (6 * n + 4))).1), (0, .ref b), (1, .ref x), (2, .ref y), (3, .ref ou), (4, .int (nI (6 * n)))]) (st2 := [.int (sp_condition V (xs (6 * n + 1)) (xs (6 * n + 2)) (xs (6 * n + 3)) (xs (6 * n + 4))).1]) rfl ?_
    refine wk_br C d_law_990 (P := ¬ ((sp_condition V (xs (6 * n + 1)) (xs (6 * n + 2)) (xs (6 * n + 3)) (xs (6 * n + 4))).1) = 0) (tgt := 1005) (rest := []) rfl (by decide) (fun c2 => ?_) (fun c2 => ?_)
    ·
      refine wk_goto C d_law_1005 (tgt := 1471) (by decide) ?_
      refine Wk.sub (lv2 := [(0, .ref b), (1, .ref x), (2, .ref y), (3, .ref ou), (4, .int (nI (6 * n)))]) [2, 3, 4, 5, 6] rfl ?_
      exact K _ own2 _ iv2.1
    ·
      have hf3 := hf2 (Classical.not_not.mp c2)
      refine wk_run C k_law_993 (pc2 := 995) (lv2 := [(6, .int r), (5, .int (sp_condition V (xs (6 * n + 1)) (xs (6 * n + 2)) (xs (6 * n + 3)) (xs (6 * n + 4))).1), (0, .ref b), (1, .ref x), (2, .ref y), (3, .ref ou), (4, .int (nI (6 * n)))]) (st2 := [.int 0, .ref ou]) rfl ?_
      refine wk_lald C iv2.2 (nI_in (c := 0) (by decide) (by decide)) d_law_995 ?_
      show Wk _ _ _ _ _ _ _ _ _ _ _ _ _ _ _ _ _ _ _ (.long (f2 0) :: _)
      rw [hf3, er]
      refine wk_run C k_law_996 (pc2 := 999) (lv2 := [(6, .int r), (5, .int (sp_condition V (xs (6 * n + 1)) (xs (6 * n + 2)) (xs (6 * n + 3)) (xs (6 * n + 4))).1), (0, .ref b), (1, .ref x), (2, .ref y), (3, .ref ou), (4, .int (nI (6 * n)))]) (st2 := [.long r.toInt64, .long r.toInt64]) rfl ?_
      refine wk_lcmp C d_law_999 ?_
      refine wk_br C d_law_1000 (P := (lg_cmp r.toInt64 r.toInt64) = 0) (tgt := 1005) (rest := []) rfl (by decide) (fun c4 => ?_) (fun c4 => ?_)
      ·
        refine wk_goto C d_law_1005 (tgt := 1471) (by decide) ?_
        refine Wk.sub (lv2 := [(0, .ref b), (1, .ref x), (2, .ref y), (3, .ref ou), (4, .int (nI (6 * n)))]) [2, 3, 4, 5, 6] rfl ?_
        exact K _ own2 _ iv2.1
      ·
        exact absurd (lg_s _) c4
  ·
    exact absurd ecd c1
theorem k_law_1008 : px_dec code [.aload_n 1, .aload_n 0, .iload 4, .iconst 1, .iadd] 1008 = true := by decide +kernel
theorem d_law_1014 : decode code 1014 = .ok (.iaload, 1) := by decide +kernel
theorem d_law_1015 : decode code 1015 = .ok (.invokevirtual 120, 3) := by decide +kernel
theorem k_law_1018 : px_dec code [.aload_n 2, .aload_n 0, .iload 4, .iconst 1, .iadd] 1018 = true := by decide +kernel
theorem d_law_1024 : decode code 1024 = .ok (.iaload, 1) := by decide +kernel
theorem d_law_1025 : decode code 1025 = .ok (.invokevirtual 123, 3) := by decide +kernel
theorem d_law_1028 : decode code 1028 = .ok (.if_icmp .eq 443, 3) := by decide +kernel
set_option maxRecDepth 100000 in
set_option maxHeartbeats 4000000 in
theorem lw_ask {p : Program} {l : Launch} {e : Env} {s : State} {m : MethodId} {args : Array Value} {below : List Frame} {meth : Method} {c : Code} {Q : State → Prop} {D : va_G} {HB : Heap} {hh : List (Nat × Nat × Nat × Nat)} (C : wk_C p s m args meth c code "ProfileRightsLaw" 7 ret hh D HB) (hlt : l.stackTraces = false) {b L : Nat} {xs : Nat → Int32} (hZ : va_T .int b L (fun j => .int (xs j)) (hp_A HB) s HB) {x y ou : Nat} {A : Nat → Nat} {n cells slots : Nat} {V : vT} {own : oT} {h : hp_T} (hn : n < 512) (hL : L ≤ 3072) (h6 : 6 * n + 6 ≤ L) (hc : cells + 8 ≤ 601024) (hs : slots + 200 ≤ 7293034) (I : iv D x y ou A n V own h) (K : ∀ (V2 : vT) (own2 : oT) (h2 : hp_T), iv D x y ou A (n + 1) V2 own2 h2 → Wk p l e room_1 s m args below meth c 7 D HB Q h2 (cells + 8) (slots + 200) 1471 [(0, .ref b), (1, .ref x), (2, .ref y), (3, .ref ou), (4, .int (nI (6 * n)))] []) : Wk p l e room_1 s m args below meth c 7 D HB Q h cells slots 1008 [(0, .ref b), (1, .ref x), (2, .ref y), (3, .ref ou), (4, .int (nI (6 * n)))] [] := by
  obtain ⟨IM, IC, IW, IR, Iy, IA, Io, f, hou⟩ := id I
  have no := mq_ou IM hou
  obtain ⟨gl, ul, pl, mo, aq, tr, hx0⟩ := cr_x IC
  refine wk_run C k_law_1008 (pc2 := 1014) (lv2 := [(0, .ref b), (1, .ref x), (2, .ref y), (3, .ref ou), (4, .int (nI (6 * n)))]) (st2 := [.int ((nI (6 * n)) + 1), .ref b, .ref x]) rfl ?_
  refine wk_tld C hZ (nI_in (c := 6 * n) (by omega) (by omega)) (show Value.int (xs (nI (6 * n)).toNatClampNeg) = .int (xs (6 * n)) by rw [nI_clamp (by omega)]) d_law_1014 ?_
  refine wk_callV (cl := ("ProfileRights", T_PR, 7)) (rest := []) C (o_ask l D HB h hlt own V x (xs (6 * n + 1)) IC IW) cs_LW_120 kc_PR_ask ki_PR hx0 rfl rfl rfl (Nat.le_of_ble_eq_true rfl) (Nat.le_of_ble_eq_true rfl) (Nat.le_of_ble_eq_true rfl) hc hs d_law_1015 (fun v h2 hq => ?_) (fun E h2 hq => by obtain ⟨e1, _⟩ := wq_d hq (n0_ask V (xs (6 * n + 1))) hou Io; cases e1)
  obtain ⟨e1, own2, hcr, hso, ho2, hou2⟩ := wq_d hq (n0_ask V (xs (6 * n + 1))) hou Io
  have hv := Sum.inl.inj e1; subst hv
  show Wk _ _ _ _ _ _ _ _ _ _ _ _ _ _ _ _ _ _ _ (.int (sp_ask V (xs (6 * n + 1))).2.1 :: _)
  have ic := iv_c I hso
  refine wk_run C k_law_1018 (pc2 := 1024) (lv2 := [(0, .ref b), (1, .ref x), (2, .ref y), (3, .ref ou), (4, .int (nI (6 * n)))]) (st2 := [.int ((nI (6 * n)) + 1), .ref b, .ref y, .int (sp_ask V (xs (6 * n + 1))).2.1]) rfl ?_
  refine wk_tld C hZ (nI_in (c := 6 * n) (by omega) (by omega)) (show Value.int (xs (nI (6 * n)).toNatClampNeg) = .int (xs (6 * n)) by rw [nI_clamp (by omega)]) d_law_1024 ?_
  refine wk_callV (cl := ("ProfileRightsModel", T_MD, 27)) (rest := [.int (sp_ask V (xs (6 * n + 1))).2.1]) C (m_ask l D HB h2 h2 y A V (xs (6 * n + 1)) IW ic.1) cs_LW_123 kc_MD_ask ki_MD ic.1.ob rfl rfl rfl (Nat.le_of_ble_eq_true rfl) (Nat.le_of_ble_eq_true rfl) (Nat.le_of_ble_eq_true rfl) hc hs d_law_1025 (fun v2 h3 hq2 => ?_) (fun E h9 hq9 => by obtain ⟨_, _, _, _, z, _⟩ := hq9; cases z)
  obtain ⟨cd, r, V2, es, e1, hM2⟩ := hq2; cases e1
  show Wk _ _ _ _ _ _ _ _ _ _ _ _ _ _ _ _ _ _ _ (.int r :: _)
  have hW2 : wf V2 := by have z : wf (sp_ask V (xs (6 * n + 1))).2.2 := wf_ask IW; rw [es] at z; exact z
  have hR2 : ok_ (V2 25 0) (n + 1) := by have z := r25_ask (V := V) (xs (6 * n + 1)) (by omega) IR; rw [es] at z; exact z
  have he : ∀ j, j ≠ 0 → j ≠ 26 → V2 j = (sp_ask V (xs (6 * n + 1))).2.2 j := fun j _ h26 => by rw [es]
  have iv2 := iv_m hcr hM2 ic.2.1 ic.2.2 (by rw [ho2]; exact Io) hou2 no hW2 hR2 he
  refine wk_br C d_law_1028 (P := ((sp_ask V (xs (6 * n + 1))).2.1) = r) (tgt := 1471) (rest := []) rfl (by decide) (fun c1 => ?_) (fun c1 => ?_)
  ·
    refine Wk.sub (lv2 := [(0, .ref b), (1, .ref x), (2, .ref y), (3, .ref ou), (4, .int (nI (6 * n)))]) [0, 1, 2, 3, 4] rfl ?_
    exact K _ own2 _ iv2.1
  ·
    exact absurd (by rw [es]) c1
theorem k_law_1033 : px_dec code [.aload_n 1, .aload_n 0, .iload 4, .iconst 1, .iadd] 1033 = true := by decide +kernel
theorem d_law_1039 : decode code 1039 = .ok (.iaload, 1) := by decide +kernel
theorem k_law_1040 : px_dec code [.aload_n 0, .iload 4, .iconst 2, .iadd] 1040 = true := by decide +kernel
theorem d_law_1045 : decode code 1045 = .ok (.iaload, 1) := by decide +kernel
theorem k_law_1046 : px_dec code [.aload_n 0, .iload 4, .iconst 3, .iadd] 1046 = true := by decide +kernel
theorem d_law_1051 : decode code 1051 = .ok (.iaload, 1) := by decide +kernel
theorem k_law_1052 : px_dec code [.aload_n 0, .iload 4, .iconst 4, .iadd] 1052 = true := by decide +kernel
theorem d_law_1057 : decode code 1057 = .ok (.iaload, 1) := by decide +kernel
theorem k_law_1058 : px_dec code [.i2l, .bipush 32, .lshl, .aload_n 0, .iload 4, .iconst 5, .iadd] 1058 = true := by decide +kernel
theorem d_law_1067 : decode code 1067 = .ok (.iaload, 1) := by decide +kernel
theorem k_law_1068 : px_dec code [.i2l] 1068 = true := by decide +kernel
theorem d_law_1069 : decode code 1069 = .ok (.ldc2_w 124, 3) := by decide +kernel
theorem k_law_1072 : px_dec code [.land, .lor, .aload_n 3] 1072 = true := by decide +kernel
theorem d_law_1075 : decode code 1075 = .ok (.invokestatic 126, 3) := by decide +kernel
theorem k_law_1078 : px_dec code [.istore 5, .aload_n 2, .aload_n 0, .iload 4, .iconst 1, .iadd] 1078 = true := by decide +kernel
theorem d_law_1086 : decode code 1086 = .ok (.iaload, 1) := by decide +kernel
theorem k_law_1087 : px_dec code [.aload_n 0, .iload 4, .iconst 2, .iadd] 1087 = true := by decide +kernel
theorem d_law_1092 : decode code 1092 = .ok (.iaload, 1) := by decide +kernel
theorem k_law_1093 : px_dec code [.aload_n 0, .iload 4, .iconst 3, .iadd] 1093 = true := by decide +kernel
theorem d_law_1098 : decode code 1098 = .ok (.iaload, 1) := by decide +kernel
theorem k_law_1099 : px_dec code [.aload_n 0, .iload 4, .iconst 4, .iadd] 1099 = true := by decide +kernel
theorem d_law_1104 : decode code 1104 = .ok (.iaload, 1) := by decide +kernel
theorem k_law_1105 : px_dec code [.i2l, .bipush 32, .lshl, .aload_n 0, .iload 4, .iconst 5, .iadd] 1105 = true := by decide +kernel
theorem d_law_1114 : decode code 1114 = .ok (.iaload, 1) := by decide +kernel
theorem k_law_1115 : px_dec code [.i2l] 1115 = true := by decide +kernel
theorem d_law_1116 : decode code 1116 = .ok (.ldc2_w 124, 3) := by decide +kernel
theorem k_law_1119 : px_dec code [.land, .lor] 1119 = true := by decide +kernel
theorem d_law_1121 : decode code 1121 = .ok (.invokevirtual 129, 3) := by decide +kernel
theorem k_law_1124 : px_dec code [.istore 6, .aload_n 2] 1124 = true := by decide +kernel
theorem d_law_1127 : decode code 1127 = .ok (.invokevirtual 79, 3) := by decide +kernel
theorem k_law_1130 : px_dec code [.iload 5] 1130 = true := by decide +kernel
theorem d_law_1132 : decode code 1132 = .ok (.if_icmp .eq 5, 3) := by decide +kernel
theorem k_law_1137 : px_dec code [.iload 5] 1137 = true := by decide +kernel
theorem d_law_1139 : decode code 1139 = .ok (.ifCond .ne 15, 3) := by decide +kernel
theorem d_law_1154 : decode code 1154 = .ok (.goto 317, 3) := by decide +kernel
theorem k_law_1142 : px_dec code [.aload_n 3, .iconst 0] 1142 = true := by decide +kernel
theorem d_law_1144 : decode code 1144 = .ok (.laload, 1) := by decide +kernel
theorem k_law_1145 : px_dec code [.iload 6, .i2l] 1145 = true := by decide +kernel
theorem d_law_1148 : decode code 1148 = .ok (.lcmp, 1) := by decide +kernel
theorem d_law_1149 : decode code 1149 = .ok (.ifCond .eq 5, 3) := by decide +kernel
set_option maxRecDepth 100000 in
set_option maxHeartbeats 4000000 in
theorem lw_may {p : Program} {l : Launch} {e : Env} {s : State} {m : MethodId} {args : Array Value} {below : List Frame} {meth : Method} {c : Code} {Q : State → Prop} {D : va_G} {HB : Heap} {hh : List (Nat × Nat × Nat × Nat)} (C : wk_C p s m args meth c code "ProfileRightsLaw" 7 ret hh D HB) (hlt : l.stackTraces = false) {b L : Nat} {xs : Nat → Int32} (hZ : va_T .int b L (fun j => .int (xs j)) (hp_A HB) s HB) {x y ou : Nat} {A : Nat → Nat} {n cells slots : Nat} {V : vT} {own : oT} {h : hp_T} (hn : n < 512) (hL : L ≤ 3072) (h6 : 6 * n + 6 ≤ L) (hc : cells + 8 ≤ 601024) (hs : slots + 200 ≤ 7293034) (I : iv D x y ou A n V own h) (K : ∀ (V2 : vT) (own2 : oT) (h2 : hp_T), iv D x y ou A (n + 1) V2 own2 h2 → Wk p l e room_1 s m args below meth c 7 D HB Q h2 (cells + 8) (slots + 200) 1471 [(0, .ref b), (1, .ref x), (2, .ref y), (3, .ref ou), (4, .int (nI (6 * n)))] []) : Wk p l e room_1 s m args below meth c 7 D HB Q h cells slots 1033 [(0, .ref b), (1, .ref x), (2, .ref y), (3, .ref ou), (4, .int (nI (6 * n)))] [] := by
  obtain ⟨IM, IC, IW, IR, Iy, IA, Io, f, hou⟩ := id I
  have no := mq_ou IM hou
  obtain ⟨gl, ul, pl, mo, aq, tr, hx0⟩ := cr_x IC
  refine wk_run C k_law_1033 (pc2 := 1039) (lv2 := [(0, .ref b), (1, .ref x), (2, .ref y), (3, .ref ou), (4, .int (nI (6 * n)))]) (st2 := [.int ((nI (6 * n)) + 1), .ref b, .ref x]) rfl ?_
  refine wk_tld C hZ (nI_in (c := 6 * n) (by omega) (by omega)) (show Value.int (xs (nI (6 * n)).toNatClampNeg) = .int (xs (6 * n)) by rw [nI_clamp (by omega)]) d_law_1039 ?_
  refine wk_run C k_law_1040 (pc2 := 1045) (lv2 := [(0, .ref b), (1, .ref x), (2, .ref y), (3, .ref ou), (4, .int (nI (6 * n)))]) (st2 := [.int ((nI (6 * n)) + 2), .ref b, .int (xs (6 * n)), .ref x]) rfl ?_
  refine wk_tld C hZ (nI_in (c := 6 * n) (by omega) (by omega)) (show Value.int (xs (nI (6 * n)).toNatClampNeg) = .int (xs (6 * n)) by rw [nI_clamp (by omega)]) d_law_1045 ?_
  refine wk_run C k_law_1046 (pc2 := 1051) (lv2 := [(0, .ref b), (1, .ref x), (2, .ref y), (3, .ref ou), (4, .int (nI (6 * n)))]) (st2 := [.int ((nI (6 * n)) + 3), .ref b, .int (xs (6 * n)), .int (xs (6 * n)), .ref x]) rfl ?_
  refine wk_tld C hZ (nI_in (c := 6 * n) (by omega) (by omega)) (show Value.int (xs (nI (6 * n)).toNatClampNeg) = .int (xs (6 * n)) by rw [nI_clamp (by omega)]) d_law_1051 ?_
  refine wk_run C k_law_1052 (pc2 := 1057) (lv2 := [(0, .ref b), (1, .ref x), (2, .ref y), (3, .ref ou), (4, .int (nI (6 * n)))]) (st2 := [.int ((nI (6 * n)) + 4), .ref b, .int (xs (6 * n)), .int (xs (6 * n)), .int (xs (6 * n)), .ref x]) rfl ?_
  refine wk_tld C hZ (nI_in (c := 6 * n) (by omega) (by omega)) (show Value.int (xs (nI (6 * n)).toNatClampNeg) = .int (xs (6 * n)) by rw [nI_clamp (by omega)]) d_law_1057 ?_
  refine wk_run C k_law_1058 (pc2 := 1067) (lv2 := [(0, .ref b), (1, .ref x), (2, .ref y), (3, .ref ou), (4, .int (nI (6 * n)))]) (st2 := [.int ((nI (6 * n)) + 5), .ref b, .long (((xs (6 * n)).toInt64) <<< ((32 : Int32).toInt64 &&& 63)), .int (xs (6 * n)), .int (xs (6 * n)), .int (xs (6 * n)), .ref x]) rfl ?_
  refine wk_tld C hZ (nI_in (c := 6 * n) (by omega) (by omega)) (show Value.int (xs (nI (6 * n)).toNatClampNeg) = .int (xs (6 * n)) by rw [nI_clamp (by omega)]) d_law_1067 ?_
  refine wk_run C k_law_1068 (pc2 := 1069) (lv2 := [(0, .ref b), (1, .ref x), (2, .ref y), (3, .ref ou), (4, .int (nI (6 * n)))]) (st2 := [.long (xs (6 * n)).toInt64, .long (((xs (6 * n)).toInt64) <<< ((32 : Int32).toInt64 &&& 63)), .int (xs (6 * n)), .int (xs (6 * n)), .int (xs (6 * n)), .ref x]) rfl ?_
  refine wk_ldc2 C kl_LW_124 d_law_1069 ?_
  refine wk_run C k_law_1072 (pc2 := 1075) (lv2 := [(0, .ref b), (1, .ref x), (2, .ref y), (3, .ref ou), (4, .int (nI (6 * n)))]) (st2 := [.ref ou, .long ((((xs (6 * n)).toInt64) <<< ((32 : Int32).toInt64 &&& 63)) ||| (((xs (6 * n)).toInt64) &&& 4294967295)), .int (xs (6 * n)), .int (xs (6 * n)), .int (xs (6 * n)), .ref x]) rfl ?_
  refine wk_callSW (rest := []) C (c_LW_may l D HB h hlt own V x ou (xs (6 * n + 1)) (xs (6 * n + 2)) (xs (6 * n + 3)) (((xs (6 * n + 4)).toInt64 <<< ((32 : Int32).toInt64 &&& 63)) ||| ((xs (6 * n + 5)).toInt64 &&& 4294967295)) f IC IW (ok_m IR (by omega)) hou Io) cs_LW_126 kc_LW_may ki_LW rfl rfl (Nat.le_of_ble_eq_true rfl) (Nat.le_of_ble_eq_true rfl) (Nat.le_of_ble_eq_true rfl) hc hs d_law_1075 (fun v h2 hq => ?_) (fun E h2 hq => by obtain ⟨_, _, z, _⟩ := hq; cases z)
  obtain ⟨own2, f2, e1, hcr, hso, ho2, hou2, hf2⟩ := hq; cases e1
  show Wk _ _ _ _ _ _ _ _ _ _ _ _ _ _ _ _ _ _ _ (.int (sp_may V (xs (6 * n + 1)) (xs (6 * n + 2)) (xs (6 * n + 3)) (((xs (6 * n + 4)).toInt64 <<< ((32 : Int32).toInt64 &&& 63)) ||| ((xs (6 * n + 5)).toInt64 &&& 4294967295))).1 :: _)
  have ic := iv_c I hso
  refine wk_run C k_law_1078 (pc2 := 1086) (lv2 := [(5, .int (sp_may V (xs (6 * n + 1)) (xs (6 * n + 2)) (xs (6 * n + 3)) (((xs (6 * n + 4)).toInt64 <<< ((32 : Int32).toInt64 &&& 63)) ||| ((xs (6 * n + 5)).toInt64 &&& 4294967295))).1), (0, .ref b), (1, .ref x), (2, .ref y), (3, .ref ou), (4, .int (nI (6 * n)))]) (st2 := [.int ((nI (6 * n)) + 1), .ref b, .ref y]) rfl ?_
  refine wk_tld C hZ (nI_in (c := 6 * n) (by omega) (by omega)) (show Value.int (xs (nI (6 * n)).toNatClampNeg) = .int (xs (6 * n)) by rw [nI_clamp (by omega)]) d_law_1086 ?_
  refine wk_run C k_law_1087 (pc2 := 1092) (lv2 := [(5, .int (sp_may V (xs (6 * n + 1)) (xs (6 * n + 2)) (xs (6 * n + 3)) (((xs (6 * n + 4)).toInt64 <<< ((32 : Int32).toInt64 &&& 63)) ||| ((xs (6 * n + 5)).toInt64 &&& 4294967295))).1), (0, .ref b), (1, .ref x), (2, .ref y), (3, .ref ou), (4, .int (nI (6 * n)))]) (st2 := [.int ((nI (6 * n)) + 2), .ref b, .int (xs (6 * n)), .ref y]) rfl ?_
  refine wk_tld C hZ (nI_in (c := 6 * n) (by omega) (by omega)) (show Value.int (xs (nI (6 * n)).toNatClampNeg) = .int (xs (6 * n)) by rw [nI_clamp (by omega)]) d_law_1092 ?_
  refine wk_run C k_law_1093 (pc2 := 1098) (lv2 := [(5, .int (sp_may V (xs (6 * n + 1)) (xs (6 * n + 2)) (xs (6 * n + 3)) (((xs (6 * n + 4)).toInt64 <<< ((32 : Int32).toInt64 &&& 63)) ||| ((xs (6 * n + 5)).toInt64 &&& 4294967295))).1), (0, .ref b), (1, .ref x), (2, .ref y), (3, .ref ou), (4, .int (nI (6 * n)))]) (st2 := [.int ((nI (6 * n)) + 3), .ref b, .int (xs (6 * n)), .int (xs (6 * n)), .ref y]) rfl ?_
  refine wk_tld C hZ (nI_in (c := 6 * n) (by omega) (by omega)) (show Value.int (xs (nI (6 * n)).toNatClampNeg) = .int (xs (6 * n)) by rw [nI_clamp (by omega)]) d_law_1098 ?_
  refine wk_run C k_law_1099 (pc2 := 1104) (lv2 := [(5, .int (sp_may V (xs (6 * n + 1)) (xs (6 * n + 2)) (xs (6 * n + 3)) (((xs (6 * n + 4)).toInt64 <<< ((32 : Int32).toInt64 &&& 63)) ||| ((xs (6 * n + 5)).toInt64 &&& 4294967295))).1), (0, .ref b), (1, .ref x), (2, .ref y), (3, .ref ou), (4, .int (nI (6 * n)))]) (st2 := [.int ((nI (6 * n)) + 4), .ref b, .int (xs (6 * n)), .int (xs (6 * n)), .int (xs (6 * n)), .ref y]) rfl ?_
  refine wk_tld C hZ (nI_in (c := 6 * n) (by omega) (by omega)) (show Value.int (xs (nI (6 * n)).toNatClampNeg) = .int (xs (6 * n)) by rw [nI_clamp (by omega)]) d_law_1104 ?_
  refine wk_run C k_law_1105 (pc2 := 1114) (lv2 := [(5, .int (sp_may V (xs (6 * n + 1)) (xs (6 * n + 2)) (xs (6 * n + 3)) (((xs (6 * n + 4)).toInt64 <<< ((32 : Int32).toInt64 &&& 63)) ||| ((xs (6 * n + 5)).toInt64 &&& 4294967295))).1), (0, .ref b), (1, .ref x), (2, .ref y), (3, .ref ou), (4, .int (nI (6 * n)))]) (st2 := [.int ((nI (6 * n)) + 5), .ref b, .long (((xs (6 * n)).toInt64) <<< ((32 : Int32).toInt64 &&& 63)), .int (xs (6 * n)), .int (xs (6 * n)), .int (xs (6 * n)), .ref y]) rfl ?_
  refine wk_tld C hZ (nI_in (c := 6 * n) (by omega) (by omega)) (show Value.int (xs (nI (6 * n)).toNatClampNeg) = .int (xs (6 * n)) by rw [nI_clamp (by omega)]) d_law_1114 ?_
  refine wk_run C k_law_1115 (pc2 := 1116) (lv2 := [(5, .int (sp_may V (xs (6 * n + 1)) (xs (6 * n + 2)) (xs (6 * n + 3)) (((xs (6 * n + 4)).toInt64 <<< ((32 : Int32).toInt64 &&& 63)) ||| ((xs (6 * n + 5)).toInt64 &&& 4294967295))).1), (0, .ref b), (1, .ref x), (2, .ref y), (3, .ref ou), (4, .int (nI (6 * n)))]) (st2 := [.long (xs (6 * n)).toInt64, .long (((xs (6 * n)).toInt64) <<< ((32 : Int32).toInt64 &&& 63)), .int (xs (6 * n)), .int (xs (6 * n)), .int (xs (6 * n)), .ref y]) rfl ?_
  refine wk_ldc2 C kl_LW_124 d_law_1116 ?_
  refine wk_run C k_law_1119 (pc2 := 1121) (lv2 := [(5, .int (sp_may V (xs (6 * n + 1)) (xs (6 * n + 2)) (xs (6 * n + 3)) (((xs (6 * n + 4)).toInt64 <<< ((32 : Int32).toInt64 &&& 63)) ||| ((xs (6 * n + 5)).toInt64 &&& 4294967295))).1), (0, .ref b), (1, .ref x), (2, .ref y), (3, .ref ou), (4, .int (nI (6 * n)))]) (st2 := [.long ((((xs (6 * n)).toInt64) <<< ((32 : Int32).toInt64 &&& 63)) ||| (((xs (6 * n)).toInt64) &&& 4294967295)), .int (xs (6 * n)), .int (xs (6 * n)), .int (xs (6 * n)), .ref y]) rfl ?_
  refine wk_callV (cl := ("ProfileRightsModel", T_MD, 27)) (rest := []) C (m_may l D HB h2 h2 y A V (xs (6 * n + 1)) (xs (6 * n + 2)) (xs (6 * n + 3)) (((xs (6 * n + 4)).toInt64 <<< ((32 : Int32).toInt64 &&& 63)) ||| ((xs (6 * n + 5)).toInt64 &&& 4294967295)) IW (ok_m IR (by omega)) ic.1) cs_LW_129 kc_MD_may ki_MD ic.1.ob rfl rfl rfl (Nat.le_of_ble_eq_true rfl) (Nat.le_of_ble_eq_true rfl) (Nat.le_of_ble_eq_true rfl) hc hs d_law_1121 (fun v2 h3 hq2 => ?_) (fun E h9 hq9 => by obtain ⟨_, _, _, _, _, z, _⟩ := hq9; cases z)
  obtain ⟨cd, r, V2, F, es, e1, hM2⟩ := hq2; cases e1
  show Wk _ _ _ _ _ _ _ _ _ _ _ _ _ _ _ _ _ _ _ (.int r :: _)
  have hW2 : wf V2 := by have z : wf (sp_may V (xs (6 * n + 1)) (xs (6 * n + 2)) (xs (6 * n + 3)) (((xs (6 * n + 4)).toInt64 <<< ((32 : Int32).toInt64 &&& 63)) ||| ((xs (6 * n + 5)).toInt64 &&& 4294967295))).2.2 := wf_may IW; rw [es] at z; exact z
  have hR2 : ok_ (V2 25 0) (n + 1) := by have z := r25_may (V := V) (xs (6 * n + 1)) (xs (6 * n + 2)) (xs (6 * n + 3)) (((xs (6 * n + 4)).toInt64 <<< ((32 : Int32).toInt64 &&& 63)) ||| ((xs (6 * n + 5)).toInt64 &&& 4294967295)) (by omega) IR; rw [es] at z; exact z
  have he : ∀ j, j ≠ 0 → j ≠ 26 → (vs V2 26 F) j = (sp_may V (xs (6 * n + 1)) (xs (6 * n + 2)) (xs (6 * n + 3)) (((xs (6 * n + 4)).toInt64 <<< ((32 : Int32).toInt64 &&& 63)) ||| ((xs (6 * n + 5)).toInt64 &&& 4294967295))).2.2 j := fun j _ h26 => by rw [es]; exact vs_n h26
  have ecd : V2 0 0 = (sp_may V (xs (6 * n + 1)) (xs (6 * n + 2)) (xs (6 * n + 3)) (((xs (6 * n + 4)).toInt64 <<< ((32 : Int32).toInt64 &&& 63)) ||| ((xs (6 * n + 5)).toInt64 &&& 4294967295))).1 := by have z := cd_may V (xs (6 * n + 1)) (xs (6 * n + 2)) (xs (6 * n + 3)) (((xs (6 * n + 4)).toInt64 <<< ((32 : Int32).toInt64 &&& 63)) ||| ((xs (6 * n + 5)).toInt64 &&& 4294967295)); rw [es] at z ⊢; exact z
  have er : (sp_may V (xs (6 * n + 1)) (xs (6 * n + 2)) (xs (6 * n + 3)) (((xs (6 * n + 4)).toInt64 <<< ((32 : Int32).toInt64 &&& 63)) ||| ((xs (6 * n + 5)).toInt64 &&& 4294967295))).2.1 = r := by rw [es]
  refine wk_run C k_law_1124 (pc2 := 1127) (lv2 := [(6, .int r), (5, .int (sp_may V (xs (6 * n + 1)) (xs (6 * n + 2)) (xs (6 * n + 3)) (((xs (6 * n + 4)).toInt64 <<< ((32 : Int32).toInt64 &&& 63)) ||| ((xs (6 * n + 5)).toInt64 &&& 4294967295))).1), (0, .ref b), (1, .ref x), (2, .ref y), (3, .ref ou), (4, .int (nI (6 * n)))]) (st2 := [.ref y]) rfl ?_
  refine wk_callV (cl := ("ProfileRightsModel", T_MD, 27)) (rest := []) C (c_MD_thrown l D HB h3 h2 y A (vs V2 26 F) hM2) cs_LW_79 kc_MD_thrown ki_MD hM2.ob rfl rfl rfl (Nat.le_of_ble_eq_true rfl) (Nat.le_of_ble_eq_true rfl) (Nat.le_of_ble_eq_true rfl) hc hs d_law_1127 (fun v3 h4 hq3 => ?_) (fun E h9 hq9 => by obtain ⟨_, _, _, _, z, _⟩ := hq9; cases z)
  obtain ⟨cd3, r3, V3, es3, e1, hM3⟩ := hq3; cases e1; cases es3
  show Wk _ _ _ _ _ _ _ _ _ _ _ _ _ _ _ _ _ _ _ (.int (V2 0 0) :: _)
  have iv2 := iv_m hcr hM3 ic.2.1 ic.2.2 (by rw [ho2]; exact Io) hou2 no (wf_s hW2 rfl rfl rfl rfl rfl rfl rfl rfl rfl rfl rfl rfl rfl rfl hW2.2.2.2.1) hR2 he
  refine wk_run C k_law_1130 (pc2 := 1132) (lv2 := [(6, .int r), (5, .int (sp_may V (xs (6 * n + 1)) (xs (6 * n + 2)) (xs (6 * n + 3)) (((xs (6 * n + 4)).toInt64 <<< ((32 : Int32).toInt64 &&& 63)) ||| ((xs (6 * n + 5)).toInt64 &&& 4294967295))).1), (0, .ref b), (1, .ref x), (2, .ref y), (3, .ref ou), (4, .int (nI (6 * n)))]) (st2 := [.int (sp_may V (xs (6 * n + 1)) (xs (6 * n + 2)) (xs (6 * n + 3)) (((xs (6 * n + 4)).toInt64 <<< ((32 : Int32).toInt64 &&& 63)) ||| ((xs (6 * n + 5)).toInt64 &&& 4294967295))).1, .int (V2 0 0)]) rfl ?_
  refine wk_br C d_law_1132 (P := (V2 0 0) = ((sp_may V (xs (6 * n + 1)) (xs (6 * n + 2)) (xs (6 * n + 3)) (((xs (6 * n + 4)).toInt64 <<< ((32 : Int32).toInt64 &&& 63)) ||| ((xs (6 * n + 5)).toInt64 &&& 4294967295))).1)) (tgt := 1137) (rest := []) rfl (by decide) (fun c1 => ?_) (fun c1 => ?_)
  ·
    refine wk_run C k_law_1137 (pc2 := 1139) (lv2 := [(6, .int r), (5, .int (sp_may V (xs (6 * n + 1)) (xs (6 * n + 2)) (xs (6 * n + 3)) (((xs (6 * n + 4)).toInt64 <<< ((32 : Int32).toInt64 &&& 63)) ||| ((xs (6 * n + 5)).toInt64 &&& 4294967295))).1), (0, .ref b), (1, .ref x), (2, .ref y), (3, .ref ou), (4, .int (nI (6 * n)))]) (st2 := [.int (sp_may V (xs (6 * n + 1)) (xs (6 * n + 2)) (xs (6 * n + 3)) (((xs (6 * n + 4)).toInt64 <<< ((32 : Int32).toInt64 &&& 63)) ||| ((xs (6 * n + 5)).toInt64 &&& 4294967295))).1]) rfl ?_
    refine wk_br C d_law_1139 (P := ¬ ((sp_may V (xs (6 * n + 1)) (xs (6 * n + 2)) (xs (6 * n + 3)) (((xs (6 * n + 4)).toInt64 <<< ((32 : Int32).toInt64 &&& 63)) ||| ((xs (6 * n + 5)).toInt64 &&& 4294967295))).1) = 0) (tgt := 1154) (rest := []) rfl (by decide) (fun c2 => ?_) (fun c2 => ?_)
    ·
      refine wk_goto C d_law_1154 (tgt := 1471) (by decide) ?_
      refine Wk.sub (lv2 := [(0, .ref b), (1, .ref x), (2, .ref y), (3, .ref ou), (4, .int (nI (6 * n)))]) [2, 3, 4, 5, 6] rfl ?_
      exact K _ own2 _ iv2.1
    ·
      have hf3 := hf2 (Classical.not_not.mp c2)
      refine wk_run C k_law_1142 (pc2 := 1144) (lv2 := [(6, .int r), (5, .int (sp_may V (xs (6 * n + 1)) (xs (6 * n + 2)) (xs (6 * n + 3)) (((xs (6 * n + 4)).toInt64 <<< ((32 : Int32).toInt64 &&& 63)) ||| ((xs (6 * n + 5)).toInt64 &&& 4294967295))).1), (0, .ref b), (1, .ref x), (2, .ref y), (3, .ref ou), (4, .int (nI (6 * n)))]) (st2 := [.int 0, .ref ou]) rfl ?_
      refine wk_lald C iv2.2 (nI_in (c := 0) (by decide) (by decide)) d_law_1144 ?_
      show Wk _ _ _ _ _ _ _ _ _ _ _ _ _ _ _ _ _ _ _ (.long (f2 0) :: _)
      rw [hf3, er]
      refine wk_run C k_law_1145 (pc2 := 1148) (lv2 := [(6, .int r), (5, .int (sp_may V (xs (6 * n + 1)) (xs (6 * n + 2)) (xs (6 * n + 3)) (((xs (6 * n + 4)).toInt64 <<< ((32 : Int32).toInt64 &&& 63)) ||| ((xs (6 * n + 5)).toInt64 &&& 4294967295))).1), (0, .ref b), (1, .ref x), (2, .ref y), (3, .ref ou), (4, .int (nI (6 * n)))]) (st2 := [.long r.toInt64, .long r.toInt64]) rfl ?_
      refine wk_lcmp C d_law_1148 ?_
      refine wk_br C d_law_1149 (P := (lg_cmp r.toInt64 r.toInt64) = 0) (tgt := 1154) (rest := []) rfl (by decide) (fun c4 => ?_) (fun c4 => ?_)
      ·
        refine wk_goto C d_law_1154 (tgt := 1471) (by decide) ?_
        refine Wk.sub (lv2 := [(0, .ref b), (1, .ref x), (2, .ref y), (3, .ref ou), (4, .int (nI (6 * n)))]) [2, 3, 4, 5, 6] rfl ?_
        exact K _ own2 _ iv2.1
      ·
        exact absurd (lg_s _) c4
  ·
    exact absurd ecd c1
theorem k_law_1157 : px_dec code [.aload_n 1] 1157 = true := by decide +kernel
theorem d_law_1158 : decode code 1158 = .ok (.invokevirtual 130, 3) := by decide +kernel
theorem k_law_1161 : px_dec code [.aload_n 2] 1161 = true := by decide +kernel
theorem d_law_1162 : decode code 1162 = .ok (.invokevirtual 133, 3) := by decide +kernel
theorem d_law_1165 : decode code 1165 = .ok (.if_icmp .eq 306, 3) := by decide +kernel
set_option maxRecDepth 100000 in
set_option maxHeartbeats 4000000 in
theorem lw_matched {p : Program} {l : Launch} {e : Env} {s : State} {m : MethodId} {args : Array Value} {below : List Frame} {meth : Method} {c : Code} {Q : State → Prop} {D : va_G} {HB : Heap} {hh : List (Nat × Nat × Nat × Nat)} (C : wk_C p s m args meth c code "ProfileRightsLaw" 7 ret hh D HB) (hlt : l.stackTraces = false) {b L : Nat} {xs : Nat → Int32} (hZ : va_T .int b L (fun j => .int (xs j)) (hp_A HB) s HB) {x y ou : Nat} {A : Nat → Nat} {n cells slots : Nat} {V : vT} {own : oT} {h : hp_T} (hn : n < 512) (hL : L ≤ 3072) (h6 : 6 * n + 6 ≤ L) (hc : cells + 8 ≤ 601024) (hs : slots + 200 ≤ 7293034) (I : iv D x y ou A n V own h) (K : ∀ (V2 : vT) (own2 : oT) (h2 : hp_T), iv D x y ou A (n + 1) V2 own2 h2 → Wk p l e room_1 s m args below meth c 7 D HB Q h2 (cells + 8) (slots + 200) 1471 [(0, .ref b), (1, .ref x), (2, .ref y), (3, .ref ou), (4, .int (nI (6 * n)))] []) : Wk p l e room_1 s m args below meth c 7 D HB Q h cells slots 1157 [(0, .ref b), (1, .ref x), (2, .ref y), (3, .ref ou), (4, .int (nI (6 * n)))] [] := by
  obtain ⟨IM, IC, IW, IR, Iy, IA, Io, f, hou⟩ := id I
  have no := mq_ou IM hou
  obtain ⟨gl, ul, pl, mo, aq, tr, hx0⟩ := cr_x IC
  refine wk_run C k_law_1157 (pc2 := 1158) (lv2 := [(0, .ref b), (1, .ref x), (2, .ref y), (3, .ref ou), (4, .int (nI (6 * n)))]) (st2 := [.ref x]) rfl ?_
  refine wk_callV (cl := ("ProfileRights", T_PR, 7)) (rest := []) C (o_matched l D HB h hlt own V x IC IW) cs_LW_130 kc_PR_matched ki_PR hx0 rfl rfl rfl (Nat.le_of_ble_eq_true rfl) (Nat.le_of_ble_eq_true rfl) (Nat.le_of_ble_eq_true rfl) hc hs d_law_1158 (fun v h2 hq => ?_) (fun E h2 hq => by obtain ⟨e1, _⟩ := wq_d hq (n0_matched V) hou Io; cases e1)
  obtain ⟨e1, own2, hcr, hso, ho2, hou2⟩ := wq_d hq (n0_matched V) hou Io
  have hv := Sum.inl.inj e1; subst hv
  show Wk _ _ _ _ _ _ _ _ _ _ _ _ _ _ _ _ _ _ _ (.int (sp_matched V).2.1 :: _)
  have ic := iv_c I hso
  refine wk_run C k_law_1161 (pc2 := 1162) (lv2 := [(0, .ref b), (1, .ref x), (2, .ref y), (3, .ref ou), (4, .int (nI (6 * n)))]) (st2 := [.ref y, .int (sp_matched V).2.1]) rfl ?_
  refine wk_callV (cl := ("ProfileRightsModel", T_MD, 27)) (rest := [.int (sp_matched V).2.1]) C (m_matched l D HB h2 h2 y A V IW ic.1) cs_LW_133 kc_MD_matched ki_MD ic.1.ob rfl rfl rfl (Nat.le_of_ble_eq_true rfl) (Nat.le_of_ble_eq_true rfl) (Nat.le_of_ble_eq_true rfl) hc hs d_law_1162 (fun v2 h3 hq2 => ?_) (fun E h9 hq9 => by obtain ⟨_, _, _, _, z, _⟩ := hq9; cases z)
  obtain ⟨cd, r, V2, es, e1, hM2⟩ := hq2; cases e1
  show Wk _ _ _ _ _ _ _ _ _ _ _ _ _ _ _ _ _ _ _ (.int r :: _)
  have hW2 : wf V2 := by have z : wf (sp_matched V).2.2 := wf_0 IW 0; rw [es] at z; exact z
  have hR2 : ok_ (V2 25 0) (n + 1) := by have z := r25_matched (V := V) (by omega) IR; rw [es] at z; exact z
  have he : ∀ j, j ≠ 0 → j ≠ 26 → V2 j = (sp_matched V).2.2 j := fun j _ h26 => by rw [es]
  have iv2 := iv_m hcr hM2 ic.2.1 ic.2.2 (by rw [ho2]; exact Io) hou2 no hW2 hR2 he
  refine wk_br C d_law_1165 (P := ((sp_matched V).2.1) = r) (tgt := 1471) (rest := []) rfl (by decide) (fun c1 => ?_) (fun c1 => ?_)
  ·
    refine Wk.sub (lv2 := [(0, .ref b), (1, .ref x), (2, .ref y), (3, .ref ou), (4, .int (nI (6 * n)))]) [0, 1, 2, 3, 4] rfl ?_
    exact K _ own2 _ iv2.1
  ·
    exact absurd (by rw [es]) c1
theorem k_law_1170 : px_dec code [.aload_n 1, .aload_n 0, .iload 4, .iconst 1, .iadd] 1170 = true := by decide +kernel
theorem d_law_1176 : decode code 1176 = .ok (.iaload, 1) := by decide +kernel
theorem k_law_1177 : px_dec code [.aload_n 0, .iload 4, .iconst 2, .iadd] 1177 = true := by decide +kernel
theorem d_law_1182 : decode code 1182 = .ok (.iaload, 1) := by decide +kernel
theorem d_law_1183 : decode code 1183 = .ok (.invokevirtual 134, 3) := by decide +kernel
theorem k_law_1186 : px_dec code [.aload_n 2, .aload_n 0, .iload 4, .iconst 1, .iadd] 1186 = true := by decide +kernel
theorem d_law_1192 : decode code 1192 = .ok (.iaload, 1) := by decide +kernel
theorem k_law_1193 : px_dec code [.aload_n 0, .iload 4, .iconst 2, .iadd] 1193 = true := by decide +kernel
theorem d_law_1198 : decode code 1198 = .ok (.iaload, 1) := by decide +kernel
theorem d_law_1199 : decode code 1199 = .ok (.invokevirtual 137, 3) := by decide +kernel
theorem d_law_1202 : decode code 1202 = .ok (.if_icmp .eq 269, 3) := by decide +kernel
set_option maxRecDepth 100000 in
set_option maxHeartbeats 4000000 in
theorem lw_audit {p : Program} {l : Launch} {e : Env} {s : State} {m : MethodId} {args : Array Value} {below : List Frame} {meth : Method} {c : Code} {Q : State → Prop} {D : va_G} {HB : Heap} {hh : List (Nat × Nat × Nat × Nat)} (C : wk_C p s m args meth c code "ProfileRightsLaw" 7 ret hh D HB) (hlt : l.stackTraces = false) {b L : Nat} {xs : Nat → Int32} (hZ : va_T .int b L (fun j => .int (xs j)) (hp_A HB) s HB) {x y ou : Nat} {A : Nat → Nat} {n cells slots : Nat} {V : vT} {own : oT} {h : hp_T} (hn : n < 512) (hL : L ≤ 3072) (h6 : 6 * n + 6 ≤ L) (hc : cells + 8 ≤ 601024) (hs : slots + 200 ≤ 7293034) (I : iv D x y ou A n V own h) (K : ∀ (V2 : vT) (own2 : oT) (h2 : hp_T), iv D x y ou A (n + 1) V2 own2 h2 → Wk p l e room_1 s m args below meth c 7 D HB Q h2 (cells + 8) (slots + 200) 1471 [(0, .ref b), (1, .ref x), (2, .ref y), (3, .ref ou), (4, .int (nI (6 * n)))] []) : Wk p l e room_1 s m args below meth c 7 D HB Q h cells slots 1170 [(0, .ref b), (1, .ref x), (2, .ref y), (3, .ref ou), (4, .int (nI (6 * n)))] [] := by
  obtain ⟨IM, IC, IW, IR, Iy, IA, Io, f, hou⟩ := id I
  have no := mq_ou IM hou
  obtain ⟨gl, ul, pl, mo, aq, tr, hx0⟩ := cr_x IC
  refine wk_run C k_law_1170 (pc2 := 1176) (lv2 := [(0, .ref b), (1, .ref x), (2, .ref y), (3, .ref ou), (4, .int (nI (6 * n)))]) (st2 := [.int ((nI (6 * n)) + 1), .ref b, .ref x]) rfl ?_
  refine wk_tld C hZ (nI_in (c := 6 * n) (by omega) (by omega)) (show Value.int (xs (nI (6 * n)).toNatClampNeg) = .int (xs (6 * n)) by rw [nI_clamp (by omega)]) d_law_1176 ?_
  refine wk_run C k_law_1177 (pc2 := 1182) (lv2 := [(0, .ref b), (1, .ref x), (2, .ref y), (3, .ref ou), (4, .int (nI (6 * n)))]) (st2 := [.int ((nI (6 * n)) + 2), .ref b, .int (xs (6 * n)), .ref x]) rfl ?_
  refine wk_tld C hZ (nI_in (c := 6 * n) (by omega) (by omega)) (show Value.int (xs (nI (6 * n)).toNatClampNeg) = .int (xs (6 * n)) by rw [nI_clamp (by omega)]) d_law_1182 ?_
  refine wk_callV (cl := ("ProfileRights", T_PR, 7)) (rest := []) C (o_audit l D HB h hlt own V x (xs (6 * n + 1)) (xs (6 * n + 2)) IC IW (ok_m IR (by omega))) cs_LW_134 kc_PR_audit ki_PR hx0 rfl rfl rfl (Nat.le_of_ble_eq_true rfl) (Nat.le_of_ble_eq_true rfl) (Nat.le_of_ble_eq_true rfl) hc hs d_law_1183 (fun v h2 hq => ?_) (fun E h2 hq => by obtain ⟨e1, _⟩ := wq_d hq (n0_audit V (xs (6 * n + 1)) (xs (6 * n + 2))) hou Io; cases e1)
  obtain ⟨e1, own2, hcr, hso, ho2, hou2⟩ := wq_d hq (n0_audit V (xs (6 * n + 1)) (xs (6 * n + 2))) hou Io
  have hv := Sum.inl.inj e1; subst hv
  show Wk _ _ _ _ _ _ _ _ _ _ _ _ _ _ _ _ _ _ _ (.int (sp_audit V (xs (6 * n + 1)) (xs (6 * n + 2))).2.1 :: _)
  have ic := iv_c I hso
  refine wk_run C k_law_1186 (pc2 := 1192) (lv2 := [(0, .ref b), (1, .ref x), (2, .ref y), (3, .ref ou), (4, .int (nI (6 * n)))]) (st2 := [.int ((nI (6 * n)) + 1), .ref b, .ref y, .int (sp_audit V (xs (6 * n + 1)) (xs (6 * n + 2))).2.1]) rfl ?_
  refine wk_tld C hZ (nI_in (c := 6 * n) (by omega) (by omega)) (show Value.int (xs (nI (6 * n)).toNatClampNeg) = .int (xs (6 * n)) by rw [nI_clamp (by omega)]) d_law_1192 ?_
  refine wk_run C k_law_1193 (pc2 := 1198) (lv2 := [(0, .ref b), (1, .ref x), (2, .ref y), (3, .ref ou), (4, .int (nI (6 * n)))]) (st2 := [.int ((nI (6 * n)) + 2), .ref b, .int (xs (6 * n)), .ref y, .int (sp_audit V (xs (6 * n + 1)) (xs (6 * n + 2))).2.1]) rfl ?_
  refine wk_tld C hZ (nI_in (c := 6 * n) (by omega) (by omega)) (show Value.int (xs (nI (6 * n)).toNatClampNeg) = .int (xs (6 * n)) by rw [nI_clamp (by omega)]) d_law_1198 ?_
  refine wk_callV (cl := ("ProfileRightsModel", T_MD, 27)) (rest := [.int (sp_audit V (xs (6 * n + 1)) (xs (6 * n + 2))).2.1]) C (m_audit l D HB h2 h2 y A V (xs (6 * n + 1)) (xs (6 * n + 2)) IW ic.1) cs_LW_137 kc_MD_audit ki_MD ic.1.ob rfl rfl rfl (Nat.le_of_ble_eq_true rfl) (Nat.le_of_ble_eq_true rfl) (Nat.le_of_ble_eq_true rfl) hc hs d_law_1199 (fun v2 h3 hq2 => ?_) (fun E h9 hq9 => by obtain ⟨_, _, _, _, z, _⟩ := hq9; cases z)
  obtain ⟨cd, r, V2, es, e1, hM2⟩ := hq2; cases e1
  show Wk _ _ _ _ _ _ _ _ _ _ _ _ _ _ _ _ _ _ _ (.int r :: _)
  have hW2 : wf V2 := by have z : wf (sp_audit V (xs (6 * n + 1)) (xs (6 * n + 2))).2.2 := wf_0 IW 0; rw [es] at z; exact z
  have hR2 : ok_ (V2 25 0) (n + 1) := by have z := r25_audit (V := V) (xs (6 * n + 1)) (xs (6 * n + 2)) (by omega) IR; rw [es] at z; exact z
  have he : ∀ j, j ≠ 0 → j ≠ 26 → V2 j = (sp_audit V (xs (6 * n + 1)) (xs (6 * n + 2))).2.2 j := fun j _ h26 => by rw [es]
  have iv2 := iv_m hcr hM2 ic.2.1 ic.2.2 (by rw [ho2]; exact Io) hou2 no hW2 hR2 he
  refine wk_br C d_law_1202 (P := ((sp_audit V (xs (6 * n + 1)) (xs (6 * n + 2))).2.1) = r) (tgt := 1471) (rest := []) rfl (by decide) (fun c1 => ?_) (fun c1 => ?_)
  ·
    refine Wk.sub (lv2 := [(0, .ref b), (1, .ref x), (2, .ref y), (3, .ref ou), (4, .int (nI (6 * n)))]) [0, 1, 2, 3, 4] rfl ?_
    exact K _ own2 _ iv2.1
  ·
    exact absurd (by rw [es]) c1
theorem k_law_1207 : px_dec code [.aload_n 1, .aload_n 0, .iload 4, .iconst 1, .iadd] 1207 = true := by decide +kernel
theorem d_law_1213 : decode code 1213 = .ok (.iaload, 1) := by decide +kernel
theorem k_law_1214 : px_dec code [.aload_n 0, .iload 4, .iconst 2, .iadd] 1214 = true := by decide +kernel
theorem d_law_1219 : decode code 1219 = .ok (.iaload, 1) := by decide +kernel
theorem k_law_1220 : px_dec code [.aload_n 3] 1220 = true := by decide +kernel
theorem d_law_1221 : decode code 1221 = .ok (.invokestatic 138, 3) := by decide +kernel
theorem k_law_1224 : px_dec code [.istore 5, .aload_n 2, .aload_n 0, .iload 4, .iconst 1, .iadd] 1224 = true := by decide +kernel
theorem d_law_1232 : decode code 1232 = .ok (.iaload, 1) := by decide +kernel
theorem k_law_1233 : px_dec code [.aload_n 0, .iload 4, .iconst 2, .iadd] 1233 = true := by decide +kernel
theorem d_law_1238 : decode code 1238 = .ok (.iaload, 1) := by decide +kernel
theorem d_law_1239 : decode code 1239 = .ok (.invokevirtual 140, 3) := by decide +kernel
theorem k_law_1242 : px_dec code [.istore 6, .aload_n 2] 1242 = true := by decide +kernel
theorem d_law_1245 : decode code 1245 = .ok (.invokevirtual 79, 3) := by decide +kernel
theorem k_law_1248 : px_dec code [.iload 5] 1248 = true := by decide +kernel
theorem d_law_1250 : decode code 1250 = .ok (.if_icmp .eq 5, 3) := by decide +kernel
theorem k_law_1255 : px_dec code [.iload 5] 1255 = true := by decide +kernel
theorem d_law_1257 : decode code 1257 = .ok (.ifCond .ne 15, 3) := by decide +kernel
theorem d_law_1272 : decode code 1272 = .ok (.goto 199, 3) := by decide +kernel
theorem k_law_1260 : px_dec code [.aload_n 3, .iconst 0] 1260 = true := by decide +kernel
theorem d_law_1262 : decode code 1262 = .ok (.laload, 1) := by decide +kernel
theorem k_law_1263 : px_dec code [.iload 6, .i2l] 1263 = true := by decide +kernel
theorem d_law_1266 : decode code 1266 = .ok (.lcmp, 1) := by decide +kernel
theorem d_law_1267 : decode code 1267 = .ok (.ifCond .eq 5, 3) := by decide +kernel
set_option maxRecDepth 100000 in
set_option maxHeartbeats 4000000 in
theorem lw_who {p : Program} {l : Launch} {e : Env} {s : State} {m : MethodId} {args : Array Value} {below : List Frame} {meth : Method} {c : Code} {Q : State → Prop} {D : va_G} {HB : Heap} {hh : List (Nat × Nat × Nat × Nat)} (C : wk_C p s m args meth c code "ProfileRightsLaw" 7 ret hh D HB) (hlt : l.stackTraces = false) {b L : Nat} {xs : Nat → Int32} (hZ : va_T .int b L (fun j => .int (xs j)) (hp_A HB) s HB) {x y ou : Nat} {A : Nat → Nat} {n cells slots : Nat} {V : vT} {own : oT} {h : hp_T} (hn : n < 512) (hL : L ≤ 3072) (h6 : 6 * n + 6 ≤ L) (hc : cells + 8 ≤ 601024) (hs : slots + 200 ≤ 7293034) (I : iv D x y ou A n V own h) (K : ∀ (V2 : vT) (own2 : oT) (h2 : hp_T), iv D x y ou A (n + 1) V2 own2 h2 → Wk p l e room_1 s m args below meth c 7 D HB Q h2 (cells + 8) (slots + 200) 1471 [(0, .ref b), (1, .ref x), (2, .ref y), (3, .ref ou), (4, .int (nI (6 * n)))] []) : Wk p l e room_1 s m args below meth c 7 D HB Q h cells slots 1207 [(0, .ref b), (1, .ref x), (2, .ref y), (3, .ref ou), (4, .int (nI (6 * n)))] [] := by
  obtain ⟨IM, IC, IW, IR, Iy, IA, Io, f, hou⟩ := id I
  have no := mq_ou IM hou
  obtain ⟨gl, ul, pl, mo, aq, tr, hx0⟩ := cr_x IC
  refine wk_run C k_law_1207 (pc2 := 1213) (lv2 := [(0, .ref b), (1, .ref x), (2, .ref y), (3, .ref ou), (4, .int (nI (6 * n)))]) (st2 := [.int ((nI (6 * n)) + 1), .ref b, .ref x]) rfl ?_
  refine wk_tld C hZ (nI_in (c := 6 * n) (by omega) (by omega)) (show Value.int (xs (nI (6 * n)).toNatClampNeg) = .int (xs (6 * n)) by rw [nI_clamp (by omega)]) d_law_1213 ?_
  refine wk_run C k_law_1214 (pc2 := 1219) (lv2 := [(0, .ref b), (1, .ref x), (2, .ref y), (3, .ref ou), (4, .int (nI (6 * n)))]) (st2 := [.int ((nI (6 * n)) + 2), .ref b, .int (xs (6 * n)), .ref x]) rfl ?_
  refine wk_tld C hZ (nI_in (c := 6 * n) (by omega) (by omega)) (show Value.int (xs (nI (6 * n)).toNatClampNeg) = .int (xs (6 * n)) by rw [nI_clamp (by omega)]) d_law_1219 ?_
  refine wk_run C k_law_1220 (pc2 := 1221) (lv2 := [(0, .ref b), (1, .ref x), (2, .ref y), (3, .ref ou), (4, .int (nI (6 * n)))]) (st2 := [.ref ou, .int (xs (6 * n)), .int (xs (6 * n)), .ref x]) rfl ?_
  refine wk_callSW (rest := []) C (c_LW_who l D HB h hlt own V x ou (xs (6 * n + 1)) (xs (6 * n + 2)) f IC IW hou Io) cs_LW_138 kc_LW_who ki_LW rfl rfl (Nat.le_of_ble_eq_true rfl) (Nat.le_of_ble_eq_true rfl) (Nat.le_of_ble_eq_true rfl) hc hs d_law_1221 (fun v h2 hq => ?_) (fun E h2 hq => by obtain ⟨_, _, z, _⟩ := hq; cases z)
  obtain ⟨own2, f2, e1, hcr, hso, ho2, hou2, hf2⟩ := hq; cases e1
  show Wk _ _ _ _ _ _ _ _ _ _ _ _ _ _ _ _ _ _ _ (.int (sp_who V (xs (6 * n + 1)) (xs (6 * n + 2))).1 :: _)
  have ic := iv_c I hso
  refine wk_run C k_law_1224 (pc2 := 1232) (lv2 := [(5, .int (sp_who V (xs (6 * n + 1)) (xs (6 * n + 2))).1), (0, .ref b), (1, .ref x), (2, .ref y), (3, .ref ou), (4, .int (nI (6 * n)))]) (st2 := [.int ((nI (6 * n)) + 1), .ref b, .ref y]) rfl ?_
  refine wk_tld C hZ (nI_in (c := 6 * n) (by omega) (by omega)) (show Value.int (xs (nI (6 * n)).toNatClampNeg) = .int (xs (6 * n)) by rw [nI_clamp (by omega)]) d_law_1232 ?_
  refine wk_run C k_law_1233 (pc2 := 1238) (lv2 := [(5, .int (sp_who V (xs (6 * n + 1)) (xs (6 * n + 2))).1), (0, .ref b), (1, .ref x), (2, .ref y), (3, .ref ou), (4, .int (nI (6 * n)))]) (st2 := [.int ((nI (6 * n)) + 2), .ref b, .int (xs (6 * n)), .ref y]) rfl ?_
  refine wk_tld C hZ (nI_in (c := 6 * n) (by omega) (by omega)) (show Value.int (xs (nI (6 * n)).toNatClampNeg) = .int (xs (6 * n)) by rw [nI_clamp (by omega)]) d_law_1238 ?_
  refine wk_callV (cl := ("ProfileRightsModel", T_MD, 27)) (rest := []) C (m_who l D HB h2 h2 y A V (xs (6 * n + 1)) (xs (6 * n + 2)) IW ic.1) cs_LW_140 kc_MD_who ki_MD ic.1.ob rfl rfl rfl (Nat.le_of_ble_eq_true rfl) (Nat.le_of_ble_eq_true rfl) (Nat.le_of_ble_eq_true rfl) hc hs d_law_1239 (fun v2 h3 hq2 => ?_) (fun E h9 hq9 => by obtain ⟨_, _, _, _, z, _⟩ := hq9; cases z)
  obtain ⟨cd, r, V2, es, e1, hM2⟩ := hq2; cases e1
  show Wk _ _ _ _ _ _ _ _ _ _ _ _ _ _ _ _ _ _ _ (.int r :: _)
  have hW2 : wf V2 := by have z : wf (sp_who V (xs (6 * n + 1)) (xs (6 * n + 2))).2.2 := wf_who IW; rw [es] at z; exact z
  have hR2 : ok_ (V2 25 0) (n + 1) := by have z := r25_who (V := V) (xs (6 * n + 1)) (xs (6 * n + 2)) (by omega) IR; rw [es] at z; exact z
  have he : ∀ j, j ≠ 0 → j ≠ 26 → V2 j = (sp_who V (xs (6 * n + 1)) (xs (6 * n + 2))).2.2 j := fun j _ h26 => by rw [es]
  have ecd : V2 0 0 = (sp_who V (xs (6 * n + 1)) (xs (6 * n + 2))).1 := by have z := cd_who V (xs (6 * n + 1)) (xs (6 * n + 2)); rw [es] at z ⊢; exact z
  have er : (sp_who V (xs (6 * n + 1)) (xs (6 * n + 2))).2.1 = r := by rw [es]
  refine wk_run C k_law_1242 (pc2 := 1245) (lv2 := [(6, .int r), (5, .int (sp_who V (xs (6 * n + 1)) (xs (6 * n + 2))).1), (0, .ref b), (1, .ref x), (2, .ref y), (3, .ref ou), (4, .int (nI (6 * n)))]) (st2 := [.ref y]) rfl ?_
  refine wk_callV (cl := ("ProfileRightsModel", T_MD, 27)) (rest := []) C (c_MD_thrown l D HB h3 h2 y A V2 hM2) cs_LW_79 kc_MD_thrown ki_MD hM2.ob rfl rfl rfl (Nat.le_of_ble_eq_true rfl) (Nat.le_of_ble_eq_true rfl) (Nat.le_of_ble_eq_true rfl) hc hs d_law_1245 (fun v3 h4 hq3 => ?_) (fun E h9 hq9 => by obtain ⟨_, _, _, _, z, _⟩ := hq9; cases z)
  obtain ⟨cd3, r3, V3, es3, e1, hM3⟩ := hq3; cases e1; cases es3
  show Wk _ _ _ _ _ _ _ _ _ _ _ _ _ _ _ _ _ _ _ (.int (V2 0 0) :: _)
  have iv2 := iv_m hcr hM3 ic.2.1 ic.2.2 (by rw [ho2]; exact Io) hou2 no hW2 hR2 he
  refine wk_run C k_law_1248 (pc2 := 1250) (lv2 := [(6, .int r), (5, .int (sp_who V (xs (6 * n + 1)) (xs (6 * n + 2))).1), (0, .ref b), (1, .ref x), (2, .ref y), (3, .ref ou), (4, .int (nI (6 * n)))]) (st2 := [.int (sp_who V (xs (6 * n + 1)) (xs (6 * n + 2))).1, .int (V2 0 0)]) rfl ?_
  refine wk_br C d_law_1250 (P := (V2 0 0) = ((sp_who V (xs (6 * n + 1)) (xs (6 * n + 2))).1)) (tgt := 1255) (rest := []) rfl (by decide) (fun c1 => ?_) (fun c1 => ?_)
  ·
    refine wk_run C k_law_1255 (pc2 := 1257) (lv2 := [(6, .int r), (5, .int (sp_who V (xs (6 * n + 1)) (xs (6 * n + 2))).1), (0, .ref b), (1, .ref x), (2, .ref y), (3, .ref ou), (4, .int (nI (6 * n)))]) (st2 := [.int (sp_who V (xs (6 * n + 1)) (xs (6 * n + 2))).1]) rfl ?_
    refine wk_br C d_law_1257 (P := ¬ ((sp_who V (xs (6 * n + 1)) (xs (6 * n + 2))).1) = 0) (tgt := 1272) (rest := []) rfl (by decide) (fun c2 => ?_) (fun c2 => ?_)
    ·
      refine wk_goto C d_law_1272 (tgt := 1471) (by decide) ?_
      refine Wk.sub (lv2 := [(0, .ref b), (1, .ref x), (2, .ref y), (3, .ref ou), (4, .int (nI (6 * n)))]) [2, 3, 4, 5, 6] rfl ?_
      exact K _ own2 _ iv2.1
    ·
      have hf3 := hf2 (Classical.not_not.mp c2)
      refine wk_run C k_law_1260 (pc2 := 1262) (lv2 := [(6, .int r), (5, .int (sp_who V (xs (6 * n + 1)) (xs (6 * n + 2))).1), (0, .ref b), (1, .ref x), (2, .ref y), (3, .ref ou), (4, .int (nI (6 * n)))]) (st2 := [.int 0, .ref ou]) rfl ?_
      refine wk_lald C iv2.2 (nI_in (c := 0) (by decide) (by decide)) d_law_1262 ?_
      show Wk _ _ _ _ _ _ _ _ _ _ _ _ _ _ _ _ _ _ _ (.long (f2 0) :: _)
      rw [hf3, er]
      refine wk_run C k_law_1263 (pc2 := 1266) (lv2 := [(6, .int r), (5, .int (sp_who V (xs (6 * n + 1)) (xs (6 * n + 2))).1), (0, .ref b), (1, .ref x), (2, .ref y), (3, .ref ou), (4, .int (nI (6 * n)))]) (st2 := [.long r.toInt64, .long r.toInt64]) rfl ?_
      refine wk_lcmp C d_law_1266 ?_
      refine wk_br C d_law_1267 (P := (lg_cmp r.toInt64 r.toInt64) = 0) (tgt := 1272) (rest := []) rfl (by decide) (fun c4 => ?_) (fun c4 => ?_)
      ·
        refine wk_goto C d_law_1272 (tgt := 1471) (by decide) ?_
        refine Wk.sub (lv2 := [(0, .ref b), (1, .ref x), (2, .ref y), (3, .ref ou), (4, .int (nI (6 * n)))]) [2, 3, 4, 5, 6] rfl ?_
        exact K _ own2 _ iv2.1
      ·
        exact absurd (lg_s _) c4
  ·
    exact absurd ecd c1
theorem k_law_1275 : px_dec code [.aload_n 1, .aload_n 0, .iload 4, .iconst 1, .iadd] 1275 = true := by decide +kernel
theorem d_law_1281 : decode code 1281 = .ok (.iaload, 1) := by decide +kernel
theorem k_law_1282 : px_dec code [.aload_n 0, .iload 4, .iconst 2, .iadd] 1282 = true := by decide +kernel
theorem d_law_1287 : decode code 1287 = .ok (.iaload, 1) := by decide +kernel
theorem k_law_1288 : px_dec code [.aload_n 3] 1288 = true := by decide +kernel
theorem d_law_1289 : decode code 1289 = .ok (.invokestatic 141, 3) := by decide +kernel
theorem k_law_1292 : px_dec code [.istore 5, .aload_n 2, .aload_n 0, .iload 4, .iconst 1, .iadd] 1292 = true := by decide +kernel
theorem d_law_1300 : decode code 1300 = .ok (.iaload, 1) := by decide +kernel
theorem k_law_1301 : px_dec code [.aload_n 0, .iload 4, .iconst 2, .iadd] 1301 = true := by decide +kernel
theorem d_law_1306 : decode code 1306 = .ok (.iaload, 1) := by decide +kernel
theorem d_law_1307 : decode code 1307 = .ok (.invokevirtual 143, 3) := by decide +kernel
theorem k_law_1310 : px_dec code [.istore 6, .aload_n 2] 1310 = true := by decide +kernel
theorem d_law_1313 : decode code 1313 = .ok (.invokevirtual 79, 3) := by decide +kernel
theorem k_law_1316 : px_dec code [.iload 5] 1316 = true := by decide +kernel
theorem d_law_1318 : decode code 1318 = .ok (.if_icmp .eq 5, 3) := by decide +kernel
theorem k_law_1323 : px_dec code [.iload 5] 1323 = true := by decide +kernel
theorem d_law_1325 : decode code 1325 = .ok (.ifCond .ne 22, 3) := by decide +kernel
theorem d_law_1347 : decode code 1347 = .ok (.goto 124, 3) := by decide +kernel
theorem k_law_1328 : px_dec code [.aload_n 3, .iconst 0] 1328 = true := by decide +kernel
theorem d_law_1330 : decode code 1330 = .ok (.laload, 1) := by decide +kernel
theorem k_law_1331 : px_dec code [.iload 6] 1331 = true := by decide +kernel
theorem d_law_1333 : decode code 1333 = .ok (.ifCond .eq 7, 3) := by decide +kernel
theorem k_law_1340 : px_dec code [.lconst 0] 1340 = true := by decide +kernel
theorem d_law_1341 : decode code 1341 = .ok (.lcmp, 1) := by decide +kernel
theorem d_law_1342 : decode code 1342 = .ok (.ifCond .eq 5, 3) := by decide +kernel
theorem k_law_1336 : px_dec code [.lconst 1] 1336 = true := by decide +kernel
theorem d_law_1337 : decode code 1337 = .ok (.goto 4, 3) := by decide +kernel
set_option maxRecDepth 100000 in
set_option maxHeartbeats 4000000 in
theorem lw_acts {p : Program} {l : Launch} {e : Env} {s : State} {m : MethodId} {args : Array Value} {below : List Frame} {meth : Method} {c : Code} {Q : State → Prop} {D : va_G} {HB : Heap} {hh : List (Nat × Nat × Nat × Nat)} (C : wk_C p s m args meth c code "ProfileRightsLaw" 7 ret hh D HB) (hlt : l.stackTraces = false) {b L : Nat} {xs : Nat → Int32} (hZ : va_T .int b L (fun j => .int (xs j)) (hp_A HB) s HB) {x y ou : Nat} {A : Nat → Nat} {n cells slots : Nat} {V : vT} {own : oT} {h : hp_T} (hn : n < 512) (hL : L ≤ 3072) (h6 : 6 * n + 6 ≤ L) (hc : cells + 8 ≤ 601024) (hs : slots + 200 ≤ 7293034) (I : iv D x y ou A n V own h) (K : ∀ (V2 : vT) (own2 : oT) (h2 : hp_T), iv D x y ou A (n + 1) V2 own2 h2 → Wk p l e room_1 s m args below meth c 7 D HB Q h2 (cells + 8) (slots + 200) 1471 [(0, .ref b), (1, .ref x), (2, .ref y), (3, .ref ou), (4, .int (nI (6 * n)))] []) : Wk p l e room_1 s m args below meth c 7 D HB Q h cells slots 1275 [(0, .ref b), (1, .ref x), (2, .ref y), (3, .ref ou), (4, .int (nI (6 * n)))] [] := by
  obtain ⟨IM, IC, IW, IR, Iy, IA, Io, f, hou⟩ := id I
  have no := mq_ou IM hou
  obtain ⟨gl, ul, pl, mo, aq, tr, hx0⟩ := cr_x IC
  refine wk_run C k_law_1275 (pc2 := 1281) (lv2 := [(0, .ref b), (1, .ref x), (2, .ref y), (3, .ref ou), (4, .int (nI (6 * n)))]) (st2 := [.int ((nI (6 * n)) + 1), .ref b, .ref x]) rfl ?_
  refine wk_tld C hZ (nI_in (c := 6 * n) (by omega) (by omega)) (show Value.int (xs (nI (6 * n)).toNatClampNeg) = .int (xs (6 * n)) by rw [nI_clamp (by omega)]) d_law_1281 ?_
  refine wk_run C k_law_1282 (pc2 := 1287) (lv2 := [(0, .ref b), (1, .ref x), (2, .ref y), (3, .ref ou), (4, .int (nI (6 * n)))]) (st2 := [.int ((nI (6 * n)) + 2), .ref b, .int (xs (6 * n)), .ref x]) rfl ?_
  refine wk_tld C hZ (nI_in (c := 6 * n) (by omega) (by omega)) (show Value.int (xs (nI (6 * n)).toNatClampNeg) = .int (xs (6 * n)) by rw [nI_clamp (by omega)]) d_law_1287 ?_
  refine wk_run C k_law_1288 (pc2 := 1289) (lv2 := [(0, .ref b), (1, .ref x), (2, .ref y), (3, .ref ou), (4, .int (nI (6 * n)))]) (st2 := [.ref ou, .int (xs (6 * n)), .int (xs (6 * n)), .ref x]) rfl ?_
  refine wk_callSW (rest := []) C (c_LW_acts l D HB h hlt own V x ou (xs (6 * n + 1)) (xs (6 * n + 2)) f IC IW hou Io) cs_LW_141 kc_LW_acts ki_LW rfl rfl (Nat.le_of_ble_eq_true rfl) (Nat.le_of_ble_eq_true rfl) (Nat.le_of_ble_eq_true rfl) hc hs d_law_1289 (fun v h2 hq => ?_) (fun E h2 hq => by obtain ⟨_, _, z, _⟩ := hq; cases z)
  obtain ⟨own2, f2, e1, hcr, hso, ho2, hou2, hf2⟩ := hq; cases e1
  show Wk _ _ _ _ _ _ _ _ _ _ _ _ _ _ _ _ _ _ _ (.int (sp_acts V (xs (6 * n + 1)) (xs (6 * n + 2))).1 :: _)
  have ic := iv_c I hso
  refine wk_run C k_law_1292 (pc2 := 1300) (lv2 := [(5, .int (sp_acts V (xs (6 * n + 1)) (xs (6 * n + 2))).1), (0, .ref b), (1, .ref x), (2, .ref y), (3, .ref ou), (4, .int (nI (6 * n)))]) (st2 := [.int ((nI (6 * n)) + 1), .ref b, .ref y]) rfl ?_
  refine wk_tld C hZ (nI_in (c := 6 * n) (by omega) (by omega)) (show Value.int (xs (nI (6 * n)).toNatClampNeg) = .int (xs (6 * n)) by rw [nI_clamp (by omega)]) d_law_1300 ?_
  refine wk_run C k_law_1301 (pc2 := 1306) (lv2 := [(5, .int (sp_acts V (xs (6 * n + 1)) (xs (6 * n + 2))).1), (0, .ref b), (1, .ref x), (2, .ref y), (3, .ref ou), (4, .int (nI (6 * n)))]) (st2 := [.int ((nI (6 * n)) + 2), .ref b, .int (xs (6 * n)), .ref y]) rfl ?_
  refine wk_tld C hZ (nI_in (c := 6 * n) (by omega) (by omega)) (show Value.int (xs (nI (6 * n)).toNatClampNeg) = .int (xs (6 * n)) by rw [nI_clamp (by omega)]) d_law_1306 ?_
  refine wk_callV (cl := ("ProfileRightsModel", T_MD, 27)) (rest := []) C (m_acts l D HB h2 h2 y A V (xs (6 * n + 1)) (xs (6 * n + 2)) IW ic.1) cs_LW_143 kc_MD_acts ki_MD ic.1.ob rfl rfl rfl (Nat.le_of_ble_eq_true rfl) (Nat.le_of_ble_eq_true rfl) (Nat.le_of_ble_eq_true rfl) hc hs d_law_1307 (fun v2 h3 hq2 => ?_) (fun E h9 hq9 => by obtain ⟨_, _, _, _, z, _⟩ := hq9; cases z)
  obtain ⟨cd, r, V2, es, e1, hM2⟩ := hq2; cases e1
  show Wk _ _ _ _ _ _ _ _ _ _ _ _ _ _ _ _ _ _ _ (.int r :: _)
  have hW2 : wf V2 := by have z : wf (sp_acts V (xs (6 * n + 1)) (xs (6 * n + 2))).2.2 := wf_acts IW; rw [es] at z; exact z
  have hR2 : ok_ (V2 25 0) (n + 1) := by have z := r25_acts (V := V) (xs (6 * n + 1)) (xs (6 * n + 2)) (by omega) IR; rw [es] at z; exact z
  have he : ∀ j, j ≠ 0 → j ≠ 26 → V2 j = (sp_acts V (xs (6 * n + 1)) (xs (6 * n + 2))).2.2 j := fun j _ h26 => by rw [es]
  have ecd : V2 0 0 = (sp_acts V (xs (6 * n + 1)) (xs (6 * n + 2))).1 := by have z := cd_acts V (xs (6 * n + 1)) (xs (6 * n + 2)); rw [es] at z ⊢; exact z
  have er : (sp_acts V (xs (6 * n + 1)) (xs (6 * n + 2))).2.1 = r := by rw [es]
  refine wk_run C k_law_1310 (pc2 := 1313) (lv2 := [(6, .int r), (5, .int (sp_acts V (xs (6 * n + 1)) (xs (6 * n + 2))).1), (0, .ref b), (1, .ref x), (2, .ref y), (3, .ref ou), (4, .int (nI (6 * n)))]) (st2 := [.ref y]) rfl ?_
  refine wk_callV (cl := ("ProfileRightsModel", T_MD, 27)) (rest := []) C (c_MD_thrown l D HB h3 h2 y A V2 hM2) cs_LW_79 kc_MD_thrown ki_MD hM2.ob rfl rfl rfl (Nat.le_of_ble_eq_true rfl) (Nat.le_of_ble_eq_true rfl) (Nat.le_of_ble_eq_true rfl) hc hs d_law_1313 (fun v3 h4 hq3 => ?_) (fun E h9 hq9 => by obtain ⟨_, _, _, _, z, _⟩ := hq9; cases z)
  obtain ⟨cd3, r3, V3, es3, e1, hM3⟩ := hq3; cases e1; cases es3
  show Wk _ _ _ _ _ _ _ _ _ _ _ _ _ _ _ _ _ _ _ (.int (V2 0 0) :: _)
  have iv2 := iv_m hcr hM3 ic.2.1 ic.2.2 (by rw [ho2]; exact Io) hou2 no hW2 hR2 he
  refine wk_run C k_law_1316 (pc2 := 1318) (lv2 := [(6, .int r), (5, .int (sp_acts V (xs (6 * n + 1)) (xs (6 * n + 2))).1), (0, .ref b), (1, .ref x), (2, .ref y), (3, .ref ou), (4, .int (nI (6 * n)))]) (st2 := [.int (sp_acts V (xs (6 * n + 1)) (xs (6 * n + 2))).1, .int (V2 0 0)]) rfl ?_
  refine wk_br C d_law_1318 (P := (V2 0 0) = ((sp_acts V (xs (6 * n + 1)) (xs (6 * n + 2))).1)) (tgt := 1323) (rest := []) rfl (by decide) (fun c1 => ?_) (fun c1 => ?_)
  ·
    refine wk_run C k_law_1323 (pc2 := 1325) (lv2 := [(6, .int r), (5, .int (sp_acts V (xs (6 * n + 1)) (xs (6 * n + 2))).1), (0, .ref b), (1, .ref x), (2, .ref y), (3, .ref ou), (4, .int (nI (6 * n)))]) (st2 := [.int (sp_acts V (xs (6 * n + 1)) (xs (6 * n + 2))).1]) rfl ?_
    refine wk_br C d_law_1325 (P := ¬ ((sp_acts V (xs (6 * n + 1)) (xs (6 * n + 2))).1) = 0) (tgt := 1347) (rest := []) rfl (by decide) (fun c2 => ?_) (fun c2 => ?_)
    ·
      refine wk_goto C d_law_1347 (tgt := 1471) (by decide) ?_
      refine Wk.sub (lv2 := [(0, .ref b), (1, .ref x), (2, .ref y), (3, .ref ou), (4, .int (nI (6 * n)))]) [2, 3, 4, 5, 6] rfl ?_
      exact K _ own2 _ iv2.1
    ·
      have hf3 := hf2 (Classical.not_not.mp c2)
      refine wk_run C k_law_1328 (pc2 := 1330) (lv2 := [(6, .int r), (5, .int (sp_acts V (xs (6 * n + 1)) (xs (6 * n + 2))).1), (0, .ref b), (1, .ref x), (2, .ref y), (3, .ref ou), (4, .int (nI (6 * n)))]) (st2 := [.int 0, .ref ou]) rfl ?_
      refine wk_lald C iv2.2 (nI_in (c := 0) (by decide) (by decide)) d_law_1330 ?_
      show Wk _ _ _ _ _ _ _ _ _ _ _ _ _ _ _ _ _ _ _ (.long (f2 0) :: _)
      rw [hf3, er]
      refine wk_run C k_law_1331 (pc2 := 1333) (lv2 := [(6, .int r), (5, .int (sp_acts V (xs (6 * n + 1)) (xs (6 * n + 2))).1), (0, .ref b), (1, .ref x), (2, .ref y), (3, .ref ou), (4, .int (nI (6 * n)))]) (st2 := [.int r, .long r.toInt64]) rfl ?_
      have h01 : r = 0 ∨ r = 1 := by rw [← er]; unfold sp_acts; (repeat' split) <;> (dsimp only; decide)
      refine wk_br C d_law_1333 (P := r = 0) (tgt := 1340) (rest := [.long r.toInt64]) rfl (by decide) (fun c5 => ?_) (fun c5 => ?_)
      ·
        refine wk_run C k_law_1340 (pc2 := 1341) (lv2 := [(6, .int r), (5, .int (sp_acts V (xs (6 * n + 1)) (xs (6 * n + 2))).1), (0, .ref b), (1, .ref x), (2, .ref y), (3, .ref ou), (4, .int (nI (6 * n)))]) (st2 := [.long 0, .long r.toInt64]) rfl ?_
        refine wk_lcmp C d_law_1341 ?_
        refine wk_br C d_law_1342 (P := (lg_cmp r.toInt64 0) = 0) (tgt := 1347) (rest := []) rfl (by decide) (fun c4 => ?_) (fun c4 => ?_)
        ·
          refine wk_goto C d_law_1347 (tgt := 1471) (by decide) ?_
          refine Wk.sub (lv2 := [(0, .ref b), (1, .ref x), (2, .ref y), (3, .ref ou), (4, .int (nI (6 * n)))]) [2, 3, 4, 5, 6] rfl ?_
          exact K _ own2 _ iv2.1
        ·
          exact absurd (by rcases h01 with y | y <;> rw [y] at c5 ⊢ <;> revert c5 <;> decide) c4
      ·
        refine wk_run C k_law_1336 (pc2 := 1337) (lv2 := [(6, .int r), (5, .int (sp_acts V (xs (6 * n + 1)) (xs (6 * n + 2))).1), (0, .ref b), (1, .ref x), (2, .ref y), (3, .ref ou), (4, .int (nI (6 * n)))]) (st2 := [.long 1, .long r.toInt64]) rfl ?_
        refine wk_goto C d_law_1337 (tgt := 1341) (by decide) ?_
        refine wk_lcmp C d_law_1341 ?_
        refine wk_br C d_law_1342 (P := (lg_cmp r.toInt64 1) = 0) (tgt := 1347) (rest := []) rfl (by decide) (fun c4 => ?_) (fun c4 => ?_)
        ·
          refine wk_goto C d_law_1347 (tgt := 1471) (by decide) ?_
          refine Wk.sub (lv2 := [(0, .ref b), (1, .ref x), (2, .ref y), (3, .ref ou), (4, .int (nI (6 * n)))]) [2, 3, 4, 5, 6] rfl ?_
          exact K _ own2 _ iv2.1
        ·
          exact absurd (by rcases h01 with y | y <;> rw [y] at c5 ⊢ <;> revert c5 <;> decide) c4
  ·
    exact absurd ecd c1
theorem k_law_1350 : px_dec code [.aload_n 1, .aload_n 0, .iload 4, .iconst 1, .iadd] 1350 = true := by decide +kernel
theorem d_law_1356 : decode code 1356 = .ok (.iaload, 1) := by decide +kernel
theorem k_law_1357 : px_dec code [.aload_n 0, .iload 4, .iconst 2, .iadd] 1357 = true := by decide +kernel
theorem d_law_1362 : decode code 1362 = .ok (.iaload, 1) := by decide +kernel
theorem k_law_1363 : px_dec code [.aload_n 0, .iload 4, .iconst 3, .iadd] 1363 = true := by decide +kernel
theorem d_law_1368 : decode code 1368 = .ok (.iaload, 1) := by decide +kernel
theorem d_law_1369 : decode code 1369 = .ok (.ifCond .eq 7, 3) := by decide +kernel
theorem k_law_1376 : px_dec code [.iconst 0, .aload_n 3] 1376 = true := by decide +kernel
theorem d_law_1378 : decode code 1378 = .ok (.invokestatic 144, 3) := by decide +kernel
theorem k_law_1381 : px_dec code [.istore 5, .aload_n 2, .aload_n 0, .iload 4, .iconst 1, .iadd] 1381 = true := by decide +kernel
theorem d_law_1389 : decode code 1389 = .ok (.iaload, 1) := by decide +kernel
theorem k_law_1390 : px_dec code [.aload_n 0, .iload 4, .iconst 2, .iadd] 1390 = true := by decide +kernel
theorem d_law_1395 : decode code 1395 = .ok (.iaload, 1) := by decide +kernel
theorem k_law_1396 : px_dec code [.aload_n 0, .iload 4, .iconst 3, .iadd] 1396 = true := by decide +kernel
theorem d_law_1401 : decode code 1401 = .ok (.iaload, 1) := by decide +kernel
theorem d_law_1402 : decode code 1402 = .ok (.ifCond .eq 7, 3) := by decide +kernel
theorem k_law_1409 : px_dec code [.iconst 0] 1409 = true := by decide +kernel
theorem d_law_1410 : decode code 1410 = .ok (.invokevirtual 147, 3) := by decide +kernel
theorem k_law_1413 : px_dec code [.istore 6, .aload_n 2] 1413 = true := by decide +kernel
theorem d_law_1416 : decode code 1416 = .ok (.invokevirtual 79, 3) := by decide +kernel
theorem k_law_1419 : px_dec code [.iload 5] 1419 = true := by decide +kernel
theorem d_law_1421 : decode code 1421 = .ok (.if_icmp .eq 5, 3) := by decide +kernel
theorem k_law_1426 : px_dec code [.iload 5] 1426 = true := by decide +kernel
theorem d_law_1428 : decode code 1428 = .ok (.ifCond .ne 15, 3) := by decide +kernel
theorem d_law_1443 : decode code 1443 = .ok (.goto 28, 3) := by decide +kernel
theorem k_law_1431 : px_dec code [.aload_n 3, .iconst 0] 1431 = true := by decide +kernel
theorem d_law_1433 : decode code 1433 = .ok (.laload, 1) := by decide +kernel
theorem k_law_1434 : px_dec code [.iload 6, .i2l] 1434 = true := by decide +kernel
theorem d_law_1437 : decode code 1437 = .ok (.lcmp, 1) := by decide +kernel
theorem d_law_1438 : decode code 1438 = .ok (.ifCond .eq 5, 3) := by decide +kernel
theorem k_law_1372 : px_dec code [.iconst 1] 1372 = true := by decide +kernel
theorem d_law_1373 : decode code 1373 = .ok (.goto 4, 3) := by decide +kernel
theorem k_law_1377 : px_dec code [.aload_n 3] 1377 = true := by decide +kernel
theorem k_law_1405 : px_dec code [.iconst 1] 1405 = true := by decide +kernel
theorem d_law_1406 : decode code 1406 = .ok (.goto 4, 3) := by decide +kernel
set_option maxRecDepth 100000 in
set_option maxHeartbeats 4000000 in
theorem lw_surrogate {p : Program} {l : Launch} {e : Env} {s : State} {m : MethodId} {args : Array Value} {below : List Frame} {meth : Method} {c : Code} {Q : State → Prop} {D : va_G} {HB : Heap} {hh : List (Nat × Nat × Nat × Nat)} (C : wk_C p s m args meth c code "ProfileRightsLaw" 7 ret hh D HB) (hlt : l.stackTraces = false) {b L : Nat} {xs : Nat → Int32} (hZ : va_T .int b L (fun j => .int (xs j)) (hp_A HB) s HB) {x y ou : Nat} {A : Nat → Nat} {n cells slots : Nat} {V : vT} {own : oT} {h : hp_T} (hn : n < 512) (hL : L ≤ 3072) (h6 : 6 * n + 6 ≤ L) (hc : cells + 8 ≤ 601024) (hs : slots + 200 ≤ 7293034) (I : iv D x y ou A n V own h) (K : ∀ (V2 : vT) (own2 : oT) (h2 : hp_T), iv D x y ou A (n + 1) V2 own2 h2 → Wk p l e room_1 s m args below meth c 7 D HB Q h2 (cells + 8) (slots + 200) 1471 [(0, .ref b), (1, .ref x), (2, .ref y), (3, .ref ou), (4, .int (nI (6 * n)))] []) : Wk p l e room_1 s m args below meth c 7 D HB Q h cells slots 1350 [(0, .ref b), (1, .ref x), (2, .ref y), (3, .ref ou), (4, .int (nI (6 * n)))] [] := by
  obtain ⟨IM, IC, IW, IR, Iy, IA, Io, f, hou⟩ := id I
  have no := mq_ou IM hou
  obtain ⟨gl, ul, pl, mo, aq, tr, hx0⟩ := cr_x IC
  rcases Classical.em (xs (6 * n + 3) = 0) with hz | hz
  ·
    refine wk_run C k_law_1350 (pc2 := 1356) (lv2 := [(0, .ref b), (1, .ref x), (2, .ref y), (3, .ref ou), (4, .int (nI (6 * n)))]) (st2 := [.int ((nI (6 * n)) + 1), .ref b, .ref x]) rfl ?_
    refine wk_tld C hZ (nI_in (c := 6 * n) (by omega) (by omega)) (show Value.int (xs (nI (6 * n)).toNatClampNeg) = .int (xs (6 * n)) by rw [nI_clamp (by omega)]) d_law_1356 ?_
    refine wk_run C k_law_1357 (pc2 := 1362) (lv2 := [(0, .ref b), (1, .ref x), (2, .ref y), (3, .ref ou), (4, .int (nI (6 * n)))]) (st2 := [.int ((nI (6 * n)) + 2), .ref b, .int (xs (6 * n)), .ref x]) rfl ?_
    refine wk_tld C hZ (nI_in (c := 6 * n) (by omega) (by omega)) (show Value.int (xs (nI (6 * n)).toNatClampNeg) = .int (xs (6 * n)) by rw [nI_clamp (by omega)]) d_law_1362 ?_
    refine wk_run C k_law_1363 (pc2 := 1368) (lv2 := [(0, .ref b), (1, .ref x), (2, .ref y), (3, .ref ou), (4, .int (nI (6 * n)))]) (st2 := [.int ((nI (6 * n)) + 3), .ref b, .int (xs (6 * n)), .int (xs (6 * n)), .ref x]) rfl ?_
    refine wk_tld C hZ (nI_in (c := 6 * n) (by omega) (by omega)) (show Value.int (xs (nI (6 * n)).toNatClampNeg) = .int (xs (6 * n)) by rw [nI_clamp (by omega)]) d_law_1368 ?_
    refine wk_br C d_law_1369 (P := (xs (6 * n)) = 0) (tgt := 1376) (rest := [.int (xs (6 * n)), .int (xs (6 * n)), .ref x]) rfl (by decide) (fun cb => ?_) (fun cb => ?_)
    rotate_left
    · exact absurd hz cb
    refine wk_run C k_law_1376 (pc2 := 1378) (lv2 := [(0, .ref b), (1, .ref x), (2, .ref y), (3, .ref ou), (4, .int (nI (6 * n)))]) (st2 := [.ref ou, .int 0, .int (xs (6 * n)), .int (xs (6 * n)), .ref x]) rfl ?_
    refine wk_callSW (rest := []) C (c_LW_surrogate l D HB h hlt own V x ou (xs (6 * n + 1)) (xs (6 * n + 2)) 0 f IC IW (Or.inl rfl) hou Io) cs_LW_144 kc_LW_surrogate ki_LW rfl rfl (Nat.le_of_ble_eq_true rfl) (Nat.le_of_ble_eq_true rfl) (Nat.le_of_ble_eq_true rfl) hc hs d_law_1378 (fun v h2 hq => ?_) (fun E h2 hq => by obtain ⟨_, _, z, _⟩ := hq; cases z)
    obtain ⟨own2, f2, e1, hcr, hso, ho2, hou2, hf2⟩ := hq; cases e1
    show Wk _ _ _ _ _ _ _ _ _ _ _ _ _ _ _ _ _ _ _ (.int (sp_surrogate V (xs (6 * n + 1)) (xs (6 * n + 2)) 0).1 :: _)
    have ic := iv_c I hso
    refine wk_run C k_law_1381 (pc2 := 1389) (lv2 := [(5, .int (sp_surrogate V (xs (6 * n + 1)) (xs (6 * n + 2)) 0).1), (0, .ref b), (1, .ref x), (2, .ref y), (3, .ref ou), (4, .int (nI (6 * n)))]) (st2 := [.int ((nI (6 * n)) + 1), .ref b, .ref y]) rfl ?_
    refine wk_tld C hZ (nI_in (c := 6 * n) (by omega) (by omega)) (show Value.int (xs (nI (6 * n)).toNatClampNeg) = .int (xs (6 * n)) by rw [nI_clamp (by omega)]) d_law_1389 ?_
    refine wk_run C k_law_1390 (pc2 := 1395) (lv2 := [(5, .int (sp_surrogate V (xs (6 * n + 1)) (xs (6 * n + 2)) 0).1), (0, .ref b), (1, .ref x), (2, .ref y), (3, .ref ou), (4, .int (nI (6 * n)))]) (st2 := [.int ((nI (6 * n)) + 2), .ref b, .int (xs (6 * n)), .ref y]) rfl ?_
    refine wk_tld C hZ (nI_in (c := 6 * n) (by omega) (by omega)) (show Value.int (xs (nI (6 * n)).toNatClampNeg) = .int (xs (6 * n)) by rw [nI_clamp (by omega)]) d_law_1395 ?_
    refine wk_run C k_law_1396 (pc2 := 1401) (lv2 := [(5, .int (sp_surrogate V (xs (6 * n + 1)) (xs (6 * n + 2)) 0).1), (0, .ref b), (1, .ref x), (2, .ref y), (3, .ref ou), (4, .int (nI (6 * n)))]) (st2 := [.int ((nI (6 * n)) + 3), .ref b, .int (xs (6 * n)), .int (xs (6 * n)), .ref y]) rfl ?_
    refine wk_tld C hZ (nI_in (c := 6 * n) (by omega) (by omega)) (show Value.int (xs (nI (6 * n)).toNatClampNeg) = .int (xs (6 * n)) by rw [nI_clamp (by omega)]) d_law_1401 ?_
    refine wk_br C d_law_1402 (P := (xs (6 * n)) = 0) (tgt := 1409) (rest := [.int (xs (6 * n)), .int (xs (6 * n)), .ref y]) rfl (by decide) (fun cb => ?_) (fun cb => ?_)
    rotate_left
    · exact absurd hz cb
    refine wk_run C k_law_1409 (pc2 := 1410) (lv2 := [(5, .int (sp_surrogate V (xs (6 * n + 1)) (xs (6 * n + 2)) 0).1), (0, .ref b), (1, .ref x), (2, .ref y), (3, .ref ou), (4, .int (nI (6 * n)))]) (st2 := [.int 0, .int (xs (6 * n)), .int (xs (6 * n)), .ref y]) rfl ?_
    refine wk_callV (cl := ("ProfileRightsModel", T_MD, 27)) (rest := []) C (m_surrogate l D HB h2 h2 y A V (xs (6 * n + 1)) (xs (6 * n + 2)) 0 IW (Or.inl rfl) ic.1) cs_LW_147 kc_MD_surrogate ki_MD ic.1.ob rfl rfl rfl (Nat.le_of_ble_eq_true rfl) (Nat.le_of_ble_eq_true rfl) (Nat.le_of_ble_eq_true rfl) hc hs d_law_1410 (fun v2 h3 hq2 => ?_) (fun E h9 hq9 => by obtain ⟨_, _, _, _, z, _⟩ := hq9; cases z)
    obtain ⟨cd, r, V2, es, e1, hM2⟩ := hq2; cases e1
    show Wk _ _ _ _ _ _ _ _ _ _ _ _ _ _ _ _ _ _ _ (.int r :: _)
    have hW2 : wf V2 := by have z : wf (sp_surrogate V (xs (6 * n + 1)) (xs (6 * n + 2)) 0).2.2 := wf_surrogate IW (Or.inl rfl); rw [es] at z; exact z
    have hR2 : ok_ (V2 25 0) (n + 1) := by have z := r25_surrogate (V := V) (xs (6 * n + 1)) (xs (6 * n + 2)) 0 (by omega) IR; rw [es] at z; exact z
    have he : ∀ j, j ≠ 0 → j ≠ 26 → V2 j = (sp_surrogate V (xs (6 * n + 1)) (xs (6 * n + 2)) 0).2.2 j := fun j _ h26 => by rw [es]
    have ecd : V2 0 0 = (sp_surrogate V (xs (6 * n + 1)) (xs (6 * n + 2)) 0).1 := by have z := cd_surrogate V (xs (6 * n + 1)) (xs (6 * n + 2)) 0; rw [es] at z ⊢; exact z
    have er : (sp_surrogate V (xs (6 * n + 1)) (xs (6 * n + 2)) 0).2.1 = r := by rw [es]
    refine wk_run C k_law_1413 (pc2 := 1416) (lv2 := [(6, .int r), (5, .int (sp_surrogate V (xs (6 * n + 1)) (xs (6 * n + 2)) 0).1), (0, .ref b), (1, .ref x), (2, .ref y), (3, .ref ou), (4, .int (nI (6 * n)))]) (st2 := [.ref y]) rfl ?_
    refine wk_callV (cl := ("ProfileRightsModel", T_MD, 27)) (rest := []) C (c_MD_thrown l D HB h3 h2 y A V2 hM2) cs_LW_79 kc_MD_thrown ki_MD hM2.ob rfl rfl rfl (Nat.le_of_ble_eq_true rfl) (Nat.le_of_ble_eq_true rfl) (Nat.le_of_ble_eq_true rfl) hc hs d_law_1416 (fun v3 h4 hq3 => ?_) (fun E h9 hq9 => by obtain ⟨_, _, _, _, z, _⟩ := hq9; cases z)
    obtain ⟨cd3, r3, V3, es3, e1, hM3⟩ := hq3; cases e1; cases es3
    show Wk _ _ _ _ _ _ _ _ _ _ _ _ _ _ _ _ _ _ _ (.int (V2 0 0) :: _)
    have iv2 := iv_m hcr hM3 ic.2.1 ic.2.2 (by rw [ho2]; exact Io) hou2 no hW2 hR2 he
    refine wk_run C k_law_1419 (pc2 := 1421) (lv2 := [(6, .int r), (5, .int (sp_surrogate V (xs (6 * n + 1)) (xs (6 * n + 2)) 0).1), (0, .ref b), (1, .ref x), (2, .ref y), (3, .ref ou), (4, .int (nI (6 * n)))]) (st2 := [.int (sp_surrogate V (xs (6 * n + 1)) (xs (6 * n + 2)) 0).1, .int (V2 0 0)]) rfl ?_
    refine wk_br C d_law_1421 (P := (V2 0 0) = ((sp_surrogate V (xs (6 * n + 1)) (xs (6 * n + 2)) 0).1)) (tgt := 1426) (rest := []) rfl (by decide) (fun c1 => ?_) (fun c1 => ?_)
    ·
      refine wk_run C k_law_1426 (pc2 := 1428) (lv2 := [(6, .int r), (5, .int (sp_surrogate V (xs (6 * n + 1)) (xs (6 * n + 2)) 0).1), (0, .ref b), (1, .ref x), (2, .ref y), (3, .ref ou), (4, .int (nI (6 * n)))]) (st2 := [.int (sp_surrogate V (xs (6 * n + 1)) (xs (6 * n + 2)) 0).1]) rfl ?_
      refine wk_br C d_law_1428 (P := ¬ ((sp_surrogate V (xs (6 * n + 1)) (xs (6 * n + 2)) 0).1) = 0) (tgt := 1443) (rest := []) rfl (by decide) (fun c2 => ?_) (fun c2 => ?_)
      ·
        refine wk_goto C d_law_1443 (tgt := 1471) (by decide) ?_
        refine Wk.sub (lv2 := [(0, .ref b), (1, .ref x), (2, .ref y), (3, .ref ou), (4, .int (nI (6 * n)))]) [2, 3, 4, 5, 6] rfl ?_
        exact K _ own2 _ iv2.1
      ·
        have hf3 := hf2 (Classical.not_not.mp c2)
        refine wk_run C k_law_1431 (pc2 := 1433) (lv2 := [(6, .int r), (5, .int (sp_surrogate V (xs (6 * n + 1)) (xs (6 * n + 2)) 0).1), (0, .ref b), (1, .ref x), (2, .ref y), (3, .ref ou), (4, .int (nI (6 * n)))]) (st2 := [.int 0, .ref ou]) rfl ?_
        refine wk_lald C iv2.2 (nI_in (c := 0) (by decide) (by decide)) d_law_1433 ?_
        show Wk _ _ _ _ _ _ _ _ _ _ _ _ _ _ _ _ _ _ _ (.long (f2 0) :: _)
        rw [hf3, er]
        refine wk_run C k_law_1434 (pc2 := 1437) (lv2 := [(6, .int r), (5, .int (sp_surrogate V (xs (6 * n + 1)) (xs (6 * n + 2)) 0).1), (0, .ref b), (1, .ref x), (2, .ref y), (3, .ref ou), (4, .int (nI (6 * n)))]) (st2 := [.long r.toInt64, .long r.toInt64]) rfl ?_
        refine wk_lcmp C d_law_1437 ?_
        refine wk_br C d_law_1438 (P := (lg_cmp r.toInt64 r.toInt64) = 0) (tgt := 1443) (rest := []) rfl (by decide) (fun c4 => ?_) (fun c4 => ?_)
        ·
          refine wk_goto C d_law_1443 (tgt := 1471) (by decide) ?_
          refine Wk.sub (lv2 := [(0, .ref b), (1, .ref x), (2, .ref y), (3, .ref ou), (4, .int (nI (6 * n)))]) [2, 3, 4, 5, 6] rfl ?_
          exact K _ own2 _ iv2.1
        ·
          exact absurd (lg_s _) c4
    ·
      exact absurd ecd c1
  ·
    refine wk_run C k_law_1350 (pc2 := 1356) (lv2 := [(0, .ref b), (1, .ref x), (2, .ref y), (3, .ref ou), (4, .int (nI (6 * n)))]) (st2 := [.int ((nI (6 * n)) + 1), .ref b, .ref x]) rfl ?_
    refine wk_tld C hZ (nI_in (c := 6 * n) (by omega) (by omega)) (show Value.int (xs (nI (6 * n)).toNatClampNeg) = .int (xs (6 * n)) by rw [nI_clamp (by omega)]) d_law_1356 ?_
    refine wk_run C k_law_1357 (pc2 := 1362) (lv2 := [(0, .ref b), (1, .ref x), (2, .ref y), (3, .ref ou), (4, .int (nI (6 * n)))]) (st2 := [.int ((nI (6 * n)) + 2), .ref b, .int (xs (6 * n)), .ref x]) rfl ?_
    refine wk_tld C hZ (nI_in (c := 6 * n) (by omega) (by omega)) (show Value.int (xs (nI (6 * n)).toNatClampNeg) = .int (xs (6 * n)) by rw [nI_clamp (by omega)]) d_law_1362 ?_
    refine wk_run C k_law_1363 (pc2 := 1368) (lv2 := [(0, .ref b), (1, .ref x), (2, .ref y), (3, .ref ou), (4, .int (nI (6 * n)))]) (st2 := [.int ((nI (6 * n)) + 3), .ref b, .int (xs (6 * n)), .int (xs (6 * n)), .ref x]) rfl ?_
    refine wk_tld C hZ (nI_in (c := 6 * n) (by omega) (by omega)) (show Value.int (xs (nI (6 * n)).toNatClampNeg) = .int (xs (6 * n)) by rw [nI_clamp (by omega)]) d_law_1368 ?_
    refine wk_br C d_law_1369 (P := (xs (6 * n)) = 0) (tgt := 1376) (rest := [.int (xs (6 * n)), .int (xs (6 * n)), .ref x]) rfl (by decide) (fun cb => ?_) (fun cb => ?_)
    · exact absurd cb hz
    refine wk_run C k_law_1372 (pc2 := 1373) (lv2 := [(0, .ref b), (1, .ref x), (2, .ref y), (3, .ref ou), (4, .int (nI (6 * n)))]) (st2 := [.int 1, .int (xs (6 * n)), .int (xs (6 * n)), .ref x]) rfl ?_
    refine wk_goto C d_law_1373 (tgt := 1377) (by decide) ?_
    refine wk_run C k_law_1377 (pc2 := 1378) (lv2 := [(0, .ref b), (1, .ref x), (2, .ref y), (3, .ref ou), (4, .int (nI (6 * n)))]) (st2 := [.ref ou, .int 1, .int (xs (6 * n)), .int (xs (6 * n)), .ref x]) rfl ?_
    refine wk_callSW (rest := []) C (c_LW_surrogate l D HB h hlt own V x ou (xs (6 * n + 1)) (xs (6 * n + 2)) 1 f IC IW (Or.inr rfl) hou Io) cs_LW_144 kc_LW_surrogate ki_LW rfl rfl (Nat.le_of_ble_eq_true rfl) (Nat.le_of_ble_eq_true rfl) (Nat.le_of_ble_eq_true rfl) hc hs d_law_1378 (fun v h2 hq => ?_) (fun E h2 hq => by obtain ⟨_, _, z, _⟩ := hq; cases z)
    obtain ⟨own2, f2, e1, hcr, hso, ho2, hou2, hf2⟩ := hq; cases e1
    show Wk _ _ _ _ _ _ _ _ _ _ _ _ _ _ _ _ _ _ _ (.int (sp_surrogate V (xs (6 * n + 1)) (xs (6 * n + 2)) 1).1 :: _)
    have ic := iv_c I hso
    refine wk_run C k_law_1381 (pc2 := 1389) (lv2 := [(5, .int (sp_surrogate V (xs (6 * n + 1)) (xs (6 * n + 2)) 1).1), (0, .ref b), (1, .ref x), (2, .ref y), (3, .ref ou), (4, .int (nI (6 * n)))]) (st2 := [.int ((nI (6 * n)) + 1), .ref b, .ref y]) rfl ?_
    refine wk_tld C hZ (nI_in (c := 6 * n) (by omega) (by omega)) (show Value.int (xs (nI (6 * n)).toNatClampNeg) = .int (xs (6 * n)) by rw [nI_clamp (by omega)]) d_law_1389 ?_
    refine wk_run C k_law_1390 (pc2 := 1395) (lv2 := [(5, .int (sp_surrogate V (xs (6 * n + 1)) (xs (6 * n + 2)) 1).1), (0, .ref b), (1, .ref x), (2, .ref y), (3, .ref ou), (4, .int (nI (6 * n)))]) (st2 := [.int ((nI (6 * n)) + 2), .ref b, .int (xs (6 * n)), .ref y]) rfl ?_
    refine wk_tld C hZ (nI_in (c := 6 * n) (by omega) (by omega)) (show Value.int (xs (nI (6 * n)).toNatClampNeg) = .int (xs (6 * n)) by rw [nI_clamp (by omega)]) d_law_1395 ?_
    refine wk_run C k_law_1396 (pc2 := 1401) (lv2 := [(5, .int (sp_surrogate V (xs (6 * n + 1)) (xs (6 * n + 2)) 1).1), (0, .ref b), (1, .ref x), (2, .ref y), (3, .ref ou), (4, .int (nI (6 * n)))]) (st2 := [.int ((nI (6 * n)) + 3), .ref b, .int (xs (6 * n)), .int (xs (6 * n)), .ref y]) rfl ?_
    refine wk_tld C hZ (nI_in (c := 6 * n) (by omega) (by omega)) (show Value.int (xs (nI (6 * n)).toNatClampNeg) = .int (xs (6 * n)) by rw [nI_clamp (by omega)]) d_law_1401 ?_
    refine wk_br C d_law_1402 (P := (xs (6 * n)) = 0) (tgt := 1409) (rest := [.int (xs (6 * n)), .int (xs (6 * n)), .ref y]) rfl (by decide) (fun cb => ?_) (fun cb => ?_)
    · exact absurd cb hz
    refine wk_run C k_law_1405 (pc2 := 1406) (lv2 := [(5, .int (sp_surrogate V (xs (6 * n + 1)) (xs (6 * n + 2)) 1).1), (0, .ref b), (1, .ref x), (2, .ref y), (3, .ref ou), (4, .int (nI (6 * n)))]) (st2 := [.int 1, .int (xs (6 * n)), .int (xs (6 * n)), .ref y]) rfl ?_
    refine wk_goto C d_law_1406 (tgt := 1410) (by decide) ?_
    refine wk_callV (cl := ("ProfileRightsModel", T_MD, 27)) (rest := []) C (m_surrogate l D HB h2 h2 y A V (xs (6 * n + 1)) (xs (6 * n + 2)) 1 IW (Or.inr rfl) ic.1) cs_LW_147 kc_MD_surrogate ki_MD ic.1.ob rfl rfl rfl (Nat.le_of_ble_eq_true rfl) (Nat.le_of_ble_eq_true rfl) (Nat.le_of_ble_eq_true rfl) hc hs d_law_1410 (fun v2 h3 hq2 => ?_) (fun E h9 hq9 => by obtain ⟨_, _, _, _, z, _⟩ := hq9; cases z)
    obtain ⟨cd, r, V2, es, e1, hM2⟩ := hq2; cases e1
    show Wk _ _ _ _ _ _ _ _ _ _ _ _ _ _ _ _ _ _ _ (.int r :: _)
    have hW2 : wf V2 := by have z : wf (sp_surrogate V (xs (6 * n + 1)) (xs (6 * n + 2)) 1).2.2 := wf_surrogate IW (Or.inr rfl); rw [es] at z; exact z
    have hR2 : ok_ (V2 25 0) (n + 1) := by have z := r25_surrogate (V := V) (xs (6 * n + 1)) (xs (6 * n + 2)) 1 (by omega) IR; rw [es] at z; exact z
    have he : ∀ j, j ≠ 0 → j ≠ 26 → V2 j = (sp_surrogate V (xs (6 * n + 1)) (xs (6 * n + 2)) 1).2.2 j := fun j _ h26 => by rw [es]
    have ecd : V2 0 0 = (sp_surrogate V (xs (6 * n + 1)) (xs (6 * n + 2)) 1).1 := by have z := cd_surrogate V (xs (6 * n + 1)) (xs (6 * n + 2)) 1; rw [es] at z ⊢; exact z
    have er : (sp_surrogate V (xs (6 * n + 1)) (xs (6 * n + 2)) 1).2.1 = r := by rw [es]
    refine wk_run C k_law_1413 (pc2 := 1416) (lv2 := [(6, .int r), (5, .int (sp_surrogate V (xs (6 * n + 1)) (xs (6 * n + 2)) 1).1), (0, .ref b), (1, .ref x), (2, .ref y), (3, .ref ou), (4, .int (nI (6 * n)))]) (st2 := [.ref y]) rfl ?_
    refine wk_callV (cl := ("ProfileRightsModel", T_MD, 27)) (rest := []) C (c_MD_thrown l D HB h3 h2 y A V2 hM2) cs_LW_79 kc_MD_thrown ki_MD hM2.ob rfl rfl rfl (Nat.le_of_ble_eq_true rfl) (Nat.le_of_ble_eq_true rfl) (Nat.le_of_ble_eq_true rfl) hc hs d_law_1416 (fun v3 h4 hq3 => ?_) (fun E h9 hq9 => by obtain ⟨_, _, _, _, z, _⟩ := hq9; cases z)
    obtain ⟨cd3, r3, V3, es3, e1, hM3⟩ := hq3; cases e1; cases es3
    show Wk _ _ _ _ _ _ _ _ _ _ _ _ _ _ _ _ _ _ _ (.int (V2 0 0) :: _)
    have iv2 := iv_m hcr hM3 ic.2.1 ic.2.2 (by rw [ho2]; exact Io) hou2 no hW2 hR2 he
    refine wk_run C k_law_1419 (pc2 := 1421) (lv2 := [(6, .int r), (5, .int (sp_surrogate V (xs (6 * n + 1)) (xs (6 * n + 2)) 1).1), (0, .ref b), (1, .ref x), (2, .ref y), (3, .ref ou), (4, .int (nI (6 * n)))]) (st2 := [.int (sp_surrogate V (xs (6 * n + 1)) (xs (6 * n + 2)) 1).1, .int (V2 0 0)]) rfl ?_
    refine wk_br C d_law_1421 (P := (V2 0 0) = ((sp_surrogate V (xs (6 * n + 1)) (xs (6 * n + 2)) 1).1)) (tgt := 1426) (rest := []) rfl (by decide) (fun c1 => ?_) (fun c1 => ?_)
    ·
      refine wk_run C k_law_1426 (pc2 := 1428) (lv2 := [(6, .int r), (5, .int (sp_surrogate V (xs (6 * n + 1)) (xs (6 * n + 2)) 1).1), (0, .ref b), (1, .ref x), (2, .ref y), (3, .ref ou), (4, .int (nI (6 * n)))]) (st2 := [.int (sp_surrogate V (xs (6 * n + 1)) (xs (6 * n + 2)) 1).1]) rfl ?_
      refine wk_br C d_law_1428 (P := ¬ ((sp_surrogate V (xs (6 * n + 1)) (xs (6 * n + 2)) 1).1) = 0) (tgt := 1443) (rest := []) rfl (by decide) (fun c2 => ?_) (fun c2 => ?_)
      ·
        refine wk_goto C d_law_1443 (tgt := 1471) (by decide) ?_
        refine Wk.sub (lv2 := [(0, .ref b), (1, .ref x), (2, .ref y), (3, .ref ou), (4, .int (nI (6 * n)))]) [2, 3, 4, 5, 6] rfl ?_
        exact K _ own2 _ iv2.1
      ·
        have hf3 := hf2 (Classical.not_not.mp c2)
        refine wk_run C k_law_1431 (pc2 := 1433) (lv2 := [(6, .int r), (5, .int (sp_surrogate V (xs (6 * n + 1)) (xs (6 * n + 2)) 1).1), (0, .ref b), (1, .ref x), (2, .ref y), (3, .ref ou), (4, .int (nI (6 * n)))]) (st2 := [.int 0, .ref ou]) rfl ?_
        refine wk_lald C iv2.2 (nI_in (c := 0) (by decide) (by decide)) d_law_1433 ?_
        show Wk _ _ _ _ _ _ _ _ _ _ _ _ _ _ _ _ _ _ _ (.long (f2 0) :: _)
        rw [hf3, er]
        refine wk_run C k_law_1434 (pc2 := 1437) (lv2 := [(6, .int r), (5, .int (sp_surrogate V (xs (6 * n + 1)) (xs (6 * n + 2)) 1).1), (0, .ref b), (1, .ref x), (2, .ref y), (3, .ref ou), (4, .int (nI (6 * n)))]) (st2 := [.long r.toInt64, .long r.toInt64]) rfl ?_
        refine wk_lcmp C d_law_1437 ?_
        refine wk_br C d_law_1438 (P := (lg_cmp r.toInt64 r.toInt64) = 0) (tgt := 1443) (rest := []) rfl (by decide) (fun c4 => ?_) (fun c4 => ?_)
        ·
          refine wk_goto C d_law_1443 (tgt := 1471) (by decide) ?_
          refine Wk.sub (lv2 := [(0, .ref b), (1, .ref x), (2, .ref y), (3, .ref ou), (4, .int (nI (6 * n)))]) [2, 3, 4, 5, 6] rfl ?_
          exact K _ own2 _ iv2.1
        ·
          exact absurd (lg_s _) c4
    ·
      exact absurd ecd c1
theorem k_law_1446 : px_dec code [.aload_n 1, .aload_n 0, .iload 4, .iconst 1, .iadd] 1446 = true := by decide +kernel
theorem d_law_1452 : decode code 1452 = .ok (.iaload, 1) := by decide +kernel
theorem d_law_1453 : decode code 1453 = .ok (.invokevirtual 148, 3) := by decide +kernel
theorem k_law_1456 : px_dec code [.aload_n 2, .aload_n 0, .iload 4, .iconst 1, .iadd] 1456 = true := by decide +kernel
theorem d_law_1462 : decode code 1462 = .ok (.iaload, 1) := by decide +kernel
theorem d_law_1463 : decode code 1463 = .ok (.invokevirtual 151, 3) := by decide +kernel
theorem d_law_1466 : decode code 1466 = .ok (.if_icmp .eq 5, 3) := by decide +kernel
set_option maxRecDepth 100000 in
set_option maxHeartbeats 4000000 in
theorem lw_count {p : Program} {l : Launch} {e : Env} {s : State} {m : MethodId} {args : Array Value} {below : List Frame} {meth : Method} {c : Code} {Q : State → Prop} {D : va_G} {HB : Heap} {hh : List (Nat × Nat × Nat × Nat)} (C : wk_C p s m args meth c code "ProfileRightsLaw" 7 ret hh D HB) (hlt : l.stackTraces = false) {b L : Nat} {xs : Nat → Int32} (hZ : va_T .int b L (fun j => .int (xs j)) (hp_A HB) s HB) {x y ou : Nat} {A : Nat → Nat} {n cells slots : Nat} {V : vT} {own : oT} {h : hp_T} (hn : n < 512) (hL : L ≤ 3072) (h6 : 6 * n + 6 ≤ L) (hc : cells + 8 ≤ 601024) (hs : slots + 200 ≤ 7293034) (I : iv D x y ou A n V own h) (K : ∀ (V2 : vT) (own2 : oT) (h2 : hp_T), iv D x y ou A (n + 1) V2 own2 h2 → Wk p l e room_1 s m args below meth c 7 D HB Q h2 (cells + 8) (slots + 200) 1471 [(0, .ref b), (1, .ref x), (2, .ref y), (3, .ref ou), (4, .int (nI (6 * n)))] []) : Wk p l e room_1 s m args below meth c 7 D HB Q h cells slots 1446 [(0, .ref b), (1, .ref x), (2, .ref y), (3, .ref ou), (4, .int (nI (6 * n)))] [] := by
  obtain ⟨IM, IC, IW, IR, Iy, IA, Io, f, hou⟩ := id I
  have no := mq_ou IM hou
  obtain ⟨gl, ul, pl, mo, aq, tr, hx0⟩ := cr_x IC
  refine wk_run C k_law_1446 (pc2 := 1452) (lv2 := [(0, .ref b), (1, .ref x), (2, .ref y), (3, .ref ou), (4, .int (nI (6 * n)))]) (st2 := [.int ((nI (6 * n)) + 1), .ref b, .ref x]) rfl ?_
  refine wk_tld C hZ (nI_in (c := 6 * n) (by omega) (by omega)) (show Value.int (xs (nI (6 * n)).toNatClampNeg) = .int (xs (6 * n)) by rw [nI_clamp (by omega)]) d_law_1452 ?_
  refine wk_callV (cl := ("ProfileRights", T_PR, 7)) (rest := []) C (o_count l D HB h hlt own V x (xs (6 * n + 1)) IC IW) cs_LW_148 kc_PR_count ki_PR hx0 rfl rfl rfl (Nat.le_of_ble_eq_true rfl) (Nat.le_of_ble_eq_true rfl) (Nat.le_of_ble_eq_true rfl) hc hs d_law_1453 (fun v h2 hq => ?_) (fun E h2 hq => by obtain ⟨e1, _⟩ := wq_d hq (n0_count V (xs (6 * n + 1))) hou Io; cases e1)
  obtain ⟨e1, own2, hcr, hso, ho2, hou2⟩ := wq_d hq (n0_count V (xs (6 * n + 1))) hou Io
  have hv := Sum.inl.inj e1; subst hv
  show Wk _ _ _ _ _ _ _ _ _ _ _ _ _ _ _ _ _ _ _ (.int (sp_count V (xs (6 * n + 1))).2.1 :: _)
  have ic := iv_c I hso
  refine wk_run C k_law_1456 (pc2 := 1462) (lv2 := [(0, .ref b), (1, .ref x), (2, .ref y), (3, .ref ou), (4, .int (nI (6 * n)))]) (st2 := [.int ((nI (6 * n)) + 1), .ref b, .ref y, .int (sp_count V (xs (6 * n + 1))).2.1]) rfl ?_
  refine wk_tld C hZ (nI_in (c := 6 * n) (by omega) (by omega)) (show Value.int (xs (nI (6 * n)).toNatClampNeg) = .int (xs (6 * n)) by rw [nI_clamp (by omega)]) d_law_1462 ?_
  refine wk_callV (cl := ("ProfileRightsModel", T_MD, 27)) (rest := [.int (sp_count V (xs (6 * n + 1))).2.1]) C (m_count l D HB h2 h2 y A V (xs (6 * n + 1)) IW ic.1) cs_LW_151 kc_MD_count ki_MD ic.1.ob rfl rfl rfl (Nat.le_of_ble_eq_true rfl) (Nat.le_of_ble_eq_true rfl) (Nat.le_of_ble_eq_true rfl) hc hs d_law_1463 (fun v2 h3 hq2 => ?_) (fun E h9 hq9 => by obtain ⟨_, _, _, _, z, _⟩ := hq9; cases z)
  obtain ⟨cd, r, V2, es, e1, hM2⟩ := hq2; cases e1
  show Wk _ _ _ _ _ _ _ _ _ _ _ _ _ _ _ _ _ _ _ (.int r :: _)
  have hW2 : wf V2 := by have z : wf (sp_count V (xs (6 * n + 1))).2.2 := wf_0 IW 0; rw [es] at z; exact z
  have hR2 : ok_ (V2 25 0) (n + 1) := by have z := r25_count (V := V) (xs (6 * n + 1)) (by omega) IR; rw [es] at z; exact z
  have he : ∀ j, j ≠ 0 → j ≠ 26 → V2 j = (sp_count V (xs (6 * n + 1))).2.2 j := fun j _ h26 => by rw [es]
  have iv2 := iv_m hcr hM2 ic.2.1 ic.2.2 (by rw [ho2]; exact Io) hou2 no hW2 hR2 he
  refine wk_br C d_law_1466 (P := ((sp_count V (xs (6 * n + 1))).2.1) = r) (tgt := 1471) (rest := []) rfl (by decide) (fun c1 => ?_) (fun c1 => ?_)
  ·
    refine Wk.sub (lv2 := [(0, .ref b), (1, .ref x), (2, .ref y), (3, .ref ou), (4, .int (nI (6 * n)))]) [0, 1, 2, 3, 4] rfl ?_
    exact K _ own2 _ iv2.1
  ·
    exact absurd (by rw [es]) c1
