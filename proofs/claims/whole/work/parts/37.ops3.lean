theorem sx_f {T : Nat × Nat → Prop} {h h2 : hp_T} {own : oT} {a b : Nat} (k : al_fr h h2 a b) (ha : T (own a)) (hb : T (own b)) : sx_ T h own h2 own := fun q x hx hq => ⟨k q x (fun z => hq (by rw [z]; exact ha)) (fun z => hq (by rw [z]; exact hb)) hx, rfl⟩
theorem sx_st0 {L : List Nat} {h h2 : hp_T} {own own2 : oT} (s : sx_ (fun t => t.1 ∈ L) h own h2 own2) : st_ L h own h2 own2 := s
theorem cN_0 {D : va_G} {h : hp_T} {own : oT} {t i a c n : Nat} {f g : Nat → Int32} (k : nm_ok D h a c n f) (h1 : own a = (t, i)) (h2 : own c = (t + 100, i)) : cN D (hp_up h a (.inr (3, [.ref c, .int 0, .int 0, .int 0]))) own t i a 0 g := by
  have ne : c ≠ a := fun z => by
    rw [z, h1] at h2
    have := congrArg Prod.fst h2
    simp at this
  obtain ⟨k1, ⟨g0, k2, k3⟩, k4⟩ := k
  exact ⟨c, ⟨by rw [hp_us]; rfl, ⟨g0, by rw [hp_un ne]; exact k2, fun j hj => absurd hj (Nat.not_lt_zero j)⟩, Nat.zero_le _⟩, h1, h2⟩
theorem n20 {x : Int32} (h : ok_ x 19) : ¬ (20 : Int32) ≤ x := by
  have h2 := h.2
  rw [Int32.le_iff_toInt_le, ok_int h (by decide)]
  have e : (20 : Int32).toInt = 20 := by decide
  rw [e]; omega
theorem l20 {x : Int32} (h : ok_ x 20) (h2 : ¬ x < 20) : x = 20 := by
  rcases Classical.em (x = 20) with z | z
  · exact z
  · have k := ok_ne h z
    have h3 := k.2
    rw [Int32.lt_iff_toInt_lt, ok_int k (by decide)] at h2
    have e : (20 : Int32).toInt = 20 := by decide
    rw [e] at h2; omega
theorem nf_up (V : vT) (k n : Nat) (c : Int32) (V2 : vT) (h : V2 12 = upd (V 12) (20 * k + n) c) : nf_ V2 k = upd (nf_ V k) n c := by
  funext j
  show V2 12 (20 * k + j) = if j = n then c else V 12 (20 * k + j)
  rw [h]
  show (if 20 * k + j = 20 * k + n then c else V 12 (20 * k + j)) = _
  by_cases z : j = n
  · rw [if_pos z, if_pos (by omega)]
  · rw [if_neg z, if_neg (by omega)]
/-- one entry of profile k changes -/
theorem cE_u {h : hp_T} {own : oT} {k n i : Nat} {eA : Nat → Nat} {V : vT} (k1 : cE h own k n eA V) (hi : i < n) (V2 : vT) {e : va_E} (he : e = .inr (4, [.int (V2 17 (10 * k + i)), .int (V2 18 (10 * k + i)), .int (V2 19 (10 * k + i)), .int (V2 20 (10 * k + i))])) (ho : ∀ j, j ≠ i → V2 17 (10 * k + j) = V 17 (10 * k + j) ∧ V2 18 (10 * k + j) = V 18 (10 * k + j) ∧ V2 19 (10 * k + j) = V 19 (10 * k + j) ∧ V2 20 (10 * k + j) = V 20 (10 * k + j)) : cE (hp_up h (eA i) e) own k n eA V2 := by
  obtain ⟨e1, e2, e3⟩ := k1
  refine ⟨fun j hj => ?_, e2, e3⟩
  by_cases z : j = i
  · subst z; rw [hp_us, he]
  · obtain ⟨a1, a2, a3, a4⟩ := ho j z
    rw [hp_un (fun y => z (e3 j i hj hi y))]
    have h := e1 j hj
    simp only [a1, a2, a3, a4]
    exact h
/-! bits of a long -/
def bl (x : Int64) (k : Nat) : Bool := x.toBitVec.getLsbD k
theorem bl_and (x y : Int64) (k : Nat) : bl (x &&& y) k = (bl x k && bl y k) := by unfold bl; rw [Int64.toBitVec_and, BitVec.getLsbD_and]
theorem bl_xor (x y : Int64) (k : Nat) : bl (x ^^^ y) k = (bl x k ^^ bl y k) := by unfold bl; rw [Int64.toBitVec_xor, BitVec.getLsbD_xor]
theorem bl_1 : ∀ k, k < 64 → bl 1 k = decide (k = 0) := by decide +kernel
theorem bl_z (y : Int64) : y &&& 1 = 0 ↔ ¬ bl y 0 = true := by
  constructor
  · intro h z
    have : bl (y &&& 1) 0 = true := by rw [bl_and, z]; decide
    rw [h] at this; exact absurd this (by decide)
  · intro h
    refine Int64.toBitVec_inj.mp (BitVec.eq_of_getLsbD_eq (fun i hi => ?_))
    show bl (y &&& 1) i = bl 0 i
    rw [bl_and, bl_1 i hi, show bl 0 i = false from by unfold bl; exact BitVec.getLsbD_zero]
    by_cases z : i = 0
    · subst z; simp only [Bool.not_eq_true] at h; rw [h]; rfl
    · simp [z]
theorem sl_n : ∀ n, n ≤ 40 → (((nI n).toInt64 &&& 63).toBitVec.smod 64).toNat = n := by decide +kernel
theorem bl_r (x : Int64) {n : Nat} (hn : n ≤ 40) : bl (x >>> ((nI n).toInt64 &&& 63)) 0 = bl x n := by
  unfold bl
  rw [Int64.toBitVec_shiftRight, BitVec.sshiftRight_eq', sl_n n hn, BitVec.getLsbD_sshiftRight]
  simp; omega
theorem bl_1s : ∀ i, i ≤ 40 → ∀ k, k ≤ 40 → bl ((1 : Int64) <<< ((nI i).toInt64 &&& 63)) k = decide (k = i) := by decide +kernel
theorem bl_t (x : Int64) {i k : Nat} (hi : i ≤ 40) (hk : k ≤ 40) : ((x ^^^ ((1 : Int64) <<< ((nI i).toInt64 &&& 63))) >>> ((nI k).toInt64 &&& 63)) &&& 1 = 0 ↔ (if k = i then ¬ ((x >>> ((nI k).toInt64 &&& 63)) &&& 1 = 0) else (x >>> ((nI k).toInt64 &&& 63)) &&& 1 = 0) := by
  rw [bl_z, bl_z, bl_r _ hk, bl_r _ hk, bl_xor, bl_1s i hi k hk]
  by_cases z : k = i
  · simp [z]
  · simp [z]
theorem bl_0 (k : Nat) (hk : k ≤ 40) : ((0 : Int64) >>> ((nI k).toInt64 &&& 63)) &&& 1 = 0 := by
  rw [bl_z, bl_r _ hk]; unfold bl; simp
theorem k_PR_ask_0 : px_dec prog_1_method_14_code [.iload_n 1] 0 = true := by decide +kernel
theorem d_PR_ask_1 : decode prog_1_method_14_code 1 = .ok (.invokestatic 124, 3) := by decide +kernel
theorem d_PR_ask_4 : decode prog_1_method_14_code 4 = .ok (.ifCond .eq 14, 3) := by decide +kernel
theorem k_PR_ask_18 : px_dec prog_1_method_14_code [.aload_n 0] 18 = true := by decide +kernel
theorem d_PR_ask_19 : decode prog_1_method_14_code 19 = .ok (.getfield 29, 3) := by decide +kernel
theorem d_PR_ask_22 : decode prog_1_method_14_code 22 = .ok (.invokevirtual 180, 3) := by decide +kernel
theorem k_PR_ask_25 : px_dec prog_1_method_14_code [.aload_n 0] 25 = true := by decide +kernel
theorem d_PR_ask_26 : decode prog_1_method_14_code 26 = .ok (.getfield 29, 3) := by decide +kernel
theorem d_PR_ask_29 : decode prog_1_method_14_code 29 = .ok (.getfield 139, 3) := by decide +kernel
theorem d_PR_ask_32 : decode prog_1_method_14_code 32 = .ok (.ireturn, 1) := by decide +kernel
theorem k_PR_ask_7 : px_dec prog_1_method_14_code [.aload_n 0] 7 = true := by decide +kernel
theorem d_PR_ask_8 : decode prog_1_method_14_code 8 = .ok (.getfield 29, 3) := by decide +kernel
theorem k_PR_ask_11 : px_dec prog_1_method_14_code [.iload_n 1] 11 = true := by decide +kernel
theorem d_PR_ask_12 : decode prog_1_method_14_code 12 = .ok (.invokevirtual 136, 3) := by decide +kernel
theorem d_PR_ask_15 : decode prog_1_method_14_code 15 = .ok (.goto 10, 3) := by decide +kernel
set_option maxRecDepth 100000 in
set_option maxHeartbeats 4000000 in
theorem o_ask (l : Launch) (D : va_G) (HB : Heap) (h : hp_T) (hlt : l.stackTraces = false) (own : oT) (V : vT) (x : Nat) (c : Int32) (hX : cr D h own x V) (hW : wf V) : ct_M l y_PR_ask (.code y_PR_ask prog_1_method_14_code 2 (Option.some Jvm.ClassFile.FieldType.int)) ({ frames := 9, cells := 8, slots := 200, locals := 320 }) D HB [.ref x, .int c] h (fun o h2 => an2 D h own x (sp_ask V c) o h2) := by
  refine ct_of (by decide) (Nat.le_of_ble_eq_true rfl) rfl ?_
  intro p_ e_ s_ m_ r_ b_ t_ c_ C hnm
  obtain ⟨gl, ul, pl, mo, aq, tr, gA, uA, pA, pn, pe, eB, sf, hO, hGL, hUL, hPL, hM, hN, hT, hG, hU, hB, hP⟩ := id hX
  obtain ⟨h7, h8, h9, h22, w1, w2, w21, w5, w6, w10, w13, w16, w4, wz, wy, wc⟩ := id hW
  obtain ⟨cc, hn0, on1, on2⟩ := id hN
  refine wk_run C k_PR_ask_0 (pc2 := 1) (lv2 := [(0, .ref x), (1, .int c)]) (st2 := [.int c]) rfl ?_
  refine wk_callS (rest := []) C (c_PR_isCharacter l D HB h c) cs_PR_124 kc_PR_isCharacter ki_PR rfl rfl (Nat.le_of_ble_eq_true rfl) (Nat.le_of_ble_eq_true rfl) (Nat.le_of_ble_eq_true rfl) (Nat.le_of_ble_eq_true rfl) (Nat.le_of_ble_eq_true rfl) d_PR_ask_1 (fun v h2 hq => ?_) (fun _ _ z => nomatch z.1)
  obtain ⟨e1, e2⟩ := hq; cases e1; replace e2 := e2.symm; subst e2
  rcases (Classical.em (¬ c < 33 ∧ ¬ 126 < c)).symm with hc | hc
  ·
    rw [if_neg hc]
    refine wk_br C d_PR_ask_4 (P := 0 = 0) (tgt := 18) (rest := []) rfl (by decide) (fun c1 => ?_) (fun c1 => ?_)
    ·
      refine wk_run C k_PR_ask_18 (pc2 := 19) (lv2 := [(0, .ref x), (1, .int c)]) (st2 := [.ref x]) rfl ?_
      refine wk_get C fd_PR_29 hO.1 rfl d_PR_ask_19 ?_
      refine wk_callV (cl := ("ProfileRights$Name", T_NM, 4)) (rest := []) C (c_NM_clear l D HB h aq cc _ _ _ hn0.1) cs_PR_180 kc_NM_clear ki_NM hn0.1 rfl rfl rfl (Nat.le_of_ble_eq_true rfl) (Nat.le_of_ble_eq_true rfl) (Nat.le_of_ble_eq_true rfl) (Nat.le_of_ble_eq_true rfl) (Nat.le_of_ble_eq_true rfl) d_PR_ask_22 (fun v h2 hq => ?_) (fun _ _ z => nomatch z.1)
      obtain ⟨e1, e2⟩ := hq; cases e1; replace e2 := e2.symm; subst e2
      have s : st_ [5] h own (hp_up h aq (.inr (3, [.ref cc, .int 0, .int 0, .int 0]))) own := st_u (t := 5) (by rw [on1]) (by decide)
      have hO2 := cO_m hO s (by decide)
      refine wk_run C k_PR_ask_25 (pc2 := 26) (lv2 := [(0, .ref x), (1, .int c)]) (st2 := [.ref x]) rfl ?_
      refine wk_get C fd_PR_29 hO2.1 rfl d_PR_ask_26 ?_
      refine wk_get C fd_PR_139 hp_us rfl d_PR_ask_29 ?_
      have hr : sp_ask V c = (0, 0, vc (vc V 0 0) 22 0) := by clear C hX; grind [sp_ask]
      exact wk_iret C (an_o (V2 := vc (vc V 0 0) 22 0) ⟨gl, ul, pl, mo, aq, tr, gA, uA, pA, pn, pe, eB, sf, cO_m hO s (by decide), cL_m hGL s (by decide) (by decide), cL_m hUL s (by decide) (by decide), cL_m hPL s (by decide) (by decide), cM_m hM s (by decide), cN_0 hn0 on1 on2, cT_m hT s (by decide) (by decide), cG_m hG s (by decide), cU_m hU s (by decide), hB, cP_m hP s (by decide) (by decide) (by decide) (by decide) (by decide) (by decide)⟩ (st_so s (by decide)) hr) (by decide) (by decide) d_PR_ask_32
    ·
      exact absurd rfl c1
  ·
    rw [if_pos hc]
    refine wk_br C d_PR_ask_4 (P := 1 = 0) (tgt := 18) (rest := []) rfl (by decide) (fun c1 => ?_) (fun c1 => ?_)
    ·
      exact absurd c1 (by decide)
    ·
      refine wk_run C k_PR_ask_7 (pc2 := 8) (lv2 := [(0, .ref x), (1, .int c)]) (st2 := [.ref x]) rfl ?_
      refine wk_get C fd_PR_29 hO.1 rfl d_PR_ask_8 ?_
      refine wk_run C k_PR_ask_11 (pc2 := 12) (lv2 := [(0, .ref x), (1, .int c)]) (st2 := [.int c, .ref aq]) rfl ?_
      refine wk_callV (cl := ("ProfileRights$Name", T_NM, 4)) (rest := []) C (c_NM_append l D HB h aq cc (nu (V 22 0)) (V 21) c hn0) cs_PR_136 kc_NM_append ki_NM hn0.1 rfl rfl rfl (Nat.le_of_ble_eq_true rfl) (Nat.le_of_ble_eq_true rfl) (Nat.le_of_ble_eq_true rfl) (Nat.le_of_ble_eq_true rfl) (Nat.le_of_ble_eq_true rfl) d_PR_ask_12 (fun v h2 hq => ?_) (fun _ _ z => nomatch z.1)
      obtain ⟨e1, a1, a2, a3⟩ := hq; cases e1
      refine wk_goto C d_PR_ask_15 (tgt := 25) (by decide) ?_
      refine wk_run C k_PR_ask_25 (pc2 := 26) (lv2 := [(0, .ref x), (1, .int c)]) (st2 := [.ref x]) rfl ?_
      have s : st_ [5, 105] h own h2 own := sx_f (T := fun t => t.1 ∈ [5, 105]) a3 (by rw [on1]; decide) (by rw [on2]; decide)
      have hO2 := cO_m hO s (by decide)
      refine wk_get C fd_PR_29 hO2.1 rfl d_PR_ask_26 ?_
      rcases (Classical.em (V 22 0 < 20)).symm with hf | hf
      ·
        have e20 := l20 h22 hf
        have e2 : h2 = h := a2 (by rw [e20]; decide)
        rw [e2]
        refine wk_get C fd_PR_139 hn0.1 rfl d_PR_ask_29 ?_
        rw [← h22.1]
        exact wk_iret C (an_q hX (by clear C hX; grind [sp_ask])) (by decide) (by decide) d_PR_ask_32
      ·
        have k19 := ok_lt h22 hf
        have hn2 := a1 (by have := k19.2; omega)
        refine wk_get C fd_PR_139 hn2.1 rfl d_PR_ask_29 ?_
        have kp := ok_p h22 (fun z => by rw [z] at hf; exact absurd hf (by decide)) (by decide)
        have e3 : nI (nu (V 22 0) + 1) = V 22 0 + 1 := by rw [← kp.2]; exact kp.1.1.symm
        rw [e3]
        have hr : sp_ask V c = (0, V 22 0 + 1, vc (vs (vc V 0 0) 21 (upd (V 21) (nu (V 22 0)) c)) 22 (V 22 0 + 1)) := by clear C hX; grind [sp_ask]
        have hN2 : cN D h2 own 5 0 aq (nu ((vc (vs (vc V 0 0) 21 (upd (V 21) (nu (V 22 0)) c)) 22 (V 22 0 + 1)) 22 0)) ((vc (vs (vc V 0 0) 21 (upd (V 21) (nu (V 22 0)) c)) 22 (V 22 0 + 1)) 21) := by rw [show nu ((vc (vs (vc V 0 0) 21 (upd (V 21) (nu (V 22 0)) c)) 22 (V 22 0 + 1)) 22 0) = nu (V 22 0) + 1 from kp.2]; exact ⟨cc, hn2, on1, on2⟩
        exact wk_iret C (an_o (V2 := vc (vs (vc V 0 0) 21 (upd (V 21) (nu (V 22 0)) c)) 22 (V 22 0 + 1)) ⟨gl, ul, pl, mo, aq, tr, gA, uA, pA, pn, pe, eB, sf, cO_m hO s (by decide), cL_m hGL s (by decide) (by decide), cL_m hUL s (by decide) (by decide), cL_m hPL s (by decide) (by decide), cM_m hM s (by decide), hN2, cT_m hT s (by decide) (by decide), cG_m hG s (by decide), cU_m hU s (by decide), hB, cP_m hP s (by decide) (by decide) (by decide) (by decide) (by decide) (by decide)⟩ (st_so s (by decide)) hr) (by decide) (by decide) d_PR_ask_32
theorem k_PR_name_0 : px_dec prog_1_method_10_code [.aload_n 0, .iload_n 1] 0 = true := by decide +kernel
theorem d_PR_name_2 : decode prog_1_method_10_code 2 = .ok (.invokevirtual 117, 3) := by decide +kernel
theorem d_PR_name_5 : decode prog_1_method_10_code 5 = .ok (.getfield 121, 3) := by decide +kernel
theorem k_PR_name_8 : px_dec prog_1_method_10_code [.astore_n 3, .iload_n 2] 8 = true := by decide +kernel
theorem d_PR_name_10 : decode prog_1_method_10_code 10 = .ok (.invokestatic 124, 3) := by decide +kernel
theorem d_PR_name_13 : decode prog_1_method_10_code 13 = .ok (.ifCond .ne 13, 3) := by decide +kernel
theorem d_PR_name_16 : decode prog_1_method_10_code 16 = .ok (.new 105, 3) := by decide +kernel
theorem d_PR_name_19 : decode prog_1_method_10_code 19 = .ok (.dup, 1) := by decide +kernel
theorem d_PR_name_20 : decode prog_1_method_10_code 20 = .ok (.ldc 128, 2) := by decide +kernel
theorem d_PR_name_22 : decode prog_1_method_10_code 22 = .ok (.invokespecial 109, 3) := by decide +kernel
theorem d_PR_name_25 : decode prog_1_method_10_code 25 = .ok (.athrow, 1) := by decide +kernel
theorem k_PR_name_26 : px_dec prog_1_method_10_code [.aload_n 3] 26 = true := by decide +kernel
theorem d_PR_name_27 : decode prog_1_method_10_code 27 = .ok (.invokevirtual 130, 3) := by decide +kernel
theorem d_PR_name_30 : decode prog_1_method_10_code 30 = .ok (.ifCond .eq 13, 3) := by decide +kernel
theorem k_PR_name_43 : px_dec prog_1_method_10_code [.aload_n 3, .iload_n 2] 43 = true := by decide +kernel
theorem d_PR_name_45 : decode prog_1_method_10_code 45 = .ok (.invokevirtual 136, 3) := by decide +kernel
theorem k_PR_name_48 : px_dec prog_1_method_10_code [.aload_n 3] 48 = true := by decide +kernel
theorem d_PR_name_49 : decode prog_1_method_10_code 49 = .ok (.getfield 139, 3) := by decide +kernel
theorem d_PR_name_52 : decode prog_1_method_10_code 52 = .ok (.ireturn, 1) := by decide +kernel
theorem d_PR_name_33 : decode prog_1_method_10_code 33 = .ok (.new 52, 3) := by decide +kernel
theorem d_PR_name_36 : decode prog_1_method_10_code 36 = .ok (.dup, 1) := by decide +kernel
theorem d_PR_name_37 : decode prog_1_method_10_code 37 = .ok (.ldc 134, 2) := by decide +kernel
theorem d_PR_name_39 : decode prog_1_method_10_code 39 = .ok (.invokespecial 56, 3) := by decide +kernel
theorem d_PR_name_42 : decode prog_1_method_10_code 42 = .ok (.athrow, 1) := by decide +kernel
set_option maxRecDepth 100000 in
set_option maxHeartbeats 4000000 in
theorem o_name (l : Launch) (D : va_G) (HB : Heap) (h : hp_T) (hlt : l.stackTraces = false) (own : oT) (V : vT) (x : Nat) (p : Int32) (c : Int32) (hX : cr D h own x V) (hW : wf V) : ct_M l y_PR_name (.code y_PR_name prog_1_method_10_code 4 (Option.some Jvm.ClassFile.FieldType.int)) ({ frames := 9, cells := 8, slots := 200, locals := 320 }) D HB [.ref x, .int p, .int c] h (fun o h2 => an2 D h own x (sp_name V p c) o h2) := by
  refine ct_of (by decide) (Nat.le_of_ble_eq_true rfl) rfl ?_
  intro p_ e_ s_ m_ r_ b_ t_ c_ C hnm
  obtain ⟨gl, ul, pl, mo, aq, tr, gA, uA, pA, pn, pe, eB, sf, hO, hGL, hUL, hPL, hM, hN, hT, hG, hU, hB, hP⟩ := id hX
  obtain ⟨h7, h8, h9, h22, w1, w2, w21, w5, w6, w10, w13, w16, w4, wz, wy, wc⟩ := id hW
  refine wk_run C k_PR_name_0 (pc2 := 2) (lv2 := [(0, .ref x), (1, .int p), (2, .int c)]) (st2 := [.int p, .ref x]) rfl ?_
  rcases (Classical.em (¬ p < 1 ∧ p ≤ V 9 0)).symm with hp | hp
  ·
    refine wk_callV (cl := ("ProfileRights", T_PR, 7)) (rest := []) C (k_profileN l D HB h own V x gl ul pl mo aq tr (V 23 0) gA uA pA pn pe eB sf hO hPL h9 hlt p hp) cs_PR_117 kc_PR_profileAt ki_PR hO.1 rfl rfl rfl (Nat.le_of_ble_eq_true rfl) (Nat.le_of_ble_eq_true rfl) (Nat.le_of_ble_eq_true rfl) (Nat.le_of_ble_eq_true rfl) (Nat.le_of_ble_eq_true rfl) d_PR_name_2 (fun v h2 hq => ?_) (fun E h2 hq => by obtain ⟨e1, e2⟩ := hq; cases e1; replace e2 := e2.symm; subst e2; exact wx_out C (an_t hX (by clear C hX; grind [sp_name])) (by decide) (by decide))
    exact nomatch hq.1
  refine wk_callV (cl := ("ProfileRights", T_PR, 7)) (rest := []) C (k_profileY l D HB h own V x gl ul pl mo aq tr (V 23 0) gA uA pA pn pe eB sf hO hPL h9 hP p hp) cs_PR_117 kc_PR_profileAt ki_PR hO.1 rfl rfl rfl (Nat.le_of_ble_eq_true rfl) (Nat.le_of_ble_eq_true rfl) (Nat.le_of_ble_eq_true rfl) (Nat.le_of_ble_eq_true rfl) (Nat.le_of_ble_eq_true rfl) d_PR_name_2 (fun v h2 hq => ?_) (fun _ _ z => nomatch z.1)
  obtain ⟨e1, e2⟩ := hq; cases e1; replace e2 := e2.symm; subst e2
  show Wk _ _ _ _ _ _ _ _ _ _ _ _ _ _ _ _ _ _ _ (.ref (pA (nu p)) :: _)
  have khp : 1 ≤ nu p ∧ nu p ≤ nu (V 9 0) := by have z := ok_u (n := nu (V 9 0)) (by rw [← h9.1]; exact hp) (by have := h9.2; omega); exact ⟨z.1, z.2.1⟩
  have qhp := hP (nu p) khp.1 khp.2
  have ohp := qhp.1.1
  refine wk_get C fd_PR_121 ohp rfl d_PR_name_5 ?_
  refine wk_run C k_PR_name_8 (pc2 := 10) (lv2 := [(3, .ref (pn (nu p))), (0, .ref x), (1, .int p), (2, .int c)]) (st2 := [.int c]) rfl ?_
  obtain ⟨c0, hn0, on1, on2⟩ := id qhp.2.1
  refine wk_callS (rest := []) C (c_PR_isCharacter l D HB h c) cs_PR_124 kc_PR_isCharacter ki_PR rfl rfl (Nat.le_of_ble_eq_true rfl) (Nat.le_of_ble_eq_true rfl) (Nat.le_of_ble_eq_true rfl) (Nat.le_of_ble_eq_true rfl) (Nat.le_of_ble_eq_true rfl) d_PR_name_10 (fun v h2 hq => ?_) (fun _ _ z => nomatch z.1)
  obtain ⟨e1, e2⟩ := hq; cases e1; replace e2 := e2.symm; subst e2
  rcases (Classical.em (¬ c < 33 ∧ ¬ 126 < c)).symm with hc | hc
  ·
    rw [if_neg hc]
    refine wk_br C d_PR_name_13 (P := ¬ 0 = 0) (tgt := 26) (rest := []) rfl (by decide) (fun c1 => ?_) (fun c1 => ?_)
    ·
      exact absurd rfl c1
    ·
      exact wk_thrA C hlt (text := "no such character") (is := 128) (by decide) d_PR_name_16 d_PR_name_19 d_PR_name_20 d_PR_name_22 d_PR_name_25 (by decide) (Nat.le_of_ble_eq_true rfl) (by decide) (by decide) (by decide) (by decide) (an_t hX (by clear C hX; grind [sp_name]))
  ·
    rw [if_pos hc]
    refine wk_br C d_PR_name_13 (P := ¬ 1 = 0) (tgt := 26) (rest := []) rfl (by decide) (fun c1 => ?_) (fun c1 => ?_)
    ·
      refine wk_run C k_PR_name_26 (pc2 := 27) (lv2 := [(3, .ref (pn (nu p))), (0, .ref x), (1, .int p), (2, .int c)]) (st2 := [.ref (pn (nu p))]) rfl ?_
      refine wk_callV (cl := ("ProfileRights$Name", T_NM, 4)) (rest := []) C (c_NM_isFull l D HB h (pn (nu p)) c0 _ _ _ hn0.1) cs_PR_130 kc_NM_isFull ki_NM hn0.1 rfl rfl rfl (Nat.le_of_ble_eq_true rfl) (Nat.le_of_ble_eq_true rfl) (Nat.le_of_ble_eq_true rfl) (Nat.le_of_ble_eq_true rfl) (Nat.le_of_ble_eq_true rfl) d_PR_name_27 (fun v h2 hq => ?_) (fun _ _ z => nomatch z.1)
      obtain ⟨e1, e2⟩ := hq; cases e1; replace e2 := e2.symm; subst e2
      rw [← (w13 (nu p)).1]
      rcases (Classical.em (V 13 (nu p) = 20)).symm with hf | hf
      ·
        have k19 := ok_ne (w13 (nu p)) hf
        rw [if_neg (n20 k19)]
        refine wk_br C d_PR_name_30 (P := 0 = 0) (tgt := 43) (rest := []) rfl (by decide) (fun c2 => ?_) (fun c2 => ?_)
        ·
          refine wk_run C k_PR_name_43 (pc2 := 45) (lv2 := [(3, .ref (pn (nu p))), (0, .ref x), (1, .int p), (2, .int c)]) (st2 := [.int c, .ref (pn (nu p))]) rfl ?_
          refine wk_callV (cl := ("ProfileRights$Name", T_NM, 4)) (rest := []) C (c_NM_append l D HB h (pn (nu p)) c0 (nu (V 13 (nu p))) (nf_ V (nu p)) c hn0) cs_PR_136 kc_NM_append ki_NM hn0.1 rfl rfl rfl (Nat.le_of_ble_eq_true rfl) (Nat.le_of_ble_eq_true rfl) (Nat.le_of_ble_eq_true rfl) (Nat.le_of_ble_eq_true rfl) (Nat.le_of_ble_eq_true rfl) d_PR_name_45 (fun v h2 hq => ?_) (fun _ _ z => nomatch z.1)
          obtain ⟨e1, a1, a2, a3⟩ := hq; cases e1
          refine wk_run C k_PR_name_48 (pc2 := 49) (lv2 := [(3, .ref (pn (nu p))), (0, .ref x), (1, .int p), (2, .int c)]) (st2 := [.ref (pn (nu p))]) rfl ?_
          have kn := k19.2
          have hn2 := a1 (by omega)
          refine wk_get C fd_PR_139 hn2.1 rfl d_PR_name_49 ?_
          have kp := ok_p (w13 (nu p)) hf (by decide)
          have e3 : nI (nu (V 13 (nu p)) + 1) = V 13 (nu p) + 1 := by rw [← kp.2]; exact kp.1.1.symm
          rw [e3]
          have s0 : sx_ (fun t => t.2 = nu p ∧ t.1 ∈ [23, 123]) h own h2 own := sx_f a3 (by rw [on1]; exact ⟨rfl, by simp⟩) (by rw [on2]; exact ⟨rfl, by simp⟩)
          have s := sx_st s0
          obtain ⟨V2, hV2⟩ : ∃ V2 : vT, V2 = vs (vs (vc V 0 0) 12 (upd (V 12) (20 * nu p + nu (V 13 (nu p))) c)) 13 (upd (V 13) (nu p) (V 13 (nu p) + 1)) := ⟨_, rfl⟩
          have hr : sp_name V p c = (0, V 13 (nu p) + 1, V2) := by clear C hX; grind [sp_name]
          have e13 : nu (V2 13 (nu p)) = nu (V 13 (nu p)) + 1 := by rw [hV2]; exact (congrArg nu upd_s).trans kp.2
          have enf : nf_ V2 (nu p) = upd (nf_ V (nu p)) (nu (V 13 (nu p))) c := nf_up V (nu p) _ c V2 (by rw [hV2]; rfl)
          have hq2 : cQ D h2 own (nu p) (pA (nu p)) (pn (nu p)) (pe (nu p)) (eB (nu p)) V2 := by
            refine ⟨⟨?_, qhp.1.2⟩, ?_, ?_, ?_⟩
            · rw [hV2]; exact (s _ _ ohp (by rw [qhp.1.2]; simp)).1
            · rw [e13, enf]; exact ⟨c0, hn2, on1, on2⟩
            · rw [hV2]; exact cL_m qhp.2.2.1 s (by decide) (by decide)
            · rw [hV2]; exact cE_m qhp.2.2.2 s (by decide)
          have hP2 : cP D h2 own (nu (V2 9 0)) pA pn pe eB V2 := by rw [show V2 9 0 = V 9 0 by rw [hV2]; rfl]; exact cP_x hP s0 hq2 (fun j hj => ⟨rfl, by rw [hV2]; exact ⟨rfl, upd_n hj, rfl, rfl, rfl, fun i hi => upd_n (by omega), fun _ _ => ⟨rfl, rfl, rfl, rfl⟩⟩⟩) w16
          subst hV2
          exact wk_iret C (an_o (V2 := vs (vs (vc V 0 0) 12 (upd (V 12) (20 * nu p + nu (V 13 (nu p))) c)) 13 (upd (V 13) (nu p) (V 13 (nu p) + 1))) ⟨gl, ul, pl, mo, aq, tr, gA, uA, pA, pn, pe, eB, sf, cO_m hO s (by decide), cL_m hGL s (by decide) (by decide), cL_m hUL s (by decide) (by decide), cL_m hPL s (by decide) (by decide), cM_m hM s (by decide), cN_m hN s (by decide) (by decide), cT_m hT s (by decide) (by decide), cG_m hG s (by decide), cU_m hU s (by decide), hB, hP2⟩ (st_so s (by decide)) hr) (by decide) (by decide) d_PR_name_52
        ·
          exact absurd rfl c2
      ·
        rw [if_pos (by rw [hf]; decide)]
        refine wk_br C d_PR_name_30 (P := 1 = 0) (tgt := 43) (rest := []) rfl (by decide) (fun c2 => ?_) (fun c2 => ?_)
        ·
          exact absurd c2 (by decide)
        ·
          exact wk_thrS C hlt (text := "the name is full") (is := 134) (by decide) d_PR_name_33 d_PR_name_36 d_PR_name_37 d_PR_name_39 d_PR_name_42 (by decide) (Nat.le_of_ble_eq_true rfl) (by decide) (by decide) (by decide) (by decide) (an_s hX (by clear C hX; grind [sp_name]))
    ·
      exact absurd (by decide) c1
theorem k_PR_condition_0 : px_dec prog_1_method_13_code [.aload_n 0, .iload_n 1] 0 = true := by decide +kernel
theorem d_PR_condition_2 : decode prog_1_method_13_code 2 = .ok (.invokevirtual 117, 3) := by decide +kernel
theorem k_PR_condition_5 : px_dec prog_1_method_13_code [.astore 5, .aload_n 0, .iload_n 2] 5 = true := by decide +kernel
theorem d_PR_condition_9 : decode prog_1_method_13_code 9 = .ok (.invokevirtual 153, 3) := by decide +kernel
theorem k_PR_condition_12 : px_dec prog_1_method_13_code [.iload_n 3] 12 = true := by decide +kernel
theorem d_PR_condition_13 : decode prog_1_method_13_code 13 = .ok (.invokestatic 88, 3) := by decide +kernel
theorem k_PR_condition_16 : px_dec prog_1_method_13_code [.aload 5, .iload_n 2] 16 = true := by decide +kernel
theorem d_PR_condition_19 : decode prog_1_method_13_code 19 = .ok (.invokevirtual 156, 3) := by decide +kernel
theorem k_PR_condition_22 : px_dec prog_1_method_13_code [.astore 6, .aload 6] 22 = true := by decide +kernel
theorem d_PR_condition_26 : decode prog_1_method_13_code 26 = .ok (.ifnonnull 5, 3) := by decide +kernel
theorem k_PR_condition_29 : px_dec prog_1_method_13_code [.iconst 0] 29 = true := by decide +kernel
theorem d_PR_condition_30 : decode prog_1_method_13_code 30 = .ok (.ireturn, 1) := by decide +kernel
theorem k_PR_condition_31 : px_dec prog_1_method_13_code [.aload 6, .iload_n 3] 31 = true := by decide +kernel
theorem d_PR_condition_34 : decode prog_1_method_13_code 34 = .ok (.putfield 175, 3) := by decide +kernel
theorem k_PR_condition_37 : px_dec prog_1_method_13_code [.aload 6, .iload 4] 37 = true := by decide +kernel
theorem d_PR_condition_41 : decode prog_1_method_13_code 41 = .ok (.ldc 176, 2) := by decide +kernel
theorem k_PR_condition_43 : px_dec prog_1_method_13_code [.iand] 43 = true := by decide +kernel
theorem d_PR_condition_44 : decode prog_1_method_13_code 44 = .ok (.putfield 177, 3) := by decide +kernel
theorem k_PR_condition_47 : px_dec prog_1_method_13_code [.iconst 1] 47 = true := by decide +kernel
theorem d_PR_condition_48 : decode prog_1_method_13_code 48 = .ok (.ireturn, 1) := by decide +kernel
set_option maxRecDepth 100000 in
set_option maxHeartbeats 4000000 in
theorem o_condition (l : Launch) (D : va_G) (HB : Heap) (h : hp_T) (hlt : l.stackTraces = false) (own : oT) (V : vT) (x : Nat) (p : Int32) (q : Int32) (t : Int32) (b : Int32) (hX : cr D h own x V) (hW : wf V) : ct_M l y_PR_condition (.code y_PR_condition prog_1_method_13_code 7 (Option.some Jvm.ClassFile.FieldType.int)) ({ frames := 9, cells := 8, slots := 200, locals := 320 }) D HB [.ref x, .int p, .int q, .int t, .int b] h (fun o h2 => an2 D h own x (sp_condition V p q t b) o h2) := by
  refine ct_of (by decide) (Nat.le_of_ble_eq_true rfl) rfl ?_
  intro p_ e_ s_ m_ r_ b_ t_ c_ C hnm
  obtain ⟨gl, ul, pl, mo, aq, tr, gA, uA, pA, pn, pe, eB, sf, hO, hGL, hUL, hPL, hM, hN, hT, hG, hU, hB, hP⟩ := id hX
  obtain ⟨h7, h8, h9, h22, w1, w2, w21, w5, w6, w10, w13, w16, w4, wz, wy, wc⟩ := id hW
  refine wk_run C k_PR_condition_0 (pc2 := 2) (lv2 := [(0, .ref x), (1, .int p), (2, .int q), (3, .int t), (4, .int b)]) (st2 := [.int p, .ref x]) rfl ?_
  rcases (Classical.em (¬ p < 1 ∧ p ≤ V 9 0)).symm with hp | hp
  ·
    refine wk_callV (cl := ("ProfileRights", T_PR, 7)) (rest := []) C (k_profileN l D HB h own V x gl ul pl mo aq tr (V 23 0) gA uA pA pn pe eB sf hO hPL h9 hlt p hp) cs_PR_117 kc_PR_profileAt ki_PR hO.1 rfl rfl rfl (Nat.le_of_ble_eq_true rfl) (Nat.le_of_ble_eq_true rfl) (Nat.le_of_ble_eq_true rfl) (Nat.le_of_ble_eq_true rfl) (Nat.le_of_ble_eq_true rfl) d_PR_condition_2 (fun v h2 hq => ?_) (fun E h2 hq => by obtain ⟨e1, e2⟩ := hq; cases e1; replace e2 := e2.symm; subst e2; exact wx_out C (an_t hX (by clear C hX; grind [sp_condition])) (by decide) (by decide))
    exact nomatch hq.1
  refine wk_callV (cl := ("ProfileRights", T_PR, 7)) (rest := []) C (k_profileY l D HB h own V x gl ul pl mo aq tr (V 23 0) gA uA pA pn pe eB sf hO hPL h9 hP p hp) cs_PR_117 kc_PR_profileAt ki_PR hO.1 rfl rfl rfl (Nat.le_of_ble_eq_true rfl) (Nat.le_of_ble_eq_true rfl) (Nat.le_of_ble_eq_true rfl) (Nat.le_of_ble_eq_true rfl) (Nat.le_of_ble_eq_true rfl) d_PR_condition_2 (fun v h2 hq => ?_) (fun _ _ z => nomatch z.1)
  obtain ⟨e1, e2⟩ := hq; cases e1; replace e2 := e2.symm; subst e2
  show Wk _ _ _ _ _ _ _ _ _ _ _ _ _ _ _ _ _ _ _ (.ref (pA (nu p)) :: _)
  have khp : 1 ≤ nu p ∧ nu p ≤ nu (V 9 0) := by have z := ok_u (n := nu (V 9 0)) (by rw [← h9.1]; exact hp) (by have := h9.2; omega); exact ⟨z.1, z.2.1⟩
  have qhp := hP (nu p) khp.1 khp.2
  have ohp := qhp.1.1
  refine wk_run C k_PR_condition_5 (pc2 := 9) (lv2 := [(5, .ref (pA (nu p))), (0, .ref x), (1, .int p), (2, .int q), (3, .int t), (4, .int b)]) (st2 := [.int q, .ref x]) rfl ?_
  rcases (Classical.em (ho_ V q)).symm with hh | hh
  ·
    refine wk_callV (cl := ("ProfileRights", T_PR, 7)) (rest := []) C (k_holN l D HB h own V x gl ul pl mo aq tr (V 23 0) gA uA pA pn pe eB sf hO hGL hUL h7 h8 hlt q hh) cs_PR_153 kc_PR_testHolder ki_PR hO.1 rfl rfl rfl (Nat.le_of_ble_eq_true rfl) (Nat.le_of_ble_eq_true rfl) (Nat.le_of_ble_eq_true rfl) (Nat.le_of_ble_eq_true rfl) (Nat.le_of_ble_eq_true rfl) d_PR_condition_9 (fun v h2 hq => ?_) (fun E h2 hq => by obtain ⟨e1, e2⟩ := hq; cases e1; replace e2 := e2.symm; subst e2; exact wx_out C (an_t hX (by clear C hX; grind [sp_condition])) (by decide) (by decide))
    exact nomatch hq.1
  refine wk_callV (cl := ("ProfileRights", T_PR, 7)) (rest := []) C (k_holY l D HB h own V x gl ul pl mo aq tr (V 23 0) gA uA pA pn pe eB sf hO hGL hUL h7 h8 hG hU q hh) cs_PR_153 kc_PR_testHolder ki_PR hO.1 rfl rfl rfl (Nat.le_of_ble_eq_true rfl) (Nat.le_of_ble_eq_true rfl) (Nat.le_of_ble_eq_true rfl) (Nat.le_of_ble_eq_true rfl) (Nat.le_of_ble_eq_true rfl) d_PR_condition_9 (fun v h2 hq => ?_) (fun _ _ z => nomatch z.1)
  obtain ⟨e1, e2⟩ := hq; cases e1; replace e2 := e2.symm; subst e2
  refine wk_run C k_PR_condition_12 (pc2 := 13) (lv2 := [(5, .ref (pA (nu p))), (0, .ref x), (1, .int p), (2, .int q), (3, .int t), (4, .int b)]) (st2 := [.int t]) rfl ?_
  rcases (Classical.em (¬ (t < 0 ∨ ¬ t ≤ 99))).symm with ht | ht
  ·
    refine wk_callS (rest := []) C (k_testTerminalN l D HB h hlt t (Classical.not_not.mp ht)) cs_PR_88 kc_PR_testTerminal ki_PR rfl rfl (Nat.le_of_ble_eq_true rfl) (Nat.le_of_ble_eq_true rfl) (Nat.le_of_ble_eq_true rfl) (Nat.le_of_ble_eq_true rfl) (Nat.le_of_ble_eq_true rfl) d_PR_condition_13 (fun v h2 hq => ?_) (fun E h2 hq => by obtain ⟨e1, e2⟩ := hq; cases e1; replace e2 := e2.symm; subst e2; exact wx_out C (an_t hX (by clear C hX; grind [sp_condition])) (by decide) (by decide))
    exact nomatch hq.1
  refine wk_callS (rest := []) C (k_testTerminalY l D HB h hlt t ht) cs_PR_88 kc_PR_testTerminal ki_PR rfl rfl (Nat.le_of_ble_eq_true rfl) (Nat.le_of_ble_eq_true rfl) (Nat.le_of_ble_eq_true rfl) (Nat.le_of_ble_eq_true rfl) (Nat.le_of_ble_eq_true rfl) d_PR_condition_13 (fun v h2 hq => ?_) (fun _ _ z => nomatch z.1)
  obtain ⟨e1, e2⟩ := hq; cases e1; replace e2 := e2.symm; subst e2
  refine wk_run C k_PR_condition_16 (pc2 := 19) (lv2 := [(5, .ref (pA (nu p))), (0, .ref x), (1, .int p), (2, .int q), (3, .int t), (4, .int b)]) (st2 := [.int q, .ref (pA (nu p))]) rfl ?_
  obtain ⟨b0, hb, ob1, ob2⟩ := id qhp.2.2.1
  have h10 := (w16 (nu p)).2
  cases hf : fe_ V (nu p) q with
  | none =>
    have hfs : fs_ (fun j => V 17 (10 * nu p + j)) q (nu (V 16 (nu p))) none := hf ▸ fe_s V (nu p) q
    refine wk_callV (cl := ("ProfileRights$Profile", T_PF, 6)) (rest := []) C (c_PF_entryOf l D HB h (pA (nu p)) (pn (nu p)) (pe (nu p)) b0 (nu (V 16 (nu p))) _ _ _ _ (eB (nu p)) _ _ _ _ ohp hb qhp.2.2.2.1 h10 q none hfs) cs_PR_156 kc_PF_entryOf ki_PF ohp rfl rfl rfl (Nat.le_of_ble_eq_true rfl) (Nat.le_of_ble_eq_true rfl) (Nat.le_of_ble_eq_true rfl) (Nat.le_of_ble_eq_true rfl) (Nat.le_of_ble_eq_true rfl) d_PR_condition_19 (fun v h2 hq => ?_) (fun _ _ z => nomatch z.1)
    obtain ⟨e1, e2⟩ := hq; cases e1; replace e2 := e2.symm; subst e2
    show Wk _ _ _ _ _ _ _ _ _ _ _ _ _ _ _ _ _ _ _ (.null :: _)
    refine wk_run C k_PR_condition_22 (pc2 := 26) (lv2 := [(6, .null), (5, .ref (pA (nu p))), (0, .ref x), (1, .int p), (2, .int q), (3, .int t), (4, .int b)]) (st2 := [.null]) rfl ?_
    refine wk_nnN C d_PR_condition_26 ?_
    refine wk_run C k_PR_condition_29 (pc2 := 30) (lv2 := [(6, .null), (5, .ref (pA (nu p))), (0, .ref x), (1, .int p), (2, .int q), (3, .int t), (4, .int b)]) (st2 := [.int 0]) rfl ?_
    exact wk_iret C (an_q hX (by clear C hX; grind [sp_condition])) (by decide) (by decide) d_PR_condition_30
  | some k =>
    have hfs : fs_ (fun j => V 17 (10 * nu p + j)) q (nu (V 16 (nu p))) (some k) := hf ▸ fe_s V (nu p) q
    refine wk_callV (cl := ("ProfileRights$Profile", T_PF, 6)) (rest := []) C (c_PF_entryOf l D HB h (pA (nu p)) (pn (nu p)) (pe (nu p)) b0 (nu (V 16 (nu p))) _ _ _ _ (eB (nu p)) _ _ _ _ ohp hb qhp.2.2.2.1 h10 q (some k) hfs) cs_PR_156 kc_PF_entryOf ki_PF ohp rfl rfl rfl (Nat.le_of_ble_eq_true rfl) (Nat.le_of_ble_eq_true rfl) (Nat.le_of_ble_eq_true rfl) (Nat.le_of_ble_eq_true rfl) (Nat.le_of_ble_eq_true rfl) d_PR_condition_19 (fun v h2 hq => ?_) (fun _ _ z => nomatch z.1)
    obtain ⟨e1, e2⟩ := hq; cases e1; replace e2 := e2.symm; subst e2
    show Wk _ _ _ _ _ _ _ _ _ _ _ _ _ _ _ _ _ _ _ (.ref (eB (nu p) k) :: _)
    have hk := hfs.1
    have oe : h (eB (nu p) k) = some (.inr (4, [.int (V 17 (10 * nu p + k)), .int (V 18 (10 * nu p + k)), .int (V 19 (10 * nu p + k)), .int (V 20 (10 * nu p + k))])) := qhp.2.2.2.1 k hk
    have oo : own (eB (nu p) k) = (27, nu p) := qhp.2.2.2.2.1 k hk
    refine wk_run C k_PR_condition_22 (pc2 := 26) (lv2 := [(6, .ref (eB (nu p) k)), (5, .ref (pA (nu p))), (0, .ref x), (1, .int p), (2, .int q), (3, .int t), (4, .int b)]) (st2 := [.ref (eB (nu p) k)]) rfl ?_
    refine wk_nnR C d_PR_condition_26 (tgt := 31) (by decide) ?_
    refine wk_run C k_PR_condition_31 (pc2 := 34) (lv2 := [(6, .ref (eB (nu p) k)), (5, .ref (pA (nu p))), (0, .ref x), (1, .int p), (2, .int q), (3, .int t), (4, .int b)]) (st2 := [.int t, .ref (eB (nu p) k)]) rfl ?_
    refine wk_put (fs2 := [.int (V 17 (10 * nu p + k)), .int (V 18 (10 * nu p + k)), .int t, .int (V 20 (10 * nu p + k))]) C fd_PR_175 oe rfl rfl (Nat.le_of_ble_eq_true rfl) rfl d_PR_condition_34 ?_
    refine wk_run C k_PR_condition_37 (pc2 := 41) (lv2 := [(6, .ref (eB (nu p) k)), (5, .ref (pA (nu p))), (0, .ref x), (1, .int p), (2, .int q), (3, .int t), (4, .int b)]) (st2 := [.int b, .ref (eB (nu p) k)]) rfl ?_
    refine wk_ldc C kk_PR_176 d_PR_condition_41 ?_
    refine wk_run C k_PR_condition_43 (pc2 := 44) (lv2 := [(6, .ref (eB (nu p) k)), (5, .ref (pA (nu p))), (0, .ref x), (1, .int p), (2, .int q), (3, .int t), (4, .int b)]) (st2 := [.int (b &&& 16777215), .ref (eB (nu p) k)]) rfl ?_
    refine wk_put (fs2 := [.int (V 17 (10 * nu p + k)), .int (V 18 (10 * nu p + k)), .int t, .int (b &&& 16777215)]) C fd_PR_177 hp_us rfl rfl (Nat.le_of_ble_eq_true rfl) rfl d_PR_condition_44 ?_
    rw [hp_uu]
    refine wk_run C k_PR_condition_47 (pc2 := 48) (lv2 := [(6, .ref (eB (nu p) k)), (5, .ref (pA (nu p))), (0, .ref x), (1, .int p), (2, .int q), (3, .int t), (4, .int b)]) (st2 := [.int 1]) rfl ?_
    have hr : sp_condition V p q t b = (0, 1, vs (vs (vc V 0 0) 19 (upd (V 19) (10 * nu p + k) t)) 20 (upd (V 20) (10 * nu p + k) (b &&& 16777215))) := by clear C hX; grind [sp_condition]
    have s0 : sx_ (fun t => t.2 = nu p ∧ t.1 ∈ [27]) h own (hp_up h (eB (nu p) k) (.inr (4, [.int (V 17 (10 * nu p + k)), .int (V 18 (10 * nu p + k)), .int t, .int (b &&& 16777215)]))) own := sx_u (by rw [oo]; exact ⟨rfl, by simp⟩)
    have s := sx_st s0
    have hE2 : cE (hp_up h (eB (nu p) k) (.inr (4, [.int (V 17 (10 * nu p + k)), .int (V 18 (10 * nu p + k)), .int t, .int (b &&& 16777215)]))) own (nu p) (nu (V 16 (nu p))) (eB (nu p)) (vs (vs (vc V 0 0) 19 (upd (V 19) (10 * nu p + k) t)) 20 (upd (V 20) (10 * nu p + k) (b &&& 16777215))) := cE_u qhp.2.2.2 hk (vs (vs (vc V 0 0) 19 (upd (V 19) (10 * nu p + k) t)) 20 (upd (V 20) (10 * nu p + k) (b &&& 16777215))) (by rw [show (vs (vs (vc V 0 0) 19 (upd (V 19) (10 * nu p + k) t)) 20 (upd (V 20) (10 * nu p + k) (b &&& 16777215))) 19 (10 * nu p + k) = t from upd_s, show (vs (vs (vc V 0 0) 19 (upd (V 19) (10 * nu p + k) t)) 20 (upd (V 20) (10 * nu p + k) (b &&& 16777215))) 20 (10 * nu p + k) = b &&& 16777215 from upd_s]; rfl) (fun j hj => ⟨rfl, rfl, upd_n (by omega), upd_n (by omega)⟩)
    have hP2 : cP D (hp_up h (eB (nu p) k) (.inr (4, [.int (V 17 (10 * nu p + k)), .int (V 18 (10 * nu p + k)), .int t, .int (b &&& 16777215)]))) own (nu (V 9 0)) pA pn pe eB (vs (vs (vc V 0 0) 19 (upd (V 19) (10 * nu p + k) t)) 20 (upd (V 20) (10 * nu p + k) (b &&& 16777215))) := cP_x hP s0 ⟨⟨(s _ _ ohp (by rw [qhp.1.2]; simp)).1, qhp.1.2⟩, cN_m qhp.2.1 s (by decide) (by decide), cL_m qhp.2.2.1 s (by decide) (by decide), hE2⟩ (fun j hj => ⟨rfl, rfl, rfl, rfl, rfl, rfl, fun _ _ => rfl, fun i hi => ⟨rfl, rfl, upd_n (by omega), upd_n (by omega)⟩⟩) w16
    exact wk_iret C (an_o (V2 := vs (vs (vc V 0 0) 19 (upd (V 19) (10 * nu p + k) t)) 20 (upd (V 20) (10 * nu p + k) (b &&& 16777215))) ⟨gl, ul, pl, mo, aq, tr, gA, uA, pA, pn, pe, eB, sf, cO_m hO s (by decide), cL_m hGL s (by decide) (by decide), cL_m hUL s (by decide) (by decide), cL_m hPL s (by decide) (by decide), cM_m hM s (by decide), cN_m hN s (by decide) (by decide), cT_m hT s (by decide) (by decide), cG_m hG s (by decide), cU_m hU s (by decide), hB, hP2⟩ (st_so s (by decide)) hr) (by decide) (by decide) d_PR_condition_48
theorem k_PR_acts_0 : px_dec prog_1_method_19_code [.aload_n 0, .iload_n 1] 0 = true := by decide +kernel
theorem d_PR_acts_2 : decode prog_1_method_19_code 2 = .ok (.invokevirtual 84, 3) := by decide +kernel
theorem k_PR_acts_5 : px_dec prog_1_method_19_code [.astore_n 3, .aload_n 0, .iload_n 2] 5 = true := by decide +kernel
theorem d_PR_acts_8 : decode prog_1_method_19_code 8 = .ok (.invokevirtual 84, 3) := by decide +kernel
theorem k_PR_acts_11 : px_dec prog_1_method_19_code [.astore 4, .aload_n 3, .aload 4] 11 = true := by decide +kernel
theorem d_PR_acts_16 : decode prog_1_method_19_code 16 = .ok (.if_acmp .eq 12, 3) := by decide +kernel
theorem k_PR_acts_28 : px_dec prog_1_method_19_code [.iconst 1] 28 = true := by decide +kernel
theorem d_PR_acts_29 : decode prog_1_method_19_code 29 = .ok (.goto 4, 3) := by decide +kernel
theorem d_PR_acts_33 : decode prog_1_method_19_code 33 = .ok (.ireturn, 1) := by decide +kernel
theorem k_PR_acts_19 : px_dec prog_1_method_19_code [.aload_n 3, .aload 4] 19 = true := by decide +kernel
theorem d_PR_acts_22 : decode prog_1_method_19_code 22 = .ok (.invokevirtual 208, 3) := by decide +kernel
theorem d_PR_acts_25 : decode prog_1_method_19_code 25 = .ok (.ifCond .eq 7, 3) := by decide +kernel
theorem k_PR_acts_32 : px_dec prog_1_method_19_code [.iconst 0] 32 = true := by decide +kernel
set_option maxRecDepth 100000 in
set_option maxHeartbeats 4000000 in
theorem o_acts (l : Launch) (D : va_G) (HB : Heap) (h : hp_T) (hlt : l.stackTraces = false) (own : oT) (V : vT) (x : Nat) (u : Int32) (v1 : Int32) (hX : cr D h own x V) (hW : wf V) : ct_M l y_PR_acts (.code y_PR_acts prog_1_method_19_code 5 (Option.some Jvm.ClassFile.FieldType.boolean)) ({ frames := 9, cells := 8, slots := 200, locals := 320 }) D HB [.ref x, .int u, .int v1] h (fun o h2 => an2 D h own x (sp_acts V u v1) o h2) := by
  refine ct_of (by decide) (Nat.le_of_ble_eq_true rfl) rfl ?_
  intro p_ e_ s_ m_ r_ b_ t_ c_ C hnm
  obtain ⟨gl, ul, pl, mo, aq, tr, gA, uA, pA, pn, pe, eB, sf, hO, hGL, hUL, hPL, hM, hN, hT, hG, hU, hB, hP⟩ := id hX
  obtain ⟨h7, h8, h9, h22, w1, w2, w21, w5, w6, w10, w13, w16, w4, wz, wy, wc⟩ := id hW
  refine wk_run C k_PR_acts_0 (pc2 := 2) (lv2 := [(0, .ref x), (1, .int u), (2, .int v1)]) (st2 := [.int u, .ref x]) rfl ?_
  rcases (Classical.em (¬ u < 1 ∧ u ≤ V 8 0)).symm with hu | hu
  ·
    refine wk_callV (cl := ("ProfileRights", T_PR, 7)) (rest := []) C (k_userN l D HB h own V x gl ul pl mo aq tr (V 23 0) gA uA pA pn pe eB sf hO hUL h8 hlt u hu) cs_PR_84 kc_PR_userAt ki_PR hO.1 rfl rfl rfl (Nat.le_of_ble_eq_true rfl) (Nat.le_of_ble_eq_true rfl) (Nat.le_of_ble_eq_true rfl) (Nat.le_of_ble_eq_true rfl) (Nat.le_of_ble_eq_true rfl) d_PR_acts_2 (fun v h2 hq => ?_) (fun E h2 hq => by obtain ⟨e1, e2⟩ := hq; cases e1; replace e2 := e2.symm; subst e2; exact wx_out C (an_t hX (by clear C hX; grind [sp_acts])) (by decide) (by decide))
    exact nomatch hq.1
  refine wk_callV (cl := ("ProfileRights", T_PR, 7)) (rest := []) C (k_userY l D HB h own V x gl ul pl mo aq tr (V 23 0) gA uA pA pn pe eB sf hO hUL h8 hU u hu) cs_PR_84 kc_PR_userAt ki_PR hO.1 rfl rfl rfl (Nat.le_of_ble_eq_true rfl) (Nat.le_of_ble_eq_true rfl) (Nat.le_of_ble_eq_true rfl) (Nat.le_of_ble_eq_true rfl) (Nat.le_of_ble_eq_true rfl) d_PR_acts_2 (fun v h2 hq => ?_) (fun _ _ z => nomatch z.1)
  obtain ⟨e1, e2⟩ := hq; cases e1; replace e2 := e2.symm; subst e2
  show Wk _ _ _ _ _ _ _ _ _ _ _ _ _ _ _ _ _ _ _ (.ref (uA (nu u)) :: _)
  have khu : 1 ≤ nu u ∧ nu u ≤ nu (V 8 0) := by have z := ok_u (n := nu (V 8 0)) (by rw [← h8.1]; exact hu) (by have := h8.2; omega); exact ⟨z.1, z.2.1⟩
  have ohu := (hU (nu u) khu.1 khu.2).1
  refine wk_run C k_PR_acts_5 (pc2 := 8) (lv2 := [(3, .ref (uA (nu u))), (0, .ref x), (1, .int u), (2, .int v1)]) (st2 := [.int v1, .ref x]) rfl ?_
  rcases (Classical.em (¬ v1 < 1 ∧ v1 ≤ V 8 0)).symm with hv | hv
  ·
    refine wk_callV (cl := ("ProfileRights", T_PR, 7)) (rest := []) C (k_userN l D HB h own V x gl ul pl mo aq tr (V 23 0) gA uA pA pn pe eB sf hO hUL h8 hlt v1 hv) cs_PR_84 kc_PR_userAt ki_PR hO.1 rfl rfl rfl (Nat.le_of_ble_eq_true rfl) (Nat.le_of_ble_eq_true rfl) (Nat.le_of_ble_eq_true rfl) (Nat.le_of_ble_eq_true rfl) (Nat.le_of_ble_eq_true rfl) d_PR_acts_8 (fun v h2 hq => ?_) (fun E h2 hq => by obtain ⟨e1, e2⟩ := hq; cases e1; replace e2 := e2.symm; subst e2; exact wx_out C (an_t hX (by clear C hX; grind [sp_acts])) (by decide) (by decide))
    exact nomatch hq.1
  refine wk_callV (cl := ("ProfileRights", T_PR, 7)) (rest := []) C (k_userY l D HB h own V x gl ul pl mo aq tr (V 23 0) gA uA pA pn pe eB sf hO hUL h8 hU v1 hv) cs_PR_84 kc_PR_userAt ki_PR hO.1 rfl rfl rfl (Nat.le_of_ble_eq_true rfl) (Nat.le_of_ble_eq_true rfl) (Nat.le_of_ble_eq_true rfl) (Nat.le_of_ble_eq_true rfl) (Nat.le_of_ble_eq_true rfl) d_PR_acts_8 (fun v h2 hq => ?_) (fun _ _ z => nomatch z.1)
  obtain ⟨e1, e2⟩ := hq; cases e1; replace e2 := e2.symm; subst e2
  show Wk _ _ _ _ _ _ _ _ _ _ _ _ _ _ _ _ _ _ _ (.ref (uA (nu v1)) :: _)
  have khv : 1 ≤ nu v1 ∧ nu v1 ≤ nu (V 8 0) := by have z := ok_u (n := nu (V 8 0)) (by rw [← h8.1]; exact hv) (by have := h8.2; omega); exact ⟨z.1, z.2.1⟩
  have ohv := (hU (nu v1) khv.1 khv.2).1
  refine wk_run C k_PR_acts_11 (pc2 := 16) (lv2 := [(4, .ref (uA (nu v1))), (3, .ref (uA (nu u))), (0, .ref x), (1, .int u), (2, .int v1)]) (st2 := [.ref (uA (nu v1)), .ref (uA (nu u))]) rfl ?_
  have eu : u = nI (nu u) := (ok_r hu.1 hu.2 h8 (by decide)).1
  have ev : v1 = nI (nu v1) := (ok_r hv.1 hv.2 h8 (by decide)).1
  have e40 := h8.2
  have hb := hB (nu u) (nu v1) khu.1 khu.2 (by omega)
  refine wk_aeq C d_PR_acts_16 (tgt := 28) (by decide) (fun c1 => ?_) (fun c1 => ?_)
  ·
    have euv : u = v1 := by rw [eu, ev, cU_i hU khu khv c1]
    refine wk_run C k_PR_acts_28 (pc2 := 29) (lv2 := [(4, .ref (uA (nu v1))), (3, .ref (uA (nu u))), (0, .ref x), (1, .int u), (2, .int v1)]) (st2 := [.int 1]) rfl ?_
    refine wk_goto C d_PR_acts_29 (tgt := 33) (by decide) ?_
    exact wk_zret C rfl (an_q hX (by clear C hX; grind [sp_acts])) (by decide) (by decide) d_PR_acts_33
  ·
    have nuv : ¬ u = v1 := fun z => c1 (by rw [z])
    refine wk_run C k_PR_acts_19 (pc2 := 22) (lv2 := [(4, .ref (uA (nu v1))), (3, .ref (uA (nu u))), (0, .ref x), (1, .int u), (2, .int v1)]) (st2 := [.ref (uA (nu v1)), .ref (uA (nu u))]) rfl ?_
    refine wk_callV (cl := ("ProfileRights$User", T_US, 6)) (rest := []) C (c_US_standsFor l D HB h (uA (nu u)) (uA (nu v1)) _ _ _ _ _ _ _ _ _ _ _ _ ohu ohv) cs_PR_208 kc_US_standsFor ki_US ohu rfl rfl rfl (Nat.le_of_ble_eq_true rfl) (Nat.le_of_ble_eq_true rfl) (Nat.le_of_ble_eq_true rfl) (Nat.le_of_ble_eq_true rfl) (Nat.le_of_ble_eq_true rfl) d_PR_acts_22 (fun v h2 hq => ?_) (fun _ _ z => nomatch z.1)
    obtain ⟨e1, e2⟩ := hq; cases e1; replace e2 := e2.symm; subst e2
    rcases Classical.em ((sf (nu u) >>> ((nI (nu v1)).toInt64 &&& 63)) &&& 1 = 0) with hz | hz
    ·
      rw [if_pos hz]
      have h6 := hb.mp hz
      refine wk_br C d_PR_acts_25 (P := 0 = 0) (tgt := 32) (rest := []) rfl (by decide) (fun c2 => ?_) (fun c2 => ?_)
      ·
        refine wk_run C k_PR_acts_32 (pc2 := 33) (lv2 := [(4, .ref (uA (nu v1))), (3, .ref (uA (nu u))), (0, .ref x), (1, .int u), (2, .int v1)]) (st2 := [.int 0]) rfl ?_
        exact wk_zret C rfl (an_q hX (by clear C hX; grind [sp_acts])) (by decide) (by decide) d_PR_acts_33
      ·
        exact absurd rfl c2
    ·
      rw [if_neg hz]
      have h6 : ¬ V 6 (41 * nu u + nu v1) = 0 := fun y => hz (hb.mpr y)
      refine wk_br C d_PR_acts_25 (P := 1 = 0) (tgt := 32) (rest := []) rfl (by decide) (fun c2 => ?_) (fun c2 => ?_)
      ·
        exact absurd c2 (by decide)
      ·
        refine wk_run C k_PR_acts_28 (pc2 := 29) (lv2 := [(4, .ref (uA (nu v1))), (3, .ref (uA (nu u))), (0, .ref x), (1, .int u), (2, .int v1)]) (st2 := [.int 1]) rfl ?_
        refine wk_goto C d_PR_acts_29 (tgt := 33) (by decide) ?_
        exact wk_zret C rfl (an_q hX (by clear C hX; grind [sp_acts])) (by decide) (by decide) d_PR_acts_33
theorem k_PR_surrogate_0 : px_dec prog_1_method_20_code [.aload_n 0, .iload_n 1] 0 = true := by decide +kernel
theorem d_PR_surrogate_2 : decode prog_1_method_20_code 2 = .ok (.invokevirtual 84, 3) := by decide +kernel
theorem k_PR_surrogate_5 : px_dec prog_1_method_20_code [.astore 4, .aload_n 0, .iload_n 2] 5 = true := by decide +kernel
theorem d_PR_surrogate_9 : decode prog_1_method_20_code 9 = .ok (.invokevirtual 84, 3) := by decide +kernel
theorem k_PR_surrogate_12 : px_dec prog_1_method_20_code [.astore 5, .aload 4, .aload 5] 12 = true := by decide +kernel
theorem d_PR_surrogate_18 : decode prog_1_method_20_code 18 = .ok (.if_acmp .eq 14, 3) := by decide +kernel
theorem k_PR_surrogate_32 : px_dec prog_1_method_20_code [.iconst 0] 32 = true := by decide +kernel
theorem d_PR_surrogate_33 : decode prog_1_method_20_code 33 = .ok (.ireturn, 1) := by decide +kernel
theorem k_PR_surrogate_21 : px_dec prog_1_method_20_code [.aload 4, .aload 5] 21 = true := by decide +kernel
theorem d_PR_surrogate_25 : decode prog_1_method_20_code 25 = .ok (.invokevirtual 208, 3) := by decide +kernel
theorem k_PR_surrogate_28 : px_dec prog_1_method_20_code [.iload_n 3] 28 = true := by decide +kernel
theorem d_PR_surrogate_29 : decode prog_1_method_20_code 29 = .ok (.if_icmp .ne 5, 3) := by decide +kernel
theorem k_PR_surrogate_34 : px_dec prog_1_method_20_code [.aload 4, .aload 5] 34 = true := by decide +kernel
theorem d_PR_surrogate_38 : decode prog_1_method_20_code 38 = .ok (.invokevirtual 212, 3) := by decide +kernel
theorem k_PR_surrogate_41 : px_dec prog_1_method_20_code [.iconst 1] 41 = true := by decide +kernel
theorem d_PR_surrogate_42 : decode prog_1_method_20_code 42 = .ok (.ireturn, 1) := by decide +kernel
set_option maxRecDepth 100000 in
set_option maxHeartbeats 4000000 in
theorem o_surrogate (l : Launch) (D : va_G) (HB : Heap) (h : hp_T) (hlt : l.stackTraces = false) (own : oT) (V : vT) (x : Nat) (u : Int32) (v1 : Int32) (b : Int32) (hX : cr D h own x V) (hW : wf V) (hb01 : b = 0 ∨ b = 1) : ct_M l y_PR_surrogate (.code y_PR_surrogate prog_1_method_20_code 6 (Option.some Jvm.ClassFile.FieldType.int)) ({ frames := 9, cells := 8, slots := 200, locals := 320 }) D HB [.ref x, .int u, .int v1, .int b] h (fun o h2 => an2 D h own x (sp_surrogate V u v1 b) o h2) := by
  refine ct_of (by decide) (Nat.le_of_ble_eq_true rfl) rfl ?_
  intro p_ e_ s_ m_ r_ b_ t_ c_ C hnm
  obtain ⟨gl, ul, pl, mo, aq, tr, gA, uA, pA, pn, pe, eB, sf, hO, hGL, hUL, hPL, hM, hN, hT, hG, hU, hB, hP⟩ := id hX
  obtain ⟨h7, h8, h9, h22, w1, w2, w21, w5, w6, w10, w13, w16, w4, wz, wy, wc⟩ := id hW
  refine wk_run C k_PR_surrogate_0 (pc2 := 2) (lv2 := [(0, .ref x), (1, .int u), (2, .int v1), (3, .int b)]) (st2 := [.int u, .ref x]) rfl ?_
  rcases (Classical.em (¬ u < 1 ∧ u ≤ V 8 0)).symm with hu | hu
  ·
    refine wk_callV (cl := ("ProfileRights", T_PR, 7)) (rest := []) C (k_userN l D HB h own V x gl ul pl mo aq tr (V 23 0) gA uA pA pn pe eB sf hO hUL h8 hlt u hu) cs_PR_84 kc_PR_userAt ki_PR hO.1 rfl rfl rfl (Nat.le_of_ble_eq_true rfl) (Nat.le_of_ble_eq_true rfl) (Nat.le_of_ble_eq_true rfl) (Nat.le_of_ble_eq_true rfl) (Nat.le_of_ble_eq_true rfl) d_PR_surrogate_2 (fun v h2 hq => ?_) (fun E h2 hq => by obtain ⟨e1, e2⟩ := hq; cases e1; replace e2 := e2.symm; subst e2; exact wx_out C (an_t hX (by clear C hX; grind [sp_surrogate])) (by decide) (by decide))
    exact nomatch hq.1
  refine wk_callV (cl := ("ProfileRights", T_PR, 7)) (rest := []) C (k_userY l D HB h own V x gl ul pl mo aq tr (V 23 0) gA uA pA pn pe eB sf hO hUL h8 hU u hu) cs_PR_84 kc_PR_userAt ki_PR hO.1 rfl rfl rfl (Nat.le_of_ble_eq_true rfl) (Nat.le_of_ble_eq_true rfl) (Nat.le_of_ble_eq_true rfl) (Nat.le_of_ble_eq_true rfl) (Nat.le_of_ble_eq_true rfl) d_PR_surrogate_2 (fun v h2 hq => ?_) (fun _ _ z => nomatch z.1)
  obtain ⟨e1, e2⟩ := hq; cases e1; replace e2 := e2.symm; subst e2
  show Wk _ _ _ _ _ _ _ _ _ _ _ _ _ _ _ _ _ _ _ (.ref (uA (nu u)) :: _)
  have khu : 1 ≤ nu u ∧ nu u ≤ nu (V 8 0) := by have z := ok_u (n := nu (V 8 0)) (by rw [← h8.1]; exact hu) (by have := h8.2; omega); exact ⟨z.1, z.2.1⟩
  have ohu := (hU (nu u) khu.1 khu.2).1
  refine wk_run C k_PR_surrogate_5 (pc2 := 9) (lv2 := [(4, .ref (uA (nu u))), (0, .ref x), (1, .int u), (2, .int v1), (3, .int b)]) (st2 := [.int v1, .ref x]) rfl ?_
  rcases (Classical.em (¬ v1 < 1 ∧ v1 ≤ V 8 0)).symm with hv | hv
  ·
    refine wk_callV (cl := ("ProfileRights", T_PR, 7)) (rest := []) C (k_userN l D HB h own V x gl ul pl mo aq tr (V 23 0) gA uA pA pn pe eB sf hO hUL h8 hlt v1 hv) cs_PR_84 kc_PR_userAt ki_PR hO.1 rfl rfl rfl (Nat.le_of_ble_eq_true rfl) (Nat.le_of_ble_eq_true rfl) (Nat.le_of_ble_eq_true rfl) (Nat.le_of_ble_eq_true rfl) (Nat.le_of_ble_eq_true rfl) d_PR_surrogate_9 (fun v h2 hq => ?_) (fun E h2 hq => by obtain ⟨e1, e2⟩ := hq; cases e1; replace e2 := e2.symm; subst e2; exact wx_out C (an_t hX (by clear C hX; grind [sp_surrogate])) (by decide) (by decide))
    exact nomatch hq.1
  refine wk_callV (cl := ("ProfileRights", T_PR, 7)) (rest := []) C (k_userY l D HB h own V x gl ul pl mo aq tr (V 23 0) gA uA pA pn pe eB sf hO hUL h8 hU v1 hv) cs_PR_84 kc_PR_userAt ki_PR hO.1 rfl rfl rfl (Nat.le_of_ble_eq_true rfl) (Nat.le_of_ble_eq_true rfl) (Nat.le_of_ble_eq_true rfl) (Nat.le_of_ble_eq_true rfl) (Nat.le_of_ble_eq_true rfl) d_PR_surrogate_9 (fun v h2 hq => ?_) (fun _ _ z => nomatch z.1)
  obtain ⟨e1, e2⟩ := hq; cases e1; replace e2 := e2.symm; subst e2
  show Wk _ _ _ _ _ _ _ _ _ _ _ _ _ _ _ _ _ _ _ (.ref (uA (nu v1)) :: _)
  have khv : 1 ≤ nu v1 ∧ nu v1 ≤ nu (V 8 0) := by have z := ok_u (n := nu (V 8 0)) (by rw [← h8.1]; exact hv) (by have := h8.2; omega); exact ⟨z.1, z.2.1⟩
  have ohv := (hU (nu v1) khv.1 khv.2).1
  refine wk_run C k_PR_surrogate_12 (pc2 := 18) (lv2 := [(5, .ref (uA (nu v1))), (4, .ref (uA (nu u))), (0, .ref x), (1, .int u), (2, .int v1), (3, .int b)]) (st2 := [.ref (uA (nu v1)), .ref (uA (nu u))]) rfl ?_
  have eu : u = nI (nu u) := (ok_r hu.1 hu.2 h8 (by decide)).1
  have ev : v1 = nI (nu v1) := (ok_r hv.1 hv.2 h8 (by decide)).1
  have e40 := h8.2
  have hb := hB (nu u) (nu v1) khu.1 khu.2 (by omega)
  have h01 := w6 (41 * nu u + nu v1)
  refine wk_aeq C d_PR_surrogate_18 (tgt := 32) (by decide) (fun c1 => ?_) (fun c1 => ?_)
  ·
    have euv : u = v1 := by rw [eu, ev, cU_i hU khu khv c1]
    refine wk_run C k_PR_surrogate_32 (pc2 := 33) (lv2 := [(5, .ref (uA (nu v1))), (4, .ref (uA (nu u))), (0, .ref x), (1, .int u), (2, .int v1), (3, .int b)]) (st2 := [.int 0]) rfl ?_
    exact wk_iret C (an_q hX (by clear C hX; grind [sp_surrogate])) (by decide) (by decide) d_PR_surrogate_33
  ·
    have nuv : ¬ u = v1 := fun z => c1 (by rw [z])
    refine wk_run C k_PR_surrogate_21 (pc2 := 25) (lv2 := [(5, .ref (uA (nu v1))), (4, .ref (uA (nu u))), (0, .ref x), (1, .int u), (2, .int v1), (3, .int b)]) (st2 := [.ref (uA (nu v1)), .ref (uA (nu u))]) rfl ?_
    refine wk_callV (cl := ("ProfileRights$User", T_US, 6)) (rest := []) C (c_US_standsFor l D HB h (uA (nu u)) (uA (nu v1)) _ _ _ _ _ _ _ _ _ _ _ _ ohu ohv) cs_PR_208 kc_US_standsFor ki_US ohu rfl rfl rfl (Nat.le_of_ble_eq_true rfl) (Nat.le_of_ble_eq_true rfl) (Nat.le_of_ble_eq_true rfl) (Nat.le_of_ble_eq_true rfl) (Nat.le_of_ble_eq_true rfl) d_PR_surrogate_25 (fun v h2 hq => ?_) (fun _ _ z => nomatch z.1)
    obtain ⟨e1, e2⟩ := hq; cases e1; replace e2 := e2.symm; subst e2
    have e6 : (if (sf (nu u) >>> ((nI (nu v1)).toInt64 &&& 63)) &&& 1 = 0 then (0 : Int32) else 1) = V 6 (41 * nu u + nu v1) := by rcases h01 with z | z; rw [if_pos (hb.mpr z), z]; rw [if_neg (fun y => by rw [hb.mp y] at z; exact absurd z (by decide)), z]
    rw [e6]
    refine wk_run C k_PR_surrogate_28 (pc2 := 29) (lv2 := [(5, .ref (uA (nu v1))), (4, .ref (uA (nu u))), (0, .ref x), (1, .int u), (2, .int v1), (3, .int b)]) (st2 := [.int b, .int (V 6 (41 * nu u + nu v1))]) rfl ?_
    refine wk_br C d_PR_surrogate_29 (P := ¬ (V 6 (41 * nu u + nu v1)) = b) (tgt := 34) (rest := []) rfl (by decide) (fun c2 => ?_) (fun c2 => ?_)
    ·
      refine wk_run C k_PR_surrogate_34 (pc2 := 38) (lv2 := [(5, .ref (uA (nu v1))), (4, .ref (uA (nu u))), (0, .ref x), (1, .int u), (2, .int v1), (3, .int b)]) (st2 := [.ref (uA (nu v1)), .ref (uA (nu u))]) rfl ?_
      refine wk_callV (cl := ("ProfileRights$User", T_US, 6)) (rest := []) C (c_US_toggleStandingFor l D HB h (uA (nu u)) (uA (nu v1)) _ _ _ _ _ _ _ _ _ _ _ _ ohu ohv) cs_PR_212 kc_US_toggleStandingFor ki_US ohu rfl rfl rfl (Nat.le_of_ble_eq_true rfl) (Nat.le_of_ble_eq_true rfl) (Nat.le_of_ble_eq_true rfl) (Nat.le_of_ble_eq_true rfl) (Nat.le_of_ble_eq_true rfl) d_PR_surrogate_38 (fun v h2 hq => ?_) (fun _ _ z => nomatch z.1)
      obtain ⟨e1, e2⟩ := hq; cases e1; replace e2 := e2.symm; subst e2
      refine wk_run C k_PR_surrogate_41 (pc2 := 42) (lv2 := [(5, .ref (uA (nu v1))), (4, .ref (uA (nu u))), (0, .ref x), (1, .int u), (2, .int v1), (3, .int b)]) (st2 := [.int 1]) rfl ?_
      have hr : sp_surrogate V u v1 b = (0, 1, vs (vc V 0 0) 6 (upd (V 6) (41 * nu u + nu v1) b)) := by clear C hX; grind [sp_surrogate]
      have s : st_ [21] h own (hp_up h (uA (nu u)) (.inr (2, [.int (nI (nu u)), .ref (gA (nu (V 2 (nu u)))), .int (V 3 (nu u)), .int (V 4 (nu u)), .int (V 5 (nu u)), .long (sf (nu u) ^^^ (1 <<< ((nI (nu v1)).toInt64 &&& 63)))]))) own := st_u (t := 21) (by rw [(hU (nu u) khu.1 khu.2).2]) (by decide)
      obtain ⟨sf2, hs2⟩ : ∃ sf2 : Nat → Int64, sf2 = fun k => if k = nu u then sf (nu u) ^^^ (1 <<< ((nI (nu v1)).toInt64 &&& 63)) else sf k := ⟨_, rfl⟩
      have es : sf2 (nu u) = sf (nu u) ^^^ (1 <<< ((nI (nu v1)).toInt64 &&& 63)) := by rw [hs2]; exact if_pos rfl
      have en : ∀ k, k ≠ nu u → sf2 k = sf k := fun k hk => by rw [hs2]; exact if_neg hk
      have hU2 : cU (hp_up h (uA (nu u)) (.inr (2, [.int (nI (nu u)), .ref (gA (nu (V 2 (nu u)))), .int (V 3 (nu u)), .int (V 4 (nu u)), .int (V 5 (nu u)), .long (sf (nu u) ^^^ (1 <<< ((nI (nu v1)).toInt64 &&& 63)))]))) own (nu (V 8 0)) gA uA sf2 (vs (vc V 0 0) 6 (upd (V 6) (41 * nu u + nu v1) b)) := cU_u hU khu (vs (vc V 0 0) 6 (upd (V 6) (41 * nu u + nu v1) b)) sf2 (by rw [es]; rfl) (fun j hj => ⟨rfl, rfl, rfl, rfl, en j hj⟩)
      have hB2 : cB (nu (V 8 0)) sf2 (vs (vc V 0 0) 6 (upd (V 6) (41 * nu u + nu v1) b)) := by
        intro k j k1 k2 hj
        have hkj := hB k j k1 k2 hj
        show _ ↔ upd (V 6) (41 * nu u + nu v1) b (41 * k + j) = 0
        by_cases z : k = nu u
        · subst z
          rw [es, bl_t _ (by omega) hj]
          by_cases z2 : j = nu v1
          · subst z2; rw [if_pos rfl, upd_s, hkj]; clear C hX; grind
          · rw [if_neg z2, upd_n (by omega)]; exact hkj
        · rw [en k z, upd_n (by omega)]; exact hkj
      exact wk_iret C (an_o (V2 := vs (vc V 0 0) 6 (upd (V 6) (41 * nu u + nu v1) b)) ⟨gl, ul, pl, mo, aq, tr, gA, uA, pA, pn, pe, eB, sf2, cO_m hO s (by decide), cL_m hGL s (by decide) (by decide), cL_m hUL s (by decide) (by decide), cL_m hPL s (by decide) (by decide), cM_m hM s (by decide), cN_m hN s (by decide) (by decide), cT_m hT s (by decide) (by decide), cG_m hG s (by decide), hU2, hB2, cP_m hP s (by decide) (by decide) (by decide) (by decide) (by decide) (by decide)⟩ (st_so s (by decide)) hr) (by decide) (by decide) d_PR_surrogate_42
    ·
      refine wk_run C k_PR_surrogate_32 (pc2 := 33) (lv2 := [(5, .ref (uA (nu v1))), (4, .ref (uA (nu u))), (0, .ref x), (1, .int u), (2, .int v1), (3, .int b)]) (st2 := [.int 0]) rfl ?_
      exact wk_iret C (an_q hX (by clear C hX; grind [sp_surrogate])) (by decide) (by decide) d_PR_surrogate_33
