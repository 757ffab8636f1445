theorem cL_add {D : va_G} {h h2 : hp_T} {own : oT} {t i a b b2 n y : Nat} {f : Nat → Nat} (k0 : al_ok D h a b n f) (ha : own a = (t, i)) (hob : (n = 0 ∧ b = D.2 200 0) ∨ own b = (t + 100, i)) (nb : ∀ q x, h q = some x → q ≠ D.2 200 0) (nb2 : ∀ q x, h2 q = some x → q ≠ D.2 200 0) (k : al_ok D h2 a b2 (n + 1) (al_cat f n y)) (kb : b2 = b ∨ h b2 = none) (fr : al_fr h h2 a b) : ∃ own2, cL D h2 own2 t i a (n + 1) (al_cat f n y) ∧ sx_ (fun u => u.2 = i ∧ u.1 ∈ [t, t + 100]) h own h2 own2 := by
  obtain ⟨md0, ha0, -⟩ := id k0
  have fr2 : ∀ q x, h q = some x → ¬ ((own q).2 = i ∧ (own q).1 ∈ [t, t + 100]) → h2 q = some x := by
    intro q x hx hq
    refine fr q x (fun z => hq (by rw [z, ha]; exact ⟨rfl, by simp⟩)) (fun z => ?_) hx
    rcases hob with ⟨-, e⟩ | e
    · exact nb q x hx (z.trans e)
    · exact hq (by rw [z, e]; exact ⟨rfl, by simp⟩)
  rcases kb with e | e
  · refine ⟨own, ⟨b2, k, ha, ?_⟩, fun q x hx hq => ⟨fr2 q x hx hq, rfl⟩⟩
    rcases hob with ⟨e1, e2⟩ | e2
    · exfalso
      obtain ⟨md, -, hb⟩ := k
      rcases hb with ⟨z, -⟩ | ⟨cap, g, hb, -⟩
      · omega
      · exact nb2 _ _ hb (e.trans e2)
    · rw [e]; exact Or.inr e2
  · refine ⟨ou own b2 (t + 100, i), ⟨b2, k, ?_, Or.inr ou_s⟩, fun q x hx hq => ⟨fr2 q x hx hq, ?_⟩⟩
    · rw [ou_n (fun z => by rw [← z, ha0] at e; cases e)]; exact ha
    · exact ou_n (fun z => by rw [z, e] at hx; cases hx)
theorem lNx {x : Int32} {n : Nat} (h : ok_ x n) (h2 : ¬ x < nI n) (hn : n < 2 ^ 31) : x = nI n := by
  have h3 := h.2
  rw [Int32.lt_iff_toInt_lt, ok_int h hn, nI_toInt hn] at h2
  rw [h.1, show nu x = n by omega]
theorem lMx {x : Int32} {n : Nat} (h : ok_ x n) (h2 : x < nI n) (hn : n < 2 ^ 31) : nu x < n := by
  rw [Int32.lt_iff_toInt_lt, ok_int h hn, nI_toInt hn] at h2
  omega
theorem pv_c {gA gA2 : Nat → Nat} {z : Int32} (h : gA2 (nu z) = gA (nu z)) : pv_ gA2 z = pv_ gA z := by
  unfold pv_
  rw [h]
def up1 (f : Nat → Nat) (k y : Nat) : Nat → Nat := fun j => if j = k then y else f j
theorem up1_s {f : Nat → Nat} {k y : Nat} : up1 f k y k = y := if_pos rfl
theorem up1_n {f : Nat → Nat} {k y j : Nat} (h : j ≠ k) : up1 f k y j = f j := if_neg h
theorem up1_cat (f : Nat → Nat) (n y : Nat) : (fun k => up1 f (n + 1) y (k + 1)) = al_cat (fun k => f (k + 1)) n y := by
  funext k
  show (if k + 1 = n + 1 then y else f (k + 1)) = if k = n then y else f (k + 1)
  by_cases z : k = n
  · rw [if_pos z, if_pos (by omega)]
  · rw [if_neg z, if_neg (by omega)]
def up2 {α : Type} (f : Nat → α) (k : Nat) (y : α) : Nat → α := fun j => if j = k then y else f j
theorem up2_s {α : Type} {f : Nat → α} {k : Nat} {y : α} : up2 f k y k = y := if_pos rfl
theorem up2_n {α : Type} {f : Nat → α} {k j : Nat} {y : α} (h : j ≠ k) : up2 f k y j = f j := if_neg h
theorem cG_add {h : hp_T} {own : oT} {n y : Nat} {gA : Nat → Nat} {V V2 : vT} (hG : cG h own n gA V) (hy : h y = some (.inr (1, [.int (nI (n + 1)), pv_ gA (V2 1 (n + 1))]))) (ho : own y = (20, n + 1)) (h1 : ∀ k, k ≠ n + 1 → V2 1 k = V 1 k) (hk : ∀ k, ok_ (V2 1 k) n) : cG h own (n + 1) (up1 gA (n + 1) y) V2 := by
  intro k k1 k2
  rw [pv_c (gA := gA) (up1_n (by have := (hk k).2; omega))]
  by_cases z : k = n + 1
  · subst z; rw [up1_s]; exact ⟨hy, ho⟩
  · rw [up1_n z, h1 k z]; exact hG k k1 (by omega)
theorem cU_g {h : hp_T} {own : oT} {n m y : Nat} {gA uA : Nat → Nat} {sf : Nat → Int64} {V : vT} (hU : cU h own m gA uA sf V) (hk : ∀ k, ok_ (V 2 k) n) : cU h own m (up1 gA (n + 1) y) uA sf V := by
  intro k k1 k2
  rw [up1_n (by have := (hk k).2; omega)]
  exact hU k k1 k2
theorem cU_add {h : hp_T} {own : oT} {n y : Nat} {gA uA : Nat → Nat} {sf : Nat → Int64} {V V2 : vT} (hU : cU h own n gA uA sf V) (hy : h y = some (.inr (2, [.int (nI (n + 1)), .ref (gA (nu (V2 2 (n + 1)))), .int (V2 3 (n + 1)), .int (V2 4 (n + 1)), .int (V2 5 (n + 1)), .long 0]))) (ho : own y = (21, n + 1)) (h1 : ∀ k, k ≠ n + 1 → V2 2 k = V 2 k ∧ V2 3 k = V 3 k ∧ V2 4 k = V 4 k ∧ V2 5 k = V 5 k) : cU h own (n + 1) gA (up1 uA (n + 1) y) (up2 sf (n + 1) 0) V2 := by
  intro k k1 k2
  by_cases z : k = n + 1
  · subst z; rw [up1_s, up2_s]; exact ⟨hy, ho⟩
  · obtain ⟨a1, a2, a3, a4⟩ := h1 k z
    rw [up1_n z, up2_n z, a1, a2, a3, a4]; exact hU k k1 (by omega)
theorem cP_add {D : va_G} {h : hp_T} {own : oT} {n y pn0 pe0 : Nat} {e0 : Nat → Nat} {pA pn pe : Nat → Nat} {eA : Nat → Nat → Nat} {V V2 : vT} (hP : cP D h own n pA pn pe eA V) (hq : cQ D h own (n + 1) y pn0 pe0 e0 V2) (h1 : ∀ k, k ≠ n + 1 → qe_ V V2 k) (hE : ∀ k, ok_ (V 16 k) 10) : cP D h own (n + 1) (up1 pA (n + 1) y) (up1 pn (n + 1) pn0) (up1 pe (n + 1) pe0) (up2 eA (n + 1) e0) V2 := by
  intro k k1 k2
  by_cases z : k = n + 1
  · subst z; rw [up1_s, up1_s, up1_s, up2_s]; exact hq
  · rw [up1_n z, up1_n z, up1_n z, up2_n z]; exact cQ_e (hP k k1 (by omega)) (h1 k z) (hE k).2
theorem ok_0n {V : vT} {g : Int32} (hG : ok_ (V 7 0) 20) (h : g = 0 ∨ ¬ g < 1 ∧ g ≤ V 7 0) : ok_ g (nu (V 7 0)) := by
  have h2 := hG.2
  rcases h with rfl | h
  · exact ok_nI (m := 0) (by omega) (by omega)
  · have k := ok_r h.1 h.2 hG (by decide)
    have k3 := h.2
    rw [Int32.le_iff_toInt_le, ok_int k (by decide), ok_int hG (by decide)] at k3
    exact ⟨k.1, by omega⟩
theorem k_PR_group_0 : px_dec prog_1_method_2_code [.aload_n 0, .iload_n 1] 0 = true := by decide +kernel
theorem d_PR_group_2 : decode prog_1_method_2_code 2 = .ok (.invokevirtual 44, 3) := by decide +kernel
theorem k_PR_group_5 : px_dec prog_1_method_2_code [.astore_n 2, .aload_n 0] 5 = true := by decide +kernel
theorem d_PR_group_7 : decode prog_1_method_2_code 7 = .ok (.getfield 12, 3) := by decide +kernel
theorem d_PR_group_10 : decode prog_1_method_2_code 10 = .ok (.invokevirtual 48, 3) := by decide +kernel
theorem k_PR_group_13 : px_dec prog_1_method_2_code [.bipush 20] 13 = true := by decide +kernel
theorem d_PR_group_15 : decode prog_1_method_2_code 15 = .ok (.if_icmp .lt 13, 3) := by decide +kernel
theorem k_PR_group_28 : px_dec prog_1_method_2_code [.aload_n 0] 28 = true := by decide +kernel
theorem d_PR_group_29 : decode prog_1_method_2_code 29 = .ok (.getfield 12, 3) := by decide +kernel
theorem d_PR_group_32 : decode prog_1_method_2_code 32 = .ok (.new 59, 3) := by decide +kernel
theorem k_PR_group_35 : px_dec prog_1_method_2_code [.dup, .aload_n 0] 35 = true := by decide +kernel
theorem d_PR_group_37 : decode prog_1_method_2_code 37 = .ok (.getfield 12, 3) := by decide +kernel
theorem d_PR_group_40 : decode prog_1_method_2_code 40 = .ok (.invokevirtual 48, 3) := by decide +kernel
theorem k_PR_group_43 : px_dec prog_1_method_2_code [.iconst 1, .iadd, .aload_n 2] 43 = true := by decide +kernel
theorem d_PR_group_46 : decode prog_1_method_2_code 46 = .ok (.invokespecial 61, 3) := by decide +kernel
theorem d_PR_group_49 : decode prog_1_method_2_code 49 = .ok (.invokevirtual 64, 3) := by decide +kernel
theorem k_PR_group_52 : px_dec prog_1_method_2_code [.pop, .aload_n 0] 52 = true := by decide +kernel
theorem d_PR_group_54 : decode prog_1_method_2_code 54 = .ok (.getfield 12, 3) := by decide +kernel
theorem d_PR_group_57 : decode prog_1_method_2_code 57 = .ok (.invokevirtual 48, 3) := by decide +kernel
theorem d_PR_group_60 : decode prog_1_method_2_code 60 = .ok (.ireturn, 1) := by decide +kernel
theorem d_PR_group_18 : decode prog_1_method_2_code 18 = .ok (.new 52, 3) := by decide +kernel
theorem d_PR_group_21 : decode prog_1_method_2_code 21 = .ok (.dup, 1) := by decide +kernel
theorem d_PR_group_22 : decode prog_1_method_2_code 22 = .ok (.ldc 54, 2) := by decide +kernel
theorem d_PR_group_24 : decode prog_1_method_2_code 24 = .ok (.invokespecial 56, 3) := by decide +kernel
theorem d_PR_group_27 : decode prog_1_method_2_code 27 = .ok (.athrow, 1) := by decide +kernel
set_option maxRecDepth 100000 in
set_option maxHeartbeats 4000000 in
theorem o_group (l : Launch) (D : va_G) (HB : Heap) (h : hp_T) (hlt : l.stackTraces = false) (own : oT) (V : vT) (x : Nat) (g : Int32) (hX : cr D h own x V) (hW : wf V) : ct_M l y_PR_group (.code y_PR_group prog_1_method_2_code 3 (Option.some Jvm.ClassFile.FieldType.int)) ({ frames := 9, cells := 8, slots := 200, locals := 320 }) D HB [.ref x, .int g] h (fun o h2 => an2 D h own x (sp_group V g) o h2) := by
  refine ct_of (by decide) (Nat.le_of_ble_eq_true rfl) rfl ?_
  intro p_ e_ s_ m_ r_ b_ t_ c_ C hnm
  obtain ⟨gl, ul, pl, mo, aq, tr, gA, uA, pA, pn, pe, eB, sf, hO, hGL, hUL, hPL, hM, hN, hT, hG, hU, hB, hP⟩ := id hX
  obtain ⟨h7, h8, h9, h22, w1, w2, w21, w5, w6, w10, w13, w16, w4, wz, wy, wc⟩ := id hW
  refine wk_run C k_PR_group_0 (pc2 := 2) (lv2 := [(0, .ref x), (1, .int g)]) (st2 := [.int g, .ref x]) rfl ?_
  rcases (Classical.em (g = 0 ∨ ¬ g < 1 ∧ g ≤ V 7 0)).symm with hg | hg
  ·
    refine wk_callV (cl := ("ProfileRights", T_PR, 7)) (rest := []) C (k_gonN l D HB h own V x gl ul pl mo aq tr (V 23 0) gA uA pA pn pe eB sf hO hGL h7 hlt g hg) cs_PR_44 kc_PR_groupOrNone ki_PR hO.1 rfl rfl rfl (Nat.le_of_ble_eq_true rfl) (Nat.le_of_ble_eq_true rfl) (Nat.le_of_ble_eq_true rfl) (Nat.le_of_ble_eq_true rfl) (Nat.le_of_ble_eq_true rfl) d_PR_group_2 (fun v h2 hq => ?_) (fun E h2 hq => by obtain ⟨e1, e2⟩ := hq; cases e1; replace e2 := e2.symm; subst e2; exact wx_out C (an_t hX (by clear C hX; grind [sp_group])) (by decide) (by decide))
    exact nomatch hq.1
  refine wk_callV (cl := ("ProfileRights", T_PR, 7)) (rest := []) C (k_gonY l D HB h own V x gl ul pl mo aq tr (V 23 0) gA uA pA pn pe eB sf hO hGL h7 hG g hg) cs_PR_44 kc_PR_groupOrNone ki_PR hO.1 rfl rfl rfl (Nat.le_of_ble_eq_true rfl) (Nat.le_of_ble_eq_true rfl) (Nat.le_of_ble_eq_true rfl) (Nat.le_of_ble_eq_true rfl) (Nat.le_of_ble_eq_true rfl) d_PR_group_2 (fun v h2 hq => ?_) (fun _ _ z => nomatch z.1)
  obtain ⟨e1, e2⟩ := hq; cases e1; replace e2 := e2.symm; subst e2
  have kg : ok_ g (nu (V 7 0)) := ok_0n h7 hg
  rcases Classical.em (g = 0) with hz | hz
  ·
    rw [pv_0 hz]
    refine wk_run C k_PR_group_5 (pc2 := 7) (lv2 := [(2, .null), (0, .ref x), (1, .int g)]) (st2 := [.ref x]) rfl ?_
    refine wk_get C fd_PR_12 hO.1 rfl d_PR_group_7 ?_
    obtain ⟨b0, hb0, ob0, ob00⟩ := id hGL
    obtain ⟨md0, hl0, -⟩ := id hb0
    refine wk_callV (cl := ("java/util/ArrayList", T_AL, 3)) (rest := []) C (al_size l HB hb0) cs_PR_48 kc_AL_size ki_AL hl0 rfl rfl rfl (Nat.le_of_ble_eq_true rfl) (Nat.le_of_ble_eq_true rfl) (Nat.le_of_ble_eq_true rfl) (Nat.le_of_ble_eq_true rfl) (Nat.le_of_ble_eq_true rfl) d_PR_group_10 (fun v h2 hq => ?_) (fun _ _ z => nomatch z.1)
    obtain ⟨e1, e2⟩ := hq; cases e1; replace e2 := e2.symm; subst e2
    rw [← h7.1]
    refine wk_run C k_PR_group_13 (pc2 := 15) (lv2 := [(2, .null), (0, .ref x), (1, .int g)]) (st2 := [.int 20, .int (V 7 0)]) rfl ?_
    refine wk_br C d_PR_group_15 (P := (V 7 0) < 20) (tgt := 28) (rest := []) rfl (by decide) (fun cN => ?_) (fun cN => ?_)
    ·
      have kn : nu (V 7 0) < 20 := lMx h7 cN (by decide)
      have kp := ok_p h7 (fun z => by rw [z] at cN; exact absurd cN (by decide)) (by decide)
      have e3 : V 7 0 + 1 = nI (nu (V 7 0) + 1) := by rw [← kp.2]; exact kp.1.1
      refine wk_run C k_PR_group_28 (pc2 := 29) (lv2 := [(2, .null), (0, .ref x), (1, .int g)]) (st2 := [.ref x]) rfl ?_
      refine wk_get C fd_PR_12 hO.1 rfl d_PR_group_29 ?_
      refine wk_new C nw_PR_59 (Nat.le_of_ble_eq_true rfl) (Nat.le_of_ble_eq_true rfl) d_PR_group_32 (fun y hy => ?_)
      refine wk_run C k_PR_group_35 (pc2 := 37) (lv2 := [(2, .null), (0, .ref x), (1, .int g)]) (st2 := [.ref x, .ref y, .ref y, .ref gl]) rfl ?_
      have s1 := st_n (L := []) (own := own) (x := .inr (1, [.int 0, .null])) (t := (20, nu (V 7 0) + 1)) hy
      have hO1 := cO_m hO s1 (by decide)
      have hL1 := cL_m hGL s1 (by decide) (by decide)
      refine wk_get C fd_PR_12 hO1.1 rfl d_PR_group_37 ?_
      obtain ⟨b1, hb1, -, -⟩ := id hL1
      obtain ⟨md1, hl1, -⟩ := id hb1
      refine wk_callV (cl := ("java/util/ArrayList", T_AL, 3)) (rest := [.ref y, .ref y, .ref gl]) C (al_size l HB hb1) cs_PR_48 kc_AL_size ki_AL hl1 rfl rfl rfl (Nat.le_of_ble_eq_true rfl) (Nat.le_of_ble_eq_true rfl) (Nat.le_of_ble_eq_true rfl) (Nat.le_of_ble_eq_true rfl) (Nat.le_of_ble_eq_true rfl) d_PR_group_40 (fun v h2 hq => ?_) (fun _ _ z => nomatch z.1)
      obtain ⟨e1, e2⟩ := hq; cases e1; replace e2 := e2.symm; subst e2
      rw [← h7.1]
      refine wk_run C k_PR_group_43 (pc2 := 46) (lv2 := [(2, .null), (0, .ref x), (1, .int g)]) (st2 := [.null, .int ((V 7 0) + 1), .ref y, .ref y, .ref gl]) rfl ?_
      refine wk_callI (rest := [.ref y, .ref gl]) C (c_GR_initN l D HB _ y 0 (V 7 0 + 1) hp_us) cs_PR_61 kc_GR_init ki_GR rfl rfl (Nat.le_of_ble_eq_true rfl) (Nat.le_of_ble_eq_true rfl) (Nat.le_of_ble_eq_true rfl) (Nat.le_of_ble_eq_true rfl) (Nat.le_of_ble_eq_true rfl) d_PR_group_46 (fun v h2 hq => ?_) (fun _ _ z => nomatch z.1)
      obtain ⟨e1, e2⟩ := hq; cases e1; rw [hp_uu] at e2; replace e2 := e2.symm; subst e2
      have s2 := st_n (L := []) (own := own) (x := .inr (1, [.int (V 7 0 + 1), .null])) (t := (20, nu (V 7 0) + 1)) hy
      have hy2 : hp_up h y (.inr (1, [.int (V 7 0 + 1), .null])) y = some (.inr (1, [.int (V 7 0 + 1), .null])) := hp_us
      have hG2 := cG_m hG s2 (by decide)
      have hO2 := cO_m hO s2 (by decide)
      have hL2 := cL_m hGL s2 (by decide) (by decide)
      obtain ⟨b2, hb2, ob2, ob22⟩ := id hL2
      obtain ⟨md2, hl2, -⟩ := id hb2
      refine wk_nb C (fun nb => ?_)
      refine wk_callV (cl := ("java/util/ArrayList", T_AL, 3)) (rest := []) C (c_AL_add_0 l D HB _ gl b2 (nu (V 7 0)) y _ hb2 (by omega) (fun i hi => kx_ob 1 (by decide) (hG2 (i + 1) (by omega) (by omega)).1) (kx_ob 1 (by decide) hy2)) cs_PR_64 kc_AL_add_0 ki_AL hl2 rfl rfl rfl (Nat.le_of_ble_eq_true rfl) (Nat.le_of_ble_eq_true rfl) (Nat.le_of_ble_eq_true rfl) (Nat.le_of_ble_eq_true rfl) (Nat.le_of_ble_eq_true rfl) d_PR_group_49 (fun v h3 hq => ?_) (fun _ _ z => nomatch z.1)
      obtain ⟨e1, b3, kl, kb, kf⟩ := hq; cases e1
      refine wk_nb C (fun nb3 => ?_)
      obtain ⟨own3, hL3, s3⟩ := cL_add hb2 ob2 ob22 nb nb3 kl kb kf
      have t3 := sx_st s3
      have s : st_ [11, 11 + 100] h own h3 own3 := st_t (st_w s2 (fun _ z => nomatch z)) t3
      have hO3 := cO_m hO2 t3 (by decide)
      refine wk_run C k_PR_group_52 (pc2 := 54) (lv2 := [(2, .null), (0, .ref x), (1, .int g)]) (st2 := [.ref x]) rfl ?_
      refine wk_get C fd_PR_12 hO3.1 rfl d_PR_group_54 ?_
      obtain ⟨b4, hb4, -, -⟩ := id hL3
      obtain ⟨md4, hl4, -⟩ := id hb4
      refine wk_callV (cl := ("java/util/ArrayList", T_AL, 3)) (rest := []) C (al_size l HB hb4) cs_PR_48 kc_AL_size ki_AL hl4 rfl rfl rfl (Nat.le_of_ble_eq_true rfl) (Nat.le_of_ble_eq_true rfl) (Nat.le_of_ble_eq_true rfl) (Nat.le_of_ble_eq_true rfl) (Nat.le_of_ble_eq_true rfl) d_PR_group_57 (fun v h2 hq => ?_) (fun _ _ z => nomatch z.1)
      obtain ⟨e1, e2⟩ := hq; cases e1; replace e2 := e2.symm; subst e2
      rw [← e3]
      obtain ⟨V2, hV2⟩ : ∃ V2 : vT, V2 = vs (vc (vc V 0 0) 7 (V 7 0 + 1)) 1 (upd (V 1) (nu (V 7 0 + 1)) g) := ⟨_, rfl⟩
      have hr : sp_group V g = (0, V 7 0 + 1, V2) := by clear C hX; grind [sp_group]
      have eN : nu (V2 7 0) = nu (V 7 0) + 1 := by rw [hV2]; exact kp.2
      have ev : V2 1 = upd (V 1) (nu (V 7 0) + 1) g := by rw [hV2, ← kp.2]; rfl
      have ek : ∀ k, ok_ (V2 1 k) (nu (V 7 0)) := fun k => by rw [ev]; by_cases z : k = nu (V 7 0) + 1; rw [z, upd_s]; exact kg; rw [upd_n z]; exact w1 k
      have y3 := t3 y _ hy2 (by rw [ou_s]; simp)
      have hG4 : cG h3 own3 (nu (V2 7 0)) (up1 gA (nu (V 7 0) + 1) y) V2 := by rw [eN]; exact cG_add (cG_m hG2 t3 (by decide)) (by rw [ev, upd_s, pv_0 hz, ← e3]; exact y3.1) (by rw [y3.2, ou_s]) (fun k hk => by rw [ev, upd_n hk]) ek
      have hL4 : cL D h3 own3 11 0 gl (nu (V2 7 0)) (fun k => up1 gA (nu (V 7 0) + 1) y (k + 1)) := by rw [eN, up1_cat]; exact hL3
      subst hV2
      exact wk_iret C (an_o (V2 := vs (vc (vc V 0 0) 7 (V 7 0 + 1)) 1 (upd (V 1) (nu (V 7 0 + 1)) g)) ⟨gl, ul, pl, mo, aq, tr, up1 gA (nu (V 7 0) + 1) y, uA, pA, pn, pe, eB, sf, cO_m hO s (by decide), hL4, cL_m hUL s (by decide) (by decide), cL_m hPL s (by decide) (by decide), cM_m hM s (by decide), cN_m hN s (by decide) (by decide), cT_m hT s (by decide) (by decide), hG4, cU_g (cU_m hU s (by decide)) w2, hB, cP_m hP s (by decide) (by decide) (by decide) (by decide) (by decide) (by decide)⟩ (st_so s (by decide)) hr) (by decide) (by decide) d_PR_group_60
    ·
      have eN : V 7 0 = 20 := lNx h7 cN (by decide)
      exact wk_thrS C hlt (text := "no more groups") (is := 54) (by decide) d_PR_group_18 d_PR_group_21 d_PR_group_22 d_PR_group_24 d_PR_group_27 (by decide) (Nat.le_of_ble_eq_true rfl) (by decide) (by decide) (by decide) (by decide) (an_s hX (by clear C hX; grind [sp_group]))
  ·
    rw [pv_n hz]
    refine wk_run C k_PR_group_5 (pc2 := 7) (lv2 := [(2, .ref (gA (nu g))), (0, .ref x), (1, .int g)]) (st2 := [.ref x]) rfl ?_
    refine wk_get C fd_PR_12 hO.1 rfl d_PR_group_7 ?_
    obtain ⟨b0, hb0, ob0, ob00⟩ := id hGL
    obtain ⟨md0, hl0, -⟩ := id hb0
    refine wk_callV (cl := ("java/util/ArrayList", T_AL, 3)) (rest := []) C (al_size l HB hb0) cs_PR_48 kc_AL_size ki_AL hl0 rfl rfl rfl (Nat.le_of_ble_eq_true rfl) (Nat.le_of_ble_eq_true rfl) (Nat.le_of_ble_eq_true rfl) (Nat.le_of_ble_eq_true rfl) (Nat.le_of_ble_eq_true rfl) d_PR_group_10 (fun v h2 hq => ?_) (fun _ _ z => nomatch z.1)
    obtain ⟨e1, e2⟩ := hq; cases e1; replace e2 := e2.symm; subst e2
    rw [← h7.1]
    refine wk_run C k_PR_group_13 (pc2 := 15) (lv2 := [(2, .ref (gA (nu g))), (0, .ref x), (1, .int g)]) (st2 := [.int 20, .int (V 7 0)]) rfl ?_
    refine wk_br C d_PR_group_15 (P := (V 7 0) < 20) (tgt := 28) (rest := []) rfl (by decide) (fun cN => ?_) (fun cN => ?_)
    ·
      have kn : nu (V 7 0) < 20 := lMx h7 cN (by decide)
      have kp := ok_p h7 (fun z => by rw [z] at cN; exact absurd cN (by decide)) (by decide)
      have e3 : V 7 0 + 1 = nI (nu (V 7 0) + 1) := by rw [← kp.2]; exact kp.1.1
      refine wk_run C k_PR_group_28 (pc2 := 29) (lv2 := [(2, .ref (gA (nu g))), (0, .ref x), (1, .int g)]) (st2 := [.ref x]) rfl ?_
      refine wk_get C fd_PR_12 hO.1 rfl d_PR_group_29 ?_
      refine wk_new C nw_PR_59 (Nat.le_of_ble_eq_true rfl) (Nat.le_of_ble_eq_true rfl) d_PR_group_32 (fun y hy => ?_)
      refine wk_run C k_PR_group_35 (pc2 := 37) (lv2 := [(2, .ref (gA (nu g))), (0, .ref x), (1, .int g)]) (st2 := [.ref x, .ref y, .ref y, .ref gl]) rfl ?_
      have s1 := st_n (L := []) (own := own) (x := .inr (1, [.int 0, .null])) (t := (20, nu (V 7 0) + 1)) hy
      have hO1 := cO_m hO s1 (by decide)
      have hL1 := cL_m hGL s1 (by decide) (by decide)
      refine wk_get C fd_PR_12 hO1.1 rfl d_PR_group_37 ?_
      obtain ⟨b1, hb1, -, -⟩ := id hL1
      obtain ⟨md1, hl1, -⟩ := id hb1
      refine wk_callV (cl := ("java/util/ArrayList", T_AL, 3)) (rest := [.ref y, .ref y, .ref gl]) C (al_size l HB hb1) cs_PR_48 kc_AL_size ki_AL hl1 rfl rfl rfl (Nat.le_of_ble_eq_true rfl) (Nat.le_of_ble_eq_true rfl) (Nat.le_of_ble_eq_true rfl) (Nat.le_of_ble_eq_true rfl) (Nat.le_of_ble_eq_true rfl) d_PR_group_40 (fun v h2 hq => ?_) (fun _ _ z => nomatch z.1)
      obtain ⟨e1, e2⟩ := hq; cases e1; replace e2 := e2.symm; subst e2
      rw [← h7.1]
      refine wk_run C k_PR_group_43 (pc2 := 46) (lv2 := [(2, .ref (gA (nu g))), (0, .ref x), (1, .int g)]) (st2 := [.ref (gA (nu g)), .int ((V 7 0) + 1), .ref y, .ref y, .ref gl]) rfl ?_
      refine wk_callI (rest := [.ref y, .ref gl]) C (c_GR_initR l D HB _ y 0 (V 7 0 + 1) (gA (nu g)) hp_us) cs_PR_61 kc_GR_init ki_GR rfl rfl (Nat.le_of_ble_eq_true rfl) (Nat.le_of_ble_eq_true rfl) (Nat.le_of_ble_eq_true rfl) (Nat.le_of_ble_eq_true rfl) (Nat.le_of_ble_eq_true rfl) d_PR_group_46 (fun v h2 hq => ?_) (fun _ _ z => nomatch z.1)
      obtain ⟨e1, e2⟩ := hq; cases e1; rw [hp_uu] at e2; replace e2 := e2.symm; subst e2
      have s2 := st_n (L := []) (own := own) (x := .inr (1, [.int (V 7 0 + 1), .ref (gA (nu g))])) (t := (20, nu (V 7 0) + 1)) hy
      have hy2 : hp_up h y (.inr (1, [.int (V 7 0 + 1), .ref (gA (nu g))])) y = some (.inr (1, [.int (V 7 0 + 1), .ref (gA (nu g))])) := hp_us
      have hG2 := cG_m hG s2 (by decide)
      have hO2 := cO_m hO s2 (by decide)
      have hL2 := cL_m hGL s2 (by decide) (by decide)
      obtain ⟨b2, hb2, ob2, ob22⟩ := id hL2
      obtain ⟨md2, hl2, -⟩ := id hb2
      refine wk_nb C (fun nb => ?_)
      refine wk_callV (cl := ("java/util/ArrayList", T_AL, 3)) (rest := []) C (c_AL_add_0 l D HB _ gl b2 (nu (V 7 0)) y _ hb2 (by omega) (fun i hi => kx_ob 1 (by decide) (hG2 (i + 1) (by omega) (by omega)).1) (kx_ob 1 (by decide) hy2)) cs_PR_64 kc_AL_add_0 ki_AL hl2 rfl rfl rfl (Nat.le_of_ble_eq_true rfl) (Nat.le_of_ble_eq_true rfl) (Nat.le_of_ble_eq_true rfl) (Nat.le_of_ble_eq_true rfl) (Nat.le_of_ble_eq_true rfl) d_PR_group_49 (fun v h3 hq => ?_) (fun _ _ z => nomatch z.1)
      obtain ⟨e1, b3, kl, kb, kf⟩ := hq; cases e1
      refine wk_nb C (fun nb3 => ?_)
      obtain ⟨own3, hL3, s3⟩ := cL_add hb2 ob2 ob22 nb nb3 kl kb kf
      have t3 := sx_st s3
      have s : st_ [11, 11 + 100] h own h3 own3 := st_t (st_w s2 (fun _ z => nomatch z)) t3
      have hO3 := cO_m hO2 t3 (by decide)
      refine wk_run C k_PR_group_52 (pc2 := 54) (lv2 := [(2, .ref (gA (nu g))), (0, .ref x), (1, .int g)]) (st2 := [.ref x]) rfl ?_
      refine wk_get C fd_PR_12 hO3.1 rfl d_PR_group_54 ?_
      obtain ⟨b4, hb4, -, -⟩ := id hL3
      obtain ⟨md4, hl4, -⟩ := id hb4
      refine wk_callV (cl := ("java/util/ArrayList", T_AL, 3)) (rest := []) C (al_size l HB hb4) cs_PR_48 kc_AL_size ki_AL hl4 rfl rfl rfl (Nat.le_of_ble_eq_true rfl) (Nat.le_of_ble_eq_true rfl) (Nat.le_of_ble_eq_true rfl) (Nat.le_of_ble_eq_true rfl) (Nat.le_of_ble_eq_true rfl) d_PR_group_57 (fun v h2 hq => ?_) (fun _ _ z => nomatch z.1)
      obtain ⟨e1, e2⟩ := hq; cases e1; replace e2 := e2.symm; subst e2
      rw [← e3]
      obtain ⟨V2, hV2⟩ : ∃ V2 : vT, V2 = vs (vc (vc V 0 0) 7 (V 7 0 + 1)) 1 (upd (V 1) (nu (V 7 0 + 1)) g) := ⟨_, rfl⟩
      have hr : sp_group V g = (0, V 7 0 + 1, V2) := by clear C hX; grind [sp_group]
      have eN : nu (V2 7 0) = nu (V 7 0) + 1 := by rw [hV2]; exact kp.2
      have ev : V2 1 = upd (V 1) (nu (V 7 0) + 1) g := by rw [hV2, ← kp.2]; rfl
      have ek : ∀ k, ok_ (V2 1 k) (nu (V 7 0)) := fun k => by rw [ev]; by_cases z : k = nu (V 7 0) + 1; rw [z, upd_s]; exact kg; rw [upd_n z]; exact w1 k
      have y3 := t3 y _ hy2 (by rw [ou_s]; simp)
      have hG4 : cG h3 own3 (nu (V2 7 0)) (up1 gA (nu (V 7 0) + 1) y) V2 := by rw [eN]; exact cG_add (cG_m hG2 t3 (by decide)) (by rw [ev, upd_s, pv_n hz, ← e3]; exact y3.1) (by rw [y3.2, ou_s]) (fun k hk => by rw [ev, upd_n hk]) ek
      have hL4 : cL D h3 own3 11 0 gl (nu (V2 7 0)) (fun k => up1 gA (nu (V 7 0) + 1) y (k + 1)) := by rw [eN, up1_cat]; exact hL3
      subst hV2
      exact wk_iret C (an_o (V2 := vs (vc (vc V 0 0) 7 (V 7 0 + 1)) 1 (upd (V 1) (nu (V 7 0 + 1)) g)) ⟨gl, ul, pl, mo, aq, tr, up1 gA (nu (V 7 0) + 1) y, uA, pA, pn, pe, eB, sf, cO_m hO s (by decide), hL4, cL_m hUL s (by decide) (by decide), cL_m hPL s (by decide) (by decide), cM_m hM s (by decide), cN_m hN s (by decide) (by decide), cT_m hT s (by decide) (by decide), hG4, cU_g (cU_m hU s (by decide)) w2, hB, cP_m hP s (by decide) (by decide) (by decide) (by decide) (by decide) (by decide)⟩ (st_so s (by decide)) hr) (by decide) (by decide) d_PR_group_60
    ·
      have eN : V 7 0 = 20 := lNx h7 cN (by decide)
      exact wk_thrS C hlt (text := "no more groups") (is := 54) (by decide) d_PR_group_18 d_PR_group_21 d_PR_group_22 d_PR_group_24 d_PR_group_27 (by decide) (Nat.le_of_ble_eq_true rfl) (by decide) (by decide) (by decide) (by decide) (an_s hX (by clear C hX; grind [sp_group]))
theorem k_PR_user_0 : px_dec prog_1_method_4_code [.aload_n 0, .iload_n 1] 0 = true := by decide +kernel
theorem d_PR_user_2 : decode prog_1_method_4_code 2 = .ok (.invokevirtual 68, 3) := by decide +kernel
theorem k_PR_user_5 : px_dec prog_1_method_4_code [.astore_n 2, .aload_n 0] 5 = true := by decide +kernel
theorem d_PR_user_7 : decode prog_1_method_4_code 7 = .ok (.getfield 16, 3) := by decide +kernel
theorem d_PR_user_10 : decode prog_1_method_4_code 10 = .ok (.invokevirtual 48, 3) := by decide +kernel
theorem k_PR_user_13 : px_dec prog_1_method_4_code [.bipush 40] 13 = true := by decide +kernel
theorem d_PR_user_15 : decode prog_1_method_4_code 15 = .ok (.if_icmp .lt 13, 3) := by decide +kernel
theorem k_PR_user_28 : px_dec prog_1_method_4_code [.aload_n 0] 28 = true := by decide +kernel
theorem d_PR_user_29 : decode prog_1_method_4_code 29 = .ok (.getfield 16, 3) := by decide +kernel
theorem d_PR_user_32 : decode prog_1_method_4_code 32 = .ok (.new 81, 3) := by decide +kernel
theorem k_PR_user_35 : px_dec prog_1_method_4_code [.dup, .aload_n 0] 35 = true := by decide +kernel
theorem d_PR_user_37 : decode prog_1_method_4_code 37 = .ok (.getfield 16, 3) := by decide +kernel
theorem d_PR_user_40 : decode prog_1_method_4_code 40 = .ok (.invokevirtual 48, 3) := by decide +kernel
theorem k_PR_user_43 : px_dec prog_1_method_4_code [.iconst 1, .iadd, .aload_n 2] 43 = true := by decide +kernel
theorem d_PR_user_46 : decode prog_1_method_4_code 46 = .ok (.invokespecial 83, 3) := by decide +kernel
theorem d_PR_user_49 : decode prog_1_method_4_code 49 = .ok (.invokevirtual 64, 3) := by decide +kernel
theorem k_PR_user_52 : px_dec prog_1_method_4_code [.pop, .aload_n 0] 52 = true := by decide +kernel
theorem d_PR_user_54 : decode prog_1_method_4_code 54 = .ok (.getfield 16, 3) := by decide +kernel
theorem d_PR_user_57 : decode prog_1_method_4_code 57 = .ok (.invokevirtual 48, 3) := by decide +kernel
theorem d_PR_user_60 : decode prog_1_method_4_code 60 = .ok (.ireturn, 1) := by decide +kernel
theorem d_PR_user_18 : decode prog_1_method_4_code 18 = .ok (.new 52, 3) := by decide +kernel
theorem d_PR_user_21 : decode prog_1_method_4_code 21 = .ok (.dup, 1) := by decide +kernel
theorem d_PR_user_22 : decode prog_1_method_4_code 22 = .ok (.ldc 79, 2) := by decide +kernel
theorem d_PR_user_24 : decode prog_1_method_4_code 24 = .ok (.invokespecial 56, 3) := by decide +kernel
theorem d_PR_user_27 : decode prog_1_method_4_code 27 = .ok (.athrow, 1) := by decide +kernel
set_option maxRecDepth 100000 in
set_option maxHeartbeats 4000000 in
theorem o_user (l : Launch) (D : va_G) (HB : Heap) (h : hp_T) (hlt : l.stackTraces = false) (own : oT) (V : vT) (x : Nat) (g : Int32) (hX : cr D h own x V) (hW : wf V) : ct_M l y_PR_user (.code y_PR_user prog_1_method_4_code 3 (Option.some Jvm.ClassFile.FieldType.int)) ({ frames := 9, cells := 8, slots := 200, locals := 320 }) D HB [.ref x, .int g] h (fun o h2 => an2 D h own x (sp_user V g) o h2) := by
  refine ct_of (by decide) (Nat.le_of_ble_eq_true rfl) rfl ?_
  intro p_ e_ s_ m_ r_ b_ t_ c_ C hnm
  obtain ⟨gl, ul, pl, mo, aq, tr, gA, uA, pA, pn, pe, eB, sf, hO, hGL, hUL, hPL, hM, hN, hT, hG, hU, hB, hP⟩ := id hX
  obtain ⟨h7, h8, h9, h22, w1, w2, w21, w5, w6, w10, w13, w16, w4, wz, wy, wc⟩ := id hW
  refine wk_run C k_PR_user_0 (pc2 := 2) (lv2 := [(0, .ref x), (1, .int g)]) (st2 := [.int g, .ref x]) rfl ?_
  rcases (Classical.em (¬ g < 1 ∧ g ≤ V 7 0)).symm with hg | hg
  ·
    refine wk_callV (cl := ("ProfileRights", T_PR, 7)) (rest := []) C (k_groupN l D HB h own V x gl ul pl mo aq tr (V 23 0) gA uA pA pn pe eB sf hO hGL h7 hlt g hg) cs_PR_68 kc_PR_groupAt ki_PR hO.1 rfl rfl rfl (Nat.le_of_ble_eq_true rfl) (Nat.le_of_ble_eq_true rfl) (Nat.le_of_ble_eq_true rfl) (Nat.le_of_ble_eq_true rfl) (Nat.le_of_ble_eq_true rfl) d_PR_user_2 (fun v h2 hq => ?_) (fun E h2 hq => by obtain ⟨e1, e2⟩ := hq; cases e1; replace e2 := e2.symm; subst e2; exact wx_out C (an_t hX (by clear C hX; grind [sp_user])) (by decide) (by decide))
    exact nomatch hq.1
  refine wk_callV (cl := ("ProfileRights", T_PR, 7)) (rest := []) C (k_groupY l D HB h own V x gl ul pl mo aq tr (V 23 0) gA uA pA pn pe eB sf hO hGL h7 hG g hg) cs_PR_68 kc_PR_groupAt ki_PR hO.1 rfl rfl rfl (Nat.le_of_ble_eq_true rfl) (Nat.le_of_ble_eq_true rfl) (Nat.le_of_ble_eq_true rfl) (Nat.le_of_ble_eq_true rfl) (Nat.le_of_ble_eq_true rfl) d_PR_user_2 (fun v h2 hq => ?_) (fun _ _ z => nomatch z.1)
  obtain ⟨e1, e2⟩ := hq; cases e1; replace e2 := e2.symm; subst e2
  show Wk _ _ _ _ _ _ _ _ _ _ _ _ _ _ _ _ _ _ _ (.ref (gA (nu g)) :: _)
  refine wk_run C k_PR_user_5 (pc2 := 7) (lv2 := [(2, .ref (gA (nu g))), (0, .ref x), (1, .int g)]) (st2 := [.ref x]) rfl ?_
  refine wk_get C fd_PR_16 hO.1 rfl d_PR_user_7 ?_
  obtain ⟨b0, hb0, ob0, ob00⟩ := id hUL
  obtain ⟨md0, hl0, -⟩ := id hb0
  refine wk_callV (cl := ("java/util/ArrayList", T_AL, 3)) (rest := []) C (al_size l HB hb0) cs_PR_48 kc_AL_size ki_AL hl0 rfl rfl rfl (Nat.le_of_ble_eq_true rfl) (Nat.le_of_ble_eq_true rfl) (Nat.le_of_ble_eq_true rfl) (Nat.le_of_ble_eq_true rfl) (Nat.le_of_ble_eq_true rfl) d_PR_user_10 (fun v h2 hq => ?_) (fun _ _ z => nomatch z.1)
  obtain ⟨e1, e2⟩ := hq; cases e1; replace e2 := e2.symm; subst e2
  rw [← h8.1]
  refine wk_run C k_PR_user_13 (pc2 := 15) (lv2 := [(2, .ref (gA (nu g))), (0, .ref x), (1, .int g)]) (st2 := [.int 40, .int (V 8 0)]) rfl ?_
  refine wk_br C d_PR_user_15 (P := (V 8 0) < 40) (tgt := 28) (rest := []) rfl (by decide) (fun cN => ?_) (fun cN => ?_)
  ·
    have kn : nu (V 8 0) < 40 := lMx h8 cN (by decide)
    have kp := ok_p h8 (fun z => by rw [z] at cN; exact absurd cN (by decide)) (by decide)
    have e3 : V 8 0 + 1 = nI (nu (V 8 0) + 1) := by rw [← kp.2]; exact kp.1.1
    refine wk_run C k_PR_user_28 (pc2 := 29) (lv2 := [(2, .ref (gA (nu g))), (0, .ref x), (1, .int g)]) (st2 := [.ref x]) rfl ?_
    refine wk_get C fd_PR_16 hO.1 rfl d_PR_user_29 ?_
    refine wk_new C nw_PR_81 (Nat.le_of_ble_eq_true rfl) (Nat.le_of_ble_eq_true rfl) d_PR_user_32 (fun y hy => ?_)
    refine wk_run C k_PR_user_35 (pc2 := 37) (lv2 := [(2, .ref (gA (nu g))), (0, .ref x), (1, .int g)]) (st2 := [.ref x, .ref y, .ref y, .ref ul]) rfl ?_
    have s1 := st_n (L := []) (own := own) (x := .inr (2, [.int 0, .null, .int 0, .int 0, .int 0, .long 0])) (t := (21, nu (V 8 0) + 1)) hy
    have hO1 := cO_m hO s1 (by decide)
    have hL1 := cL_m hUL s1 (by decide) (by decide)
    refine wk_get C fd_PR_16 hO1.1 rfl d_PR_user_37 ?_
    obtain ⟨b1, hb1, -, -⟩ := id hL1
    obtain ⟨md1, hl1, -⟩ := id hb1
    refine wk_callV (cl := ("java/util/ArrayList", T_AL, 3)) (rest := [.ref y, .ref y, .ref ul]) C (al_size l HB hb1) cs_PR_48 kc_AL_size ki_AL hl1 rfl rfl rfl (Nat.le_of_ble_eq_true rfl) (Nat.le_of_ble_eq_true rfl) (Nat.le_of_ble_eq_true rfl) (Nat.le_of_ble_eq_true rfl) (Nat.le_of_ble_eq_true rfl) d_PR_user_40 (fun v h2 hq => ?_) (fun _ _ z => nomatch z.1)
    obtain ⟨e1, e2⟩ := hq; cases e1; replace e2 := e2.symm; subst e2
    rw [← h8.1]
    refine wk_run C k_PR_user_43 (pc2 := 46) (lv2 := [(2, .ref (gA (nu g))), (0, .ref x), (1, .int g)]) (st2 := [.ref (gA (nu g)), .int ((V 8 0) + 1), .ref y, .ref y, .ref ul]) rfl ?_
    refine wk_callI (rest := [.ref y, .ref ul]) C (c_US_init l D HB _ y (gA (nu g)) (V 8 0 + 1) 0 0 0 0 0 hp_us) cs_PR_83 kc_US_init ki_US rfl rfl (Nat.le_of_ble_eq_true rfl) (Nat.le_of_ble_eq_true rfl) (Nat.le_of_ble_eq_true rfl) (Nat.le_of_ble_eq_true rfl) (Nat.le_of_ble_eq_true rfl) d_PR_user_46 (fun v h2 hq => ?_) (fun _ _ z => nomatch z.1)
    obtain ⟨e1, e2⟩ := hq; cases e1; rw [hp_uu] at e2; replace e2 := e2.symm; subst e2
    have s2 := st_n (L := []) (own := own) (x := .inr (2, [.int (V 8 0 + 1), .ref (gA (nu g)), .int 0, .int 3, .int 0, .long 0])) (t := (21, nu (V 8 0) + 1)) hy
    have hy2 : hp_up h y (.inr (2, [.int (V 8 0 + 1), .ref (gA (nu g)), .int 0, .int 3, .int 0, .long 0])) y = some (.inr (2, [.int (V 8 0 + 1), .ref (gA (nu g)), .int 0, .int 3, .int 0, .long 0])) := hp_us
    have hU2 := cU_m hU s2 (by decide)
    have hO2 := cO_m hO s2 (by decide)
    have hL2 := cL_m hUL s2 (by decide) (by decide)
    obtain ⟨b2, hb2, ob2, ob22⟩ := id hL2
    obtain ⟨md2, hl2, -⟩ := id hb2
    refine wk_nb C (fun nb => ?_)
    refine wk_callV (cl := ("java/util/ArrayList", T_AL, 3)) (rest := []) C (c_AL_add_0 l D HB _ ul b2 (nu (V 8 0)) y _ hb2 (by omega) (fun i hi => kx_ob 2 (by decide) (hU2 (i + 1) (by omega) (by omega)).1) (kx_ob 2 (by decide) hy2)) cs_PR_64 kc_AL_add_0 ki_AL hl2 rfl rfl rfl (Nat.le_of_ble_eq_true rfl) (Nat.le_of_ble_eq_true rfl) (Nat.le_of_ble_eq_true rfl) (Nat.le_of_ble_eq_true rfl) (Nat.le_of_ble_eq_true rfl) d_PR_user_49 (fun v h3 hq => ?_) (fun _ _ z => nomatch z.1)
    obtain ⟨e1, b3, kl, kb, kf⟩ := hq; cases e1
    refine wk_nb C (fun nb3 => ?_)
    obtain ⟨own3, hL3, s3⟩ := cL_add hb2 ob2 ob22 nb nb3 kl kb kf
    have t3 := sx_st s3
    have s : st_ [12, 12 + 100] h own h3 own3 := st_t (st_w s2 (fun _ z => nomatch z)) t3
    have hO3 := cO_m hO2 t3 (by decide)
    refine wk_run C k_PR_user_52 (pc2 := 54) (lv2 := [(2, .ref (gA (nu g))), (0, .ref x), (1, .int g)]) (st2 := [.ref x]) rfl ?_
    refine wk_get C fd_PR_16 hO3.1 rfl d_PR_user_54 ?_
    obtain ⟨b4, hb4, -, -⟩ := id hL3
    obtain ⟨md4, hl4, -⟩ := id hb4
    refine wk_callV (cl := ("java/util/ArrayList", T_AL, 3)) (rest := []) C (al_size l HB hb4) cs_PR_48 kc_AL_size ki_AL hl4 rfl rfl rfl (Nat.le_of_ble_eq_true rfl) (Nat.le_of_ble_eq_true rfl) (Nat.le_of_ble_eq_true rfl) (Nat.le_of_ble_eq_true rfl) (Nat.le_of_ble_eq_true rfl) d_PR_user_57 (fun v h2 hq => ?_) (fun _ _ z => nomatch z.1)
    obtain ⟨e1, e2⟩ := hq; cases e1; replace e2 := e2.symm; subst e2
    rw [← e3]
    obtain ⟨V2, hV2⟩ : ∃ V2 : vT, V2 = vs (vs (vc (vc V 0 0) 8 (V 8 0 + 1)) 2 (upd (V 2) (nu (V 8 0 + 1)) g)) 4 (upd (V 4) (nu (V 8 0 + 1)) 3) := ⟨_, rfl⟩
    have hr : sp_user V g = (0, V 8 0 + 1, V2) := by clear C hX; grind [sp_user]
    have eN : nu (V2 8 0) = nu (V 8 0) + 1 := by rw [hV2]; exact kp.2
    have ev2 : V2 2 = upd (V 2) (nu (V 8 0) + 1) g := by rw [hV2, ← kp.2]; rfl
    have ev4 : V2 4 = upd (V 4) (nu (V 8 0) + 1) 3 := by rw [hV2, ← kp.2]; rfl
    have ev3 : V2 3 = V 3 := by rw [hV2]; rfl
    have ev5 : V2 5 = V 5 := by rw [hV2]; rfl
    have ev6 : V2 6 = V 6 := by rw [hV2]; rfl
    have y3 := t3 y _ hy2 (by rw [ou_s]; simp)
    have z0 := wz (nu (V 8 0) + 1) (by omega)
    have hU4 : cU h3 own3 (nu (V2 8 0)) gA (up1 uA (nu (V 8 0) + 1) y) (up2 sf (nu (V 8 0) + 1) 0) V2 := by rw [eN]; exact cU_add (cU_m hU2 t3 (by decide)) (by rw [ev2, ev3, ev4, ev5, upd_s, upd_s, z0.1, z0.2.1, ← e3]; exact y3.1) (by rw [y3.2, ou_s]) (fun k hk => by rw [ev2, ev3, ev4, ev5, upd_n hk, upd_n hk]; exact ⟨rfl, rfl, rfl, rfl⟩)
    have hB4 : cB (nu (V2 8 0)) (up2 sf (nu (V 8 0) + 1) 0) V2 := by
      rw [eN]
      intro k j k1 k2 hj
      rw [ev6]
      by_cases z : k = nu (V 8 0) + 1
      · rw [z, up2_s]; exact ⟨fun _ => z0.2.2 j hj, fun _ => bl_0 j hj⟩
      · rw [up2_n z]; exact hB k j k1 (by omega) hj
    have hL4 : cL D h3 own3 12 0 ul (nu (V2 8 0)) (fun k => up1 uA (nu (V 8 0) + 1) y (k + 1)) := by rw [eN, up1_cat]; exact hL3
    subst hV2
    exact wk_iret C (an_o (V2 := vs (vs (vc (vc V 0 0) 8 (V 8 0 + 1)) 2 (upd (V 2) (nu (V 8 0 + 1)) g)) 4 (upd (V 4) (nu (V 8 0 + 1)) 3)) ⟨gl, ul, pl, mo, aq, tr, gA, up1 uA (nu (V 8 0) + 1) y, pA, pn, pe, eB, up2 sf (nu (V 8 0) + 1) 0, cO_m hO s (by decide), cL_m hGL s (by decide) (by decide), hL4, cL_m hPL s (by decide) (by decide), cM_m hM s (by decide), cN_m hN s (by decide) (by decide), cT_m hT s (by decide) (by decide), cG_m hG s (by decide), hU4, hB4, cP_m hP s (by decide) (by decide) (by decide) (by decide) (by decide) (by decide)⟩ (st_so s (by decide)) hr) (by decide) (by decide) d_PR_user_60
  ·
    have eN : V 8 0 = 40 := lNx h8 cN (by decide)
    exact wk_thrS C hlt (text := "no more users") (is := 79) (by decide) d_PR_user_18 d_PR_user_21 d_PR_user_22 d_PR_user_24 d_PR_user_27 (by decide) (Nat.le_of_ble_eq_true rfl) (by decide) (by decide) (by decide) (by decide) (an_s hX (by clear C hX; grind [sp_user]))
theorem k_PR_profile_0 : px_dec prog_1_method_9_code [.iload_n 1] 0 = true := by decide +kernel
theorem d_PR_profile_1 : decode prog_1_method_9_code 1 = .ok (.invokestatic 102, 3) := by decide +kernel
theorem k_PR_profile_4 : px_dec prog_1_method_9_code [.aload_n 0, .iload_n 2] 4 = true := by decide +kernel
theorem d_PR_profile_6 : decode prog_1_method_9_code 6 = .ok (.invokevirtual 84, 3) := by decide +kernel
theorem k_PR_profile_9 : px_dec prog_1_method_9_code [.pop, .aload_n 0] 9 = true := by decide +kernel
theorem d_PR_profile_11 : decode prog_1_method_9_code 11 = .ok (.getfield 19, 3) := by decide +kernel
theorem d_PR_profile_14 : decode prog_1_method_9_code 14 = .ok (.invokevirtual 48, 3) := by decide +kernel
theorem k_PR_profile_17 : px_dec prog_1_method_9_code [.bipush 60] 17 = true := by decide +kernel
theorem d_PR_profile_19 : decode prog_1_method_9_code 19 = .ok (.if_icmp .lt 13, 3) := by decide +kernel
theorem k_PR_profile_32 : px_dec prog_1_method_9_code [.aload_n 0] 32 = true := by decide +kernel
theorem d_PR_profile_33 : decode prog_1_method_9_code 33 = .ok (.getfield 19, 3) := by decide +kernel
theorem d_PR_profile_36 : decode prog_1_method_9_code 36 = .ok (.new 112, 3) := by decide +kernel
theorem k_PR_profile_39 : px_dec prog_1_method_9_code [.dup, .aload_n 0] 39 = true := by decide +kernel
theorem d_PR_profile_41 : decode prog_1_method_9_code 41 = .ok (.getfield 19, 3) := by decide +kernel
theorem d_PR_profile_44 : decode prog_1_method_9_code 44 = .ok (.invokevirtual 48, 3) := by decide +kernel
theorem k_PR_profile_47 : px_dec prog_1_method_9_code [.iconst 1, .iadd, .iload_n 1] 47 = true := by decide +kernel
theorem d_PR_profile_50 : decode prog_1_method_9_code 50 = .ok (.invokespecial 114, 3) := by decide +kernel
theorem d_PR_profile_53 : decode prog_1_method_9_code 53 = .ok (.invokevirtual 64, 3) := by decide +kernel
theorem k_PR_profile_56 : px_dec prog_1_method_9_code [.pop, .aload_n 0] 56 = true := by decide +kernel
theorem d_PR_profile_58 : decode prog_1_method_9_code 58 = .ok (.getfield 19, 3) := by decide +kernel
theorem d_PR_profile_61 : decode prog_1_method_9_code 61 = .ok (.invokevirtual 48, 3) := by decide +kernel
theorem d_PR_profile_64 : decode prog_1_method_9_code 64 = .ok (.ireturn, 1) := by decide +kernel
theorem d_PR_profile_22 : decode prog_1_method_9_code 22 = .ok (.new 52, 3) := by decide +kernel
theorem d_PR_profile_25 : decode prog_1_method_9_code 25 = .ok (.dup, 1) := by decide +kernel
theorem d_PR_profile_26 : decode prog_1_method_9_code 26 = .ok (.ldc 110, 2) := by decide +kernel
theorem d_PR_profile_28 : decode prog_1_method_9_code 28 = .ok (.invokespecial 56, 3) := by decide +kernel
theorem d_PR_profile_31 : decode prog_1_method_9_code 31 = .ok (.athrow, 1) := by decide +kernel
set_option maxRecDepth 100000 in
set_option maxHeartbeats 4000000 in
theorem o_profile (l : Launch) (D : va_G) (HB : Heap) (h : hp_T) (hlt : l.stackTraces = false) (own : oT) (V : vT) (x : Nat) (c : Int32) (u : Int32) (hX : cr D h own x V) (hW : wf V) : ct_M l y_PR_profile (.code y_PR_profile prog_1_method_9_code 3 (Option.some Jvm.ClassFile.FieldType.int)) ({ frames := 9, cells := 8, slots := 200, locals := 320 }) D HB [.ref x, .int c, .int u] h (fun o h2 => an2 D h own x (sp_profile V c u) o h2) := by
  refine ct_of (by decide) (Nat.le_of_ble_eq_true rfl) rfl ?_
  intro p_ e_ s_ m_ r_ b_ t_ c_ C hnm
  obtain ⟨gl, ul, pl, mo, aq, tr, gA, uA, pA, pn, pe, eB, sf, hO, hGL, hUL, hPL, hM, hN, hT, hG, hU, hB, hP⟩ := id hX
  obtain ⟨h7, h8, h9, h22, w1, w2, w21, w5, w6, w10, w13, w16, w4, wz, wy, wc⟩ := id hW
  refine wk_run C k_PR_profile_0 (pc2 := 1) (lv2 := [(0, .ref x), (1, .int c), (2, .int u)]) (st2 := [.int c]) rfl ?_
  rcases (Classical.em (¬ (c < 0 ∨ 8 ≤ c))).symm with hc | hc
  ·
    refine wk_callS (rest := []) C (k_testClassN l D HB h hlt c (Classical.not_not.mp hc)) cs_PR_102 kc_PR_testClass ki_PR rfl rfl (Nat.le_of_ble_eq_true rfl) (Nat.le_of_ble_eq_true rfl) (Nat.le_of_ble_eq_true rfl) (Nat.le_of_ble_eq_true rfl) (Nat.le_of_ble_eq_true rfl) d_PR_profile_1 (fun v h2 hq => ?_) (fun E h2 hq => by obtain ⟨e1, e2⟩ := hq; cases e1; replace e2 := e2.symm; subst e2; exact wx_out C (an_t hX (by clear C hX; grind [sp_profile])) (by decide) (by decide))
    exact nomatch hq.1
  refine wk_callS (rest := []) C (k_testClassY l D HB h hlt c hc) cs_PR_102 kc_PR_testClass ki_PR rfl rfl (Nat.le_of_ble_eq_true rfl) (Nat.le_of_ble_eq_true rfl) (Nat.le_of_ble_eq_true rfl) (Nat.le_of_ble_eq_true rfl) (Nat.le_of_ble_eq_true rfl) d_PR_profile_1 (fun v h2 hq => ?_) (fun _ _ z => nomatch z.1)
  obtain ⟨e1, e2⟩ := hq; cases e1; replace e2 := e2.symm; subst e2
  refine wk_run C k_PR_profile_4 (pc2 := 6) (lv2 := [(0, .ref x), (1, .int c), (2, .int u)]) (st2 := [.int u, .ref x]) rfl ?_
  rcases (Classical.em (¬ u < 1 ∧ u ≤ V 8 0)).symm with hu | hu
  ·
    refine wk_callV (cl := ("ProfileRights", T_PR, 7)) (rest := []) C (k_userN l D HB h own V x gl ul pl mo aq tr (V 23 0) gA uA pA pn pe eB sf hO hUL h8 hlt u hu) cs_PR_84 kc_PR_userAt ki_PR hO.1 rfl rfl rfl (Nat.le_of_ble_eq_true rfl) (Nat.le_of_ble_eq_true rfl) (Nat.le_of_ble_eq_true rfl) (Nat.le_of_ble_eq_true rfl) (Nat.le_of_ble_eq_true rfl) d_PR_profile_6 (fun v h2 hq => ?_) (fun E h2 hq => by obtain ⟨e1, e2⟩ := hq; cases e1; replace e2 := e2.symm; subst e2; exact wx_out C (an_t hX (by clear C hX; grind [sp_profile])) (by decide) (by decide))
    exact nomatch hq.1
  refine wk_callV (cl := ("ProfileRights", T_PR, 7)) (rest := []) C (k_userY l D HB h own V x gl ul pl mo aq tr (V 23 0) gA uA pA pn pe eB sf hO hUL h8 hU u hu) cs_PR_84 kc_PR_userAt ki_PR hO.1 rfl rfl rfl (Nat.le_of_ble_eq_true rfl) (Nat.le_of_ble_eq_true rfl) (Nat.le_of_ble_eq_true rfl) (Nat.le_of_ble_eq_true rfl) (Nat.le_of_ble_eq_true rfl) d_PR_profile_6 (fun v h2 hq => ?_) (fun _ _ z => nomatch z.1)
  obtain ⟨e1, e2⟩ := hq; cases e1; replace e2 := e2.symm; subst e2
  show Wk _ _ _ _ _ _ _ _ _ _ _ _ _ _ _ _ _ _ _ (.ref (uA (nu u)) :: _)
  have khu : 1 ≤ nu u ∧ nu u ≤ nu (V 8 0) := by have z := ok_u (n := nu (V 8 0)) (by rw [← h8.1]; exact hu) (by have := h8.2; omega); exact ⟨z.1, z.2.1⟩
  have ohu := (hU (nu u) khu.1 khu.2).1
  refine wk_run C k_PR_profile_9 (pc2 := 11) (lv2 := [(0, .ref x), (1, .int c), (2, .int u)]) (st2 := [.ref x]) rfl ?_
  refine wk_get C fd_PR_19 hO.1 rfl d_PR_profile_11 ?_
  obtain ⟨b0, hb0, ob0, ob00⟩ := id hPL
  obtain ⟨md0, hl0, -⟩ := id hb0
  refine wk_callV (cl := ("java/util/ArrayList", T_AL, 3)) (rest := []) C (al_size l HB hb0) cs_PR_48 kc_AL_size ki_AL hl0 rfl rfl rfl (Nat.le_of_ble_eq_true rfl) (Nat.le_of_ble_eq_true rfl) (Nat.le_of_ble_eq_true rfl) (Nat.le_of_ble_eq_true rfl) (Nat.le_of_ble_eq_true rfl) d_PR_profile_14 (fun v h2 hq => ?_) (fun _ _ z => nomatch z.1)
  obtain ⟨e1, e2⟩ := hq; cases e1; replace e2 := e2.symm; subst e2
  rw [← h9.1]
  refine wk_run C k_PR_profile_17 (pc2 := 19) (lv2 := [(0, .ref x), (1, .int c), (2, .int u)]) (st2 := [.int 60, .int (V 9 0)]) rfl ?_
  refine wk_br C d_PR_profile_19 (P := (V 9 0) < 60) (tgt := 32) (rest := []) rfl (by decide) (fun cN => ?_) (fun cN => ?_)
  ·
    have kn : nu (V 9 0) < 60 := lMx h9 cN (by decide)
    have kp := ok_p h9 (fun z => by rw [z] at cN; exact absurd cN (by decide)) (by decide)
    have e3 : V 9 0 + 1 = nI (nu (V 9 0) + 1) := by rw [← kp.2]; exact kp.1.1
    refine wk_run C k_PR_profile_32 (pc2 := 33) (lv2 := [(0, .ref x), (1, .int c), (2, .int u)]) (st2 := [.ref x]) rfl ?_
    refine wk_get C fd_PR_19 hO.1 rfl d_PR_profile_33 ?_
    refine wk_new C nw_PR_112 (Nat.le_of_ble_eq_true rfl) (Nat.le_of_ble_eq_true rfl) d_PR_profile_36 (fun y hy => ?_)
    refine wk_run C k_PR_profile_39 (pc2 := 41) (lv2 := [(0, .ref x), (1, .int c), (2, .int u)]) (st2 := [.ref x, .ref y, .ref y, .ref pl]) rfl ?_
    have s1 := st_n (L := []) (own := own) (x := .inr (5, [.int 0, .int 0, .null, .null, .int 0, .int 0])) (t := (22, nu (V 9 0) + 1)) hy
    have hO1 := cO_m hO s1 (by decide)
    have hL1 := cL_m hPL s1 (by decide) (by decide)
    refine wk_get C fd_PR_19 hO1.1 rfl d_PR_profile_41 ?_
    obtain ⟨b1, hb1, -, -⟩ := id hL1
    obtain ⟨md1, hl1, -⟩ := id hb1
    refine wk_callV (cl := ("java/util/ArrayList", T_AL, 3)) (rest := [.ref y, .ref y, .ref pl]) C (al_size l HB hb1) cs_PR_48 kc_AL_size ki_AL hl1 rfl rfl rfl (Nat.le_of_ble_eq_true rfl) (Nat.le_of_ble_eq_true rfl) (Nat.le_of_ble_eq_true rfl) (Nat.le_of_ble_eq_true rfl) (Nat.le_of_ble_eq_true rfl) d_PR_profile_44 (fun v h2 hq => ?_) (fun _ _ z => nomatch z.1)
    obtain ⟨e1, e2⟩ := hq; cases e1; replace e2 := e2.symm; subst e2
    rw [← h9.1]
    refine wk_run C k_PR_profile_47 (pc2 := 50) (lv2 := [(0, .ref x), (1, .int c), (2, .int u)]) (st2 := [.int c, .int ((V 9 0) + 1), .ref y, .ref y, .ref pl]) rfl ?_
    refine wk_callI (rest := [.ref y, .ref pl]) C (c_PF_init l D HB _ y (V 9 0 + 1) c 0 0 0 0 (nf_ V (nu (V 9 0) + 1)) (eB (nu (V 9 0) + 1)) hp_us) cs_PR_114 kc_PF_init ki_PF rfl rfl (Nat.le_of_ble_eq_true rfl) (Nat.le_of_ble_eq_true rfl) (Nat.le_of_ble_eq_true rfl) (Nat.le_of_ble_eq_true rfl) (Nat.le_of_ble_eq_true rfl) d_PR_profile_50 (fun v h2 hq => ?_) (fun _ _ z => nomatch z.1)
    obtain ⟨e1, qn, qc, qe, f1, f2, f3, n1, n2, n3, hy2, hnm2, hal2, ffr⟩ := hq; cases e1
    have g1 : qn ≠ y := fun z => by rw [z, hp_us] at f1; cases f1
    have g2 : qc ≠ y := fun z => by rw [z, hp_us] at f2; cases f2
    have g3 : qe ≠ y := fun z => by rw [z, hp_us] at f3; cases f3
    rw [hp_un g1] at f1
    rw [hp_un g2] at f2
    rw [hp_un g3] at f3
    obtain ⟨own2, ho2⟩ : ∃ own2 : oT, own2 = ou (ou (ou (ou own y (22, nu (V 9 0) + 1)) qn (23, nu (V 9 0) + 1)) qc (123, nu (V 9 0) + 1)) qe (25, nu (V 9 0) + 1) := ⟨_, rfl⟩
    have oy : own2 y = (22, nu (V 9 0) + 1) := by rw [ho2, ou_n (Ne.symm g3), ou_n (Ne.symm g2), ou_n (Ne.symm g1), ou_s]
    have oqn : own2 qn = (23, nu (V 9 0) + 1) := by rw [ho2, ou_n n2, ou_n n1, ou_s]
    have oqc : own2 qc = (123, nu (V 9 0) + 1) := by rw [ho2, ou_n n3, ou_s]
    have oqe : own2 qe = (25, nu (V 9 0) + 1) := by rw [ho2, ou_s]
    have s2 : st_ [] h own h2 own2 := by
      intro q x hx _
      have r1 : q ≠ y := fun z => by rw [z, hy] at hx; cases hx
      have r2 : q ≠ qn := fun z => by rw [z, f1] at hx; cases hx
      have r3 : q ≠ qc := fun z => by rw [z, f2] at hx; cases hx
      have r4 : q ≠ qe := fun z => by rw [z, f3] at hx; cases hx
      exact ⟨ffr q x r1 (by rw [hp_un r1]; exact hx), by rw [ho2, ou_n r4, ou_n r3, ou_n r2, ou_n r1]⟩
    have hP2 := cP_m hP s2 (by decide) (by decide) (by decide) (by decide) (by decide) (by decide)
    have hO2 := cO_m hO s2 (by decide)
    have hL2 := cL_m hPL s2 (by decide) (by decide)
    obtain ⟨b2, hb2, ob2, ob22⟩ := id hL2
    obtain ⟨md2, hl2, -⟩ := id hb2
    refine wk_nb C (fun nb => ?_)
    refine wk_callV (cl := ("java/util/ArrayList", T_AL, 3)) (rest := []) C (c_AL_add_0 l D HB _ pl b2 (nu (V 9 0)) y _ hb2 (by omega) (fun i hi => kx_ob 5 (by decide) (hP2 (i + 1) (by omega) (by omega)).1.1) (kx_ob 5 (by decide) hy2)) cs_PR_64 kc_AL_add_0 ki_AL hl2 rfl rfl rfl (Nat.le_of_ble_eq_true rfl) (Nat.le_of_ble_eq_true rfl) (Nat.le_of_ble_eq_true rfl) (Nat.le_of_ble_eq_true rfl) (Nat.le_of_ble_eq_true rfl) d_PR_profile_53 (fun v h3 hq => ?_) (fun _ _ z => nomatch z.1)
    obtain ⟨e1, b3, kl, kb, kf⟩ := hq; cases e1
    refine wk_nb C (fun nb3 => ?_)
    obtain ⟨own3, hL3, s3⟩ := cL_add hb2 ob2 ob22 nb nb3 kl kb kf
    have t3 := sx_st s3
    have s : st_ [13, 13 + 100] h own h3 own3 := st_t (st_w s2 (fun _ z => nomatch z)) t3
    have hO3 := cO_m hO2 t3 (by decide)
    refine wk_run C k_PR_profile_56 (pc2 := 58) (lv2 := [(0, .ref x), (1, .int c), (2, .int u)]) (st2 := [.ref x]) rfl ?_
    refine wk_get C fd_PR_19 hO3.1 rfl d_PR_profile_58 ?_
    obtain ⟨b4, hb4, -, -⟩ := id hL3
    obtain ⟨md4, hl4, -⟩ := id hb4
    refine wk_callV (cl := ("java/util/ArrayList", T_AL, 3)) (rest := []) C (al_size l HB hb4) cs_PR_48 kc_AL_size ki_AL hl4 rfl rfl rfl (Nat.le_of_ble_eq_true rfl) (Nat.le_of_ble_eq_true rfl) (Nat.le_of_ble_eq_true rfl) (Nat.le_of_ble_eq_true rfl) (Nat.le_of_ble_eq_true rfl) d_PR_profile_61 (fun v h2 hq => ?_) (fun _ _ z => nomatch z.1)
    obtain ⟨e1, e2⟩ := hq; cases e1; replace e2 := e2.symm; subst e2
    rw [← e3]
    obtain ⟨V2, hV2⟩ : ∃ V2 : vT, V2 = vs (vc (vc V 0 0) 9 (V 9 0 + 1)) 11 (upd (V 11) (nu (V 9 0 + 1)) c) := ⟨_, rfl⟩
    have hr : sp_profile V c u = (0, V 9 0 + 1, V2) := by clear C hX; grind [sp_profile]
    have eN : nu (V2 9 0) = nu (V 9 0) + 1 := by rw [hV2]; exact kp.2
    have z0 := wy (nu (V 9 0) + 1) (by omega)
    have ev11 : V2 11 = upd (V 11) (nu (V 9 0) + 1) c := by rw [hV2, ← kp.2]; rfl
    have ev : ∀ j, j ≠ 0 → j ≠ 9 → j ≠ 11 → V2 j = V j := fun j r1 r2 r3 => by rw [hV2, vs_n r3]; exact (vs_n r2).trans (vs_n r1)
    have ev12 := ev 12 (by decide) (by decide) (by decide)
    have ev13 := ev 13 (by decide) (by decide) (by decide)
    have ev14 := ev 14 (by decide) (by decide) (by decide)
    have ev15 := ev 15 (by decide) (by decide) (by decide)
    have ev16 := ev 16 (by decide) (by decide) (by decide)
    have ev17 := ev 17 (by decide) (by decide) (by decide)
    have ev18 := ev 18 (by decide) (by decide) (by decide)
    have ev19 := ev 19 (by decide) (by decide) (by decide)
    have ev20 := ev 20 (by decide) (by decide) (by decide)
    have hq2 : cQ D h2 own2 (nu (V 9 0) + 1) y qn qe (eB (nu (V 9 0) + 1)) V2 := by
      refine ⟨⟨?_, oy⟩, ?_, ?_, ?_⟩
      · rw [ev11, upd_s, ev14, ev15, z0.2.1, z0.2.2.1, ← e3]; exact hy2
      · rw [show nf_ V2 (nu (V 9 0) + 1) = nf_ V (nu (V 9 0) + 1) by funext j; show V2 12 _ = V 12 _; rw [ev12], ev13, z0.1]; exact ⟨qc, hnm2, oqn, oqc⟩
      · rw [ev16, z0.2.2.2]; exact ⟨_, hal2, oqe, Or.inl ⟨rfl, rfl⟩⟩
      · rw [ev16, z0.2.2.2]; exact ⟨fun j hj => absurd hj (Nat.not_lt_zero j), fun j hj => absurd hj (Nat.not_lt_zero j), fun i j hi => absurd hi (Nat.not_lt_zero i)⟩
    have hP4 : cP D h3 own3 (nu (V2 9 0)) (up1 pA (nu (V 9 0) + 1) y) (up1 pn (nu (V 9 0) + 1) qn) (up1 pe (nu (V 9 0) + 1) qe) (up2 eB (nu (V 9 0) + 1) (eB (nu (V 9 0) + 1))) V2 := by rw [eN]; exact cP_add (cP_m hP2 t3 (by decide) (by decide) (by decide) (by decide) (by decide) (by decide)) (cQ_m hq2 t3 (by decide) (by decide) (by decide) (by decide) (by decide) (by decide)) (fun k hk => by rw [qe_, ev11, ev12, ev13, ev14, ev15, ev16, ev17, ev18, ev19, ev20, upd_n hk]; exact ⟨rfl, rfl, rfl, rfl, rfl, fun _ _ => rfl, fun _ _ => ⟨rfl, rfl, rfl, rfl⟩⟩) w16
    have hL4 : cL D h3 own3 13 0 pl (nu (V2 9 0)) (fun k => up1 pA (nu (V 9 0) + 1) y (k + 1)) := by rw [eN, up1_cat]; exact hL3
    subst hV2
    exact wk_iret C (an_o (V2 := vs (vc (vc V 0 0) 9 (V 9 0 + 1)) 11 (upd (V 11) (nu (V 9 0 + 1)) c)) ⟨gl, ul, pl, mo, aq, tr, gA, uA, up1 pA (nu (V 9 0) + 1) y, up1 pn (nu (V 9 0) + 1) qn, up1 pe (nu (V 9 0) + 1) qe, up2 eB (nu (V 9 0) + 1) (eB (nu (V 9 0) + 1)), sf, cO_m hO s (by decide), cL_m hGL s (by decide) (by decide), cL_m hUL s (by decide) (by decide), hL4, cM_m hM s (by decide), cN_m hN s (by decide) (by decide), cT_m hT s (by decide) (by decide), cG_m hG s (by decide), cU_m hU s (by decide), hB, hP4⟩ (st_so s (by decide)) hr) (by decide) (by decide) d_PR_profile_64
  ·
    have eN : V 9 0 = 60 := lNx h9 cN (by decide)
    exact wk_thrS C hlt (text := "no more profiles") (is := 110) (by decide) d_PR_profile_22 d_PR_profile_25 d_PR_profile_26 d_PR_profile_28 d_PR_profile_31 (by decide) (Nat.le_of_ble_eq_true rfl) (by decide) (by decide) (by decide) (by decide) (an_s hX (by clear C hX; grind [sp_profile]))
