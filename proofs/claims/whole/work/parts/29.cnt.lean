theorem z_and1 (x : Int32) : x &&& 1 = 1 ↔ ¬ x &&& 1 = 0 := by
  have h : ∀ b : BitVec 32, b &&& 1#32 = 0#32 ∨ b &&& 1#32 = 1#32 := by
    intro b
    by_cases z : b.getLsbD 0 = true
    · refine Or.inr (BitVec.eq_of_getLsbD_eq (fun i hi => ?_))
      rw [BitVec.getLsbD_and]
      by_cases zi : i = 0
      · subst zi; rw [z]; rfl
      · have : (1#32).getLsbD i = false := by rw [BitVec.getLsbD_one]; simp [zi]
        rw [this, Bool.and_false]
    · refine Or.inl (BitVec.eq_of_getLsbD_eq (fun i hi => ?_))
      rw [BitVec.getLsbD_and]
      by_cases zi : i = 0
      · subst zi; simp only [Bool.not_eq_true] at z; rw [z]; rfl
      · have : (1#32).getLsbD i = false := by rw [BitVec.getLsbD_one]; simp [zi]
        rw [this, Bool.and_false]; simp
  have e0 : x &&& 1 = 0 ∨ x &&& 1 = 1 := by
    rcases h x.toBitVec with k | k
    · exact Or.inl (Int32.toBitVec_inj.mp (by rw [Int32.toBitVec_and]; exact k))
    · exact Or.inr (Int32.toBitVec_inj.mp (by rw [Int32.toBitVec_and]; exact k))
  rcases e0 with k | k
  · rw [k]; exact ⟨fun z => absurd z (by decide), fun z => absurd rfl z⟩
  · rw [k]; exact ⟨fun _ => by decide, fun _ => rfl⟩
theorem op_io (V : vT) (p u k : Nat) (t : Int64) : op_ (fun j => V 19 (10 * p + j)) (fun j => V 20 (10 * p + j)) (V 3 u) (hr_ t) k ↔ io_ V (10 * p + k) u t := by
  unfold op_ io_
  generalize hr_ t = r
  exact and_congr Iff.rfl (z_and1 _).symm
theorem oe_s {pl ho : Nat → Int32} {tm hr : Int32} {k : Nat} (h : op_ pl ho tm hr k) : oe_ pl ho tm hr (some k) = some k := if_pos h
theorem oe_c {pl ho : Nat → Int32} {tm hr : Int32} {k : Nat} (h : ¬ op_ pl ho tm hr k) : oe_ pl ho tm hr (some k) = none := if_neg h
theorem oe_og (V : vT) (p u : Nat) (t : Int64) (x : Int32) : oe_ (fun j => V 19 (10 * p + j)) (fun j => V 20 (10 * p + j)) (V 3 u) (hr_ t) (fe_ V p x) = og_ V p u t x := by
  cases e : fe_ V p x with
  | none => rw [og_n e]; rfl
  | some k =>
    by_cases z : io_ V (10 * p + k) u t
    · rw [og_s e z, oe_s ((op_io V p u k t).mpr z)]
    · rw [og_c e z, oe_c (fun y => z ((op_io V p u k t).mp y))]

theorem k_PR_countRevoked_0 : px_dec prog_1_method_34_code [.iconst 0, .istore_n 1, .iconst 0, .istore_n 2] 0 = true := by decide +kernel
theorem k_PR_countRevoked_4 : px_dec prog_1_method_34_code [.iload_n 2, .aload_n 0] 4 = true := by decide +kernel
theorem d_PR_countRevoked_6 : decode prog_1_method_34_code 6 = .ok (.getfield 16, 3) := by decide +kernel
theorem d_PR_countRevoked_9 : decode prog_1_method_34_code 9 = .ok (.invokevirtual 48, 3) := by decide +kernel
theorem d_PR_countRevoked_12 : decode prog_1_method_34_code 12 = .ok (.if_icmp .ge 29, 3) := by decide +kernel
theorem k_PR_countRevoked_41 : px_dec prog_1_method_34_code [.iload_n 1] 41 = true := by decide +kernel
theorem d_PR_countRevoked_42 : decode prog_1_method_34_code 42 = .ok (.ireturn, 1) := by decide +kernel
theorem k_PR_countRevoked_15 : px_dec prog_1_method_34_code [.aload_n 0] 15 = true := by decide +kernel
theorem d_PR_countRevoked_16 : decode prog_1_method_34_code 16 = .ok (.getfield 16, 3) := by decide +kernel
theorem k_PR_countRevoked_19 : px_dec prog_1_method_34_code [.iload_n 2] 19 = true := by decide +kernel
theorem d_PR_countRevoked_20 : decode prog_1_method_34_code 20 = .ok (.invokevirtual 201, 3) := by decide +kernel
theorem d_PR_countRevoked_23 : decode prog_1_method_34_code 23 = .ok (.checkcast 81, 3) := by decide +kernel
theorem d_PR_countRevoked_26 : decode prog_1_method_34_code 26 = .ok (.getfield 95, 3) := by decide +kernel
theorem d_PR_countRevoked_29 : decode prog_1_method_34_code 29 = .ok (.ifCond .eq 6, 3) := by decide +kernel
theorem k_PR_countRevoked_35 : px_dec prog_1_method_34_code [.iinc 2 1] 35 = true := by decide +kernel
theorem d_PR_countRevoked_38 : decode prog_1_method_34_code 38 = .ok (.goto (-34), 3) := by decide +kernel
theorem k_PR_countRevoked_32 : px_dec prog_1_method_34_code [.iinc 1 1, .iinc 2 1] 32 = true := by decide +kernel
set_option maxRecDepth 100000 in
set_option maxHeartbeats 4000000 in
theorem c_PR_countRevoked (l : Launch) (D : va_G) (HB : Heap) (h : hp_T) (x gl ul pl mo aq tr : Nat) (la : Int32) (hx : h x = some (.inr (0, [.ref gl, .ref ul, .ref pl, .ref mo, .ref aq, .ref tr, .int la]))) (own : oT) (V : vT) (b : Nat) (gA uA : Nat → Nat) (sf : Nat → Int64) (hL : al_ok D h ul b (nu (V 8 0)) (fun k => uA (k + 1))) (hU : cU h own (nu (V 8 0)) gA uA sf V) (hn : nu (V 8 0) ≤ 100) : ct_M l y_PR_countRevoked (.code y_PR_countRevoked prog_1_method_34_code 3 (Option.some Jvm.ClassFile.FieldType.int)) ({ frames := 3, cells := 0, slots := 0, locals := 64 }) D HB [.ref x] h (fun o h2 => o = .inl (some (.int (cz_ (V 5) (nu (V 8 0))))) ∧ h2 = h) := by
  refine ct_of (by decide) (Nat.le_of_ble_eq_true rfl) rfl ?_
  intro p_ e_ s_ m_ r_ b_ t_ c_ C hnm
  obtain ⟨md, hl, -⟩ := id hL
  refine wk_run C k_PR_countRevoked_0 (pc2 := 4) (lv2 := [(2, .int 0), (1, .int 0), (0, .ref x)]) (st2 := []) rfl ?_
  refine Wk.sub (lv2 := [(0, .ref x), (1, .int 0), (2, .int 0)]) [2, 1, 0] rfl ?_
  refine wk_ind (σ := Nat) (hF := fun _ => h) (lvF := fun i => [(0, .ref x), (1, .int (cz_ (V 5) i)), (2, .int (nI i))]) (fun i => nu (V 8 0) - i) (fun i => i ≤ nu (V 8 0)) (fun i hi ih => ?_) 0 (Nat.zero_le _)
  show Wk _ _ _ _ _ _ _ _ _ _ _ _ _ _ _ _ _ _ [(0, .ref x), (1, .int (cz_ (V 5) i)), (2, .int (nI i))] _
  refine wk_run C k_PR_countRevoked_4 (pc2 := 6) (lv2 := [(0, .ref x), (1, .int (cz_ (V 5) i)), (2, .int (nI i))]) (st2 := [.ref x, .int (nI i)]) rfl ?_
  refine wk_get C fd_PR_16 hx rfl d_PR_countRevoked_6 ?_
  refine wk_callV (cl := ("java/util/ArrayList", T_AL, 3)) (rest := [.int (nI i)]) C (al_size l HB hL) cs_PR_48 kc_AL_size ki_AL hl rfl rfl rfl (Nat.le_of_ble_eq_true rfl) (Nat.le_of_ble_eq_true rfl) (Nat.le_of_ble_eq_true rfl) (Nat.le_of_ble_eq_true rfl) (Nat.le_of_ble_eq_true rfl) d_PR_countRevoked_9 (fun v h2 hq => ?_) (fun _ _ z => nomatch z.1)
  obtain ⟨e1, e2⟩ := hq; cases e1; replace e2 := e2.symm; subst e2
  refine wk_br C d_PR_countRevoked_12 (P := (nI (nu (V 8 0))) ≤ (nI i)) (tgt := 41) (rest := []) rfl (by decide) (fun c1 => ?_) (fun c1 => ?_)
  ·
    have hie : i = nu (V 8 0) := by have := (nI_leI (by omega) (by omega)).mp c1; omega
    refine wk_run C k_PR_countRevoked_41 (pc2 := 42) (lv2 := [(0, .ref x), (1, .int (cz_ (V 5) i)), (2, .int (nI i))]) (st2 := [.int (cz_ (V 5) i)]) rfl ?_
    exact wk_iret C ⟨by rw [hie], rfl⟩ (by decide) (by decide) d_PR_countRevoked_42
  ·
    have hlt : i < nu (V 8 0) := by rcases Nat.lt_or_ge i (nu (V 8 0)) with z | z; exact z; exact absurd (nI_le z (by omega)) c1
    refine wk_run C k_PR_countRevoked_15 (pc2 := 16) (lv2 := [(0, .ref x), (1, .int (cz_ (V 5) i)), (2, .int (nI i))]) (st2 := [.ref x]) rfl ?_
    refine wk_get C fd_PR_16 hx rfl d_PR_countRevoked_16 ?_
    refine wk_run C k_PR_countRevoked_19 (pc2 := 20) (lv2 := [(0, .ref x), (1, .int (cz_ (V 5) i)), (2, .int (nI i))]) (st2 := [.int (nI i), .ref ul]) rfl ?_
    refine wk_callV (cl := ("java/util/ArrayList", T_AL, 3)) (rest := []) C (al_get (j := i) l HB hL hlt) cs_PR_201 kc_AL_get ki_AL hl rfl rfl rfl (Nat.le_of_ble_eq_true rfl) (Nat.le_of_ble_eq_true rfl) (Nat.le_of_ble_eq_true rfl) (Nat.le_of_ble_eq_true rfl) (Nat.le_of_ble_eq_true rfl) d_PR_countRevoked_20 (fun v h2 hq => ?_) (fun _ _ z => nomatch z.1)
    obtain ⟨e1, e2⟩ := hq; cases e1; replace e2 := e2.symm; subst e2
    show Wk _ _ _ _ _ _ _ _ _ _ _ _ _ _ _ _ _ _ _ (.ref (uA (i + 1)) :: _)
    have ho := (hU (i + 1) (by omega) hlt).1
    refine wk_cast C ho rfl cl_PR_81 d_PR_countRevoked_23 ?_
    refine wk_get C fd_PR_95 ho rfl d_PR_countRevoked_26 ?_
    refine wk_br C d_PR_countRevoked_29 (P := (V 5 (i + 1)) = 0) (tgt := 35) (rest := []) rfl (by decide) (fun c2 => ?_) (fun c2 => ?_)
    ·
      refine wk_run C k_PR_countRevoked_35 (pc2 := 38) (lv2 := [(2, .int ((nI i) + 1)), (0, .ref x), (1, .int (cz_ (V 5) i))]) (st2 := []) rfl ?_
      refine wk_goto C d_PR_countRevoked_38 (tgt := 4) (by decide) ?_
      refine Wk.sub (lv2 := [(0, .ref x), (1, .int (cz_ (V 5) i)), (2, .int ((nI i) + 1))]) [1, 2, 0] rfl ?_
      rw [nI_1]
      exact (show cz_ (V 5) i = cz_ (V 5) (i + 1) by rw [cz_s, if_pos c2, Int32.add_zero]) ▸ ih (i + 1) hlt (by omega)
    ·
      refine wk_run C k_PR_countRevoked_32 (pc2 := 38) (lv2 := [(2, .int ((nI i) + 1)), (1, .int ((cz_ (V 5) i) + 1)), (0, .ref x)]) (st2 := []) rfl ?_
      refine wk_goto C d_PR_countRevoked_38 (tgt := 4) (by decide) ?_
      refine Wk.sub (lv2 := [(0, .ref x), (1, .int ((cz_ (V 5) i) + 1)), (2, .int ((nI i) + 1))]) [2, 1, 0] rfl ?_
      rw [nI_1]
      exact (show cz_ (V 5) i + 1 = cz_ (V 5) (i + 1) by rw [cz_s, if_neg c2]) ▸ ih (i + 1) hlt (by omega)
theorem k_PR_countEntries_0 : px_dec prog_1_method_35_code [.iconst 0, .istore_n 1, .iconst 0, .istore_n 2] 0 = true := by decide +kernel
theorem k_PR_countEntries_4 : px_dec prog_1_method_35_code [.iload_n 2, .aload_n 0] 4 = true := by decide +kernel
theorem d_PR_countEntries_6 : decode prog_1_method_35_code 6 = .ok (.getfield 19, 3) := by decide +kernel
theorem d_PR_countEntries_9 : decode prog_1_method_35_code 9 = .ok (.invokevirtual 48, 3) := by decide +kernel
theorem d_PR_countEntries_12 : decode prog_1_method_35_code 12 = .ok (.if_icmp .ge 29, 3) := by decide +kernel
theorem k_PR_countEntries_41 : px_dec prog_1_method_35_code [.iload_n 1] 41 = true := by decide +kernel
theorem d_PR_countEntries_42 : decode prog_1_method_35_code 42 = .ok (.ireturn, 1) := by decide +kernel
theorem k_PR_countEntries_15 : px_dec prog_1_method_35_code [.iload_n 1, .aload_n 0] 15 = true := by decide +kernel
theorem d_PR_countEntries_17 : decode prog_1_method_35_code 17 = .ok (.getfield 19, 3) := by decide +kernel
theorem k_PR_countEntries_20 : px_dec prog_1_method_35_code [.iload_n 2] 20 = true := by decide +kernel
theorem d_PR_countEntries_21 : decode prog_1_method_35_code 21 = .ok (.invokevirtual 201, 3) := by decide +kernel
theorem d_PR_countEntries_24 : decode prog_1_method_35_code 24 = .ok (.checkcast 112, 3) := by decide +kernel
theorem d_PR_countEntries_27 : decode prog_1_method_35_code 27 = .ok (.getfield 171, 3) := by decide +kernel
theorem d_PR_countEntries_30 : decode prog_1_method_35_code 30 = .ok (.invokevirtual 48, 3) := by decide +kernel
theorem k_PR_countEntries_33 : px_dec prog_1_method_35_code [.iadd, .istore_n 1, .iinc 2 1] 33 = true := by decide +kernel
theorem d_PR_countEntries_38 : decode prog_1_method_35_code 38 = .ok (.goto (-34), 3) := by decide +kernel
set_option maxRecDepth 100000 in
set_option maxHeartbeats 4000000 in
theorem c_PR_countEntries (l : Launch) (D : va_G) (HB : Heap) (h : hp_T) (x gl ul pl mo aq tr : Nat) (la : Int32) (hx : h x = some (.inr (0, [.ref gl, .ref ul, .ref pl, .ref mo, .ref aq, .ref tr, .int la]))) (own : oT) (V : vT) (b : Nat) (pA pn pe : Nat → Nat) (eA : Nat → Nat → Nat) (hL : al_ok D h pl b (nu (V 9 0)) (fun k => pA (k + 1))) (hP : cP D h own (nu (V 9 0)) pA pn pe eA V) (hn : nu (V 9 0) ≤ 100) (hE : ∀ q, q ≤ 100 → ok_ (V 16 q) 10) : ct_M l y_PR_countEntries (.code y_PR_countEntries prog_1_method_35_code 3 (Option.some Jvm.ClassFile.FieldType.int)) ({ frames := 3, cells := 0, slots := 0, locals := 64 }) D HB [.ref x] h (fun o h2 => o = .inl (some (.int (ce_ (V 16) (nu (V 9 0))))) ∧ h2 = h) := by
  refine ct_of (by decide) (Nat.le_of_ble_eq_true rfl) rfl ?_
  intro p_ e_ s_ m_ r_ b_ t_ c_ C hnm
  obtain ⟨md, hl, -⟩ := id hL
  refine wk_run C k_PR_countEntries_0 (pc2 := 4) (lv2 := [(2, .int 0), (1, .int 0), (0, .ref x)]) (st2 := []) rfl ?_
  refine Wk.sub (lv2 := [(0, .ref x), (1, .int 0), (2, .int 0)]) [2, 1, 0] rfl ?_
  refine wk_ind (σ := Nat) (hF := fun _ => h) (lvF := fun i => [(0, .ref x), (1, .int (ce_ (V 16) i)), (2, .int (nI i))]) (fun i => nu (V 9 0) - i) (fun i => i ≤ nu (V 9 0)) (fun i hi ih => ?_) 0 (Nat.zero_le _)
  show Wk _ _ _ _ _ _ _ _ _ _ _ _ _ _ _ _ _ _ [(0, .ref x), (1, .int (ce_ (V 16) i)), (2, .int (nI i))] _
  refine wk_run C k_PR_countEntries_4 (pc2 := 6) (lv2 := [(0, .ref x), (1, .int (ce_ (V 16) i)), (2, .int (nI i))]) (st2 := [.ref x, .int (nI i)]) rfl ?_
  refine wk_get C fd_PR_19 hx rfl d_PR_countEntries_6 ?_
  refine wk_callV (cl := ("java/util/ArrayList", T_AL, 3)) (rest := [.int (nI i)]) C (al_size l HB hL) cs_PR_48 kc_AL_size ki_AL hl rfl rfl rfl (Nat.le_of_ble_eq_true rfl) (Nat.le_of_ble_eq_true rfl) (Nat.le_of_ble_eq_true rfl) (Nat.le_of_ble_eq_true rfl) (Nat.le_of_ble_eq_true rfl) d_PR_countEntries_9 (fun v h2 hq => ?_) (fun _ _ z => nomatch z.1)
  obtain ⟨e1, e2⟩ := hq; cases e1; replace e2 := e2.symm; subst e2
  refine wk_br C d_PR_countEntries_12 (P := (nI (nu (V 9 0))) ≤ (nI i)) (tgt := 41) (rest := []) rfl (by decide) (fun c1 => ?_) (fun c1 => ?_)
  ·
    have hie : i = nu (V 9 0) := by have := (nI_leI (by omega) (by omega)).mp c1; omega
    refine wk_run C k_PR_countEntries_41 (pc2 := 42) (lv2 := [(0, .ref x), (1, .int (ce_ (V 16) i)), (2, .int (nI i))]) (st2 := [.int (ce_ (V 16) i)]) rfl ?_
    exact wk_iret C ⟨by rw [hie], rfl⟩ (by decide) (by decide) d_PR_countEntries_42
  ·
    have hlt : i < nu (V 9 0) := by rcases Nat.lt_or_ge i (nu (V 9 0)) with z | z; exact z; exact absurd (nI_le z (by omega)) c1
    refine wk_run C k_PR_countEntries_15 (pc2 := 17) (lv2 := [(0, .ref x), (1, .int (ce_ (V 16) i)), (2, .int (nI i))]) (st2 := [.ref x, .int (ce_ (V 16) i)]) rfl ?_
    refine wk_get C fd_PR_19 hx rfl d_PR_countEntries_17 ?_
    refine wk_run C k_PR_countEntries_20 (pc2 := 21) (lv2 := [(0, .ref x), (1, .int (ce_ (V 16) i)), (2, .int (nI i))]) (st2 := [.int (nI i), .ref pl, .int (ce_ (V 16) i)]) rfl ?_
    refine wk_callV (cl := ("java/util/ArrayList", T_AL, 3)) (rest := [.int (ce_ (V 16) i)]) C (al_get (j := i) l HB hL hlt) cs_PR_201 kc_AL_get ki_AL hl rfl rfl rfl (Nat.le_of_ble_eq_true rfl) (Nat.le_of_ble_eq_true rfl) (Nat.le_of_ble_eq_true rfl) (Nat.le_of_ble_eq_true rfl) (Nat.le_of_ble_eq_true rfl) d_PR_countEntries_21 (fun v h2 hq => ?_) (fun _ _ z => nomatch z.1)
    obtain ⟨e1, e2⟩ := hq; cases e1; replace e2 := e2.symm; subst e2
    show Wk _ _ _ _ _ _ _ _ _ _ _ _ _ _ _ _ _ _ _ (.ref (pA (i + 1)) :: _)
    obtain ⟨⟨ho, -⟩, -, ⟨b2, hL2, -⟩, -⟩ := hP (i + 1) (by omega) hlt
    obtain ⟨md2, hl2, -⟩ := id hL2
    refine wk_cast C ho rfl cl_PR_112 d_PR_countEntries_24 ?_
    refine wk_get C fd_PR_171 ho rfl d_PR_countEntries_27 ?_
    refine wk_callV (cl := ("java/util/ArrayList", T_AL, 3)) (rest := [.int (ce_ (V 16) i)]) C (al_size l HB hL2) cs_PR_48 kc_AL_size ki_AL hl2 rfl rfl rfl (Nat.le_of_ble_eq_true rfl) (Nat.le_of_ble_eq_true rfl) (Nat.le_of_ble_eq_true rfl) (Nat.le_of_ble_eq_true rfl) (Nat.le_of_ble_eq_true rfl) d_PR_countEntries_30 (fun v h2 hq => ?_) (fun _ _ z => nomatch z.1)
    obtain ⟨e1, e2⟩ := hq; cases e1; replace e2 := e2.symm; subst e2
    rw [← (hE (i + 1) (by omega)).1]
    refine wk_run C k_PR_countEntries_33 (pc2 := 38) (lv2 := [(2, .int ((nI i) + 1)), (1, .int ((ce_ (V 16) i) + (V 16 (i + 1)))), (0, .ref x)]) (st2 := []) rfl ?_
    refine wk_goto C d_PR_countEntries_38 (tgt := 4) (by decide) ?_
    refine Wk.sub (lv2 := [(0, .ref x), (1, .int ((ce_ (V 16) i) + (V 16 (i + 1)))), (2, .int ((nI i) + 1))]) [2, 1, 0] rfl ?_
    rw [nI_1]
    exact ih (i + 1) hlt (by omega)
theorem k_PF_init_0 : px_dec prog_5_method_1_code [.aload_n 0] 0 = true := by decide +kernel
theorem d_PF_init_1 : decode prog_5_method_1_code 1 = .ok (.invokespecial 3, 3) := by decide +kernel
theorem k_PF_init_4 : px_dec prog_5_method_1_code [.aload_n 0, .iload_n 1] 4 = true := by decide +kernel
theorem d_PF_init_6 : decode prog_5_method_1_code 6 = .ok (.putfield 9, 3) := by decide +kernel
theorem k_PF_init_9 : px_dec prog_5_method_1_code [.aload_n 0, .iload_n 2] 9 = true := by decide +kernel
theorem d_PF_init_11 : decode prog_5_method_1_code 11 = .ok (.putfield 15, 3) := by decide +kernel
theorem k_PF_init_14 : px_dec prog_5_method_1_code [.aload_n 0] 14 = true := by decide +kernel
theorem d_PF_init_15 : decode prog_5_method_1_code 15 = .ok (.new 18, 3) := by decide +kernel
theorem k_PF_init_18 : px_dec prog_5_method_1_code [.dup] 18 = true := by decide +kernel
theorem d_PF_init_19 : decode prog_5_method_1_code 19 = .ok (.invokespecial 20, 3) := by decide +kernel
theorem d_PF_init_22 : decode prog_5_method_1_code 22 = .ok (.putfield 21, 3) := by decide +kernel
theorem k_PF_init_25 : px_dec prog_5_method_1_code [.aload_n 0] 25 = true := by decide +kernel
theorem d_PF_init_26 : decode prog_5_method_1_code 26 = .ok (.new 25, 3) := by decide +kernel
theorem k_PF_init_29 : px_dec prog_5_method_1_code [.dup] 29 = true := by decide +kernel
theorem d_PF_init_30 : decode prog_5_method_1_code 30 = .ok (.invokespecial 27, 3) := by decide +kernel
theorem d_PF_init_33 : decode prog_5_method_1_code 33 = .ok (.putfield 28, 3) := by decide +kernel
theorem k_PF_init_36 : px_dec prog_5_method_1_code [.aload_n 0, .iconst 0] 36 = true := by decide +kernel
theorem d_PF_init_38 : decode prog_5_method_1_code 38 = .ok (.putfield 32, 3) := by decide +kernel
theorem k_PF_init_41 : px_dec prog_5_method_1_code [.aload_n 0, .iconst 0] 41 = true := by decide +kernel
theorem d_PF_init_43 : decode prog_5_method_1_code 43 = .ok (.putfield 35, 3) := by decide +kernel
theorem d_PF_init_46 : decode prog_5_method_1_code 46 = .ok (.return_, 1) := by decide +kernel
set_option maxRecDepth 100000 in
set_option maxHeartbeats 4000000 in
theorem c_PF_init (l : Launch) (D : va_G) (HB : Heap) (h : hp_T) (a : Nat) (n k f0 f1 f4 f5 : Int32) (f : Nat → Int32) (g : Nat → Nat) (ha : h a = some (.inr (5, [.int f0, .int f1, .null, .null, .int f4, .int f5]))) : ct_M l y_PF_init (.code y_PF_init prog_5_method_1_code 3 (Option.none : Option Jvm.ClassFile.FieldType)) ({ frames := 4, cells := 3, slots := 40, locals := 80 }) D HB [.ref a, .int n, .int k] h (fun o h2 => o = .inl none ∧ ∃ pn pc pe : Nat, h pn = none ∧ h pc = none ∧ h pe = none ∧ pn ≠ pc ∧ pn ≠ pe ∧ pc ≠ pe ∧ h2 a = some (.inr (5, [.int n, .int k, .ref pn, .ref pe, .int 0, .int 0])) ∧ nm_ok D h2 pn pc 0 f ∧ al_ok D h2 pe (D.2 200 0) 0 g ∧ ∀ q x, q ≠ a → h q = some x → h2 q = some x) := by
  refine ct_of (by decide) (Nat.le_of_ble_eq_true rfl) rfl ?_
  intro p_ e_ s_ m_ r_ b_ t_ c_ C hnm
  refine wk_run C k_PF_init_0 (pc2 := 1) (lv2 := [(0, .ref a), (1, .int n), (2, .int k)]) (st2 := [.ref a]) rfl ?_
  refine wk_obj C ml_PF_3 kj_in kj_cd (by decide) (by decide) d_PF_init_1 ?_
  refine wk_run C k_PF_init_4 (pc2 := 6) (lv2 := [(0, .ref a), (1, .int n), (2, .int k)]) (st2 := [.int n, .ref a]) rfl ?_
  refine wk_putF (fs2 := [.int n, .int f1, .null, .null, .int f4, .int f5]) C ff_PF_9 hnm ha rfl rfl (Nat.le_of_ble_eq_true rfl) rfl d_PF_init_6 ?_
  refine wk_run C k_PF_init_9 (pc2 := 11) (lv2 := [(0, .ref a), (1, .int n), (2, .int k)]) (st2 := [.int k, .ref a]) rfl ?_
  refine wk_putF (fs2 := [.int n, .int k, .null, .null, .int f4, .int f5]) C ff_PF_15 hnm hp_us rfl rfl (Nat.le_of_ble_eq_true rfl) rfl d_PF_init_11 ?_
  rw [hp_uu]
  refine wk_run C k_PF_init_14 (pc2 := 15) (lv2 := [(0, .ref a), (1, .int n), (2, .int k)]) (st2 := [.ref a]) rfl ?_
  obtain ⟨g1, hg1⟩ : ∃ g1 : hp_T, g1 = hp_up h a (.inr (5, [.int n, .int k, .null, .null, .int f4, .int f5])) := ⟨_, rfl⟩
  rw [← hg1]
  have a1 : g1 a = some (.inr (5, [.int n, .int k, .null, .null, .int f4, .int f5])) := by rw [hg1, hp_us]
  refine wk_new C nw_PF_18 (Nat.le_of_ble_eq_true rfl) (Nat.le_of_ble_eq_true rfl) d_PF_init_15 (fun pn hn1 => ?_)
  refine wk_run C k_PF_init_18 (pc2 := 19) (lv2 := [(0, .ref a), (1, .int n), (2, .int k)]) (st2 := [.ref pn, .ref pn, .ref a]) rfl ?_
  refine wk_callI (rest := [.ref pn, .ref a]) C (c_NM_init l D HB _ pn 0 0 0 hp_us) cs_PF_20 kc_NM_init ki_NM rfl rfl (Nat.le_of_ble_eq_true rfl) (Nat.le_of_ble_eq_true rfl) (Nat.le_of_ble_eq_true rfl) (Nat.le_of_ble_eq_true rfl) (Nat.le_of_ble_eq_true rfl) d_PF_init_19 (fun v h3 hq => ?_) (fun _ _ z => nomatch z.1)
  obtain ⟨e1, pc, hn2, e2⟩ := hq; cases e1
  have n1 : a ≠ pn := fun z => by rw [← z, a1] at hn1; cases hn1
  have n2 : pc ≠ pn := fun z => by rw [z, hp_us] at hn2; cases hn2
  rw [hp_un n2] at hn2
  have n3 : a ≠ pc := fun z => by rw [← z, a1] at hn2; cases hn2
  have p1 : h3 a = some (.inr (5, [.int n, .int k, .null, .null, .int f4, .int f5])) := by rw [e2, hp_un n1, hp_un n3, hp_un n1]; exact a1
  refine wk_putF (fs2 := [.int n, .int k, .ref pn, .null, .int f4, .int f5]) C ff_PF_21 hnm p1 rfl rfl (Nat.le_of_ble_eq_true rfl) rfl d_PF_init_22 ?_
  refine wk_run C k_PF_init_25 (pc2 := 26) (lv2 := [(0, .ref a), (1, .int n), (2, .int k)]) (st2 := [.ref a]) rfl ?_
  obtain ⟨g2, hg2⟩ : ∃ g2 : hp_T, g2 = hp_up h3 a (.inr (5, [.int n, .int k, .ref pn, .null, .int f4, .int f5])) := ⟨_, rfl⟩
  rw [← hg2]
  have q1 : g2 pn = some (.inr (3, [.ref pc, .int 0, .int 0, .int 0])) := by rw [hg2, hp_un (Ne.symm n1), e2, hp_us]
  have q2 : g2 pc = some (.inl (D.1 100, 20, .inl (fun _ => 0))) := by rw [hg2, hp_un (Ne.symm n3), e2, hp_un n2, hp_us]
  have q3 : g2 a = some (.inr (5, [.int n, .int k, .ref pn, .null, .int f4, .int f5])) := by rw [hg2, hp_us]
  refine wk_new C nw_PF_25 (Nat.le_of_ble_eq_true rfl) (Nat.le_of_ble_eq_true rfl) d_PF_init_26 (fun pe hn4 => ?_)
  refine wk_run C k_PF_init_29 (pc2 := 30) (lv2 := [(0, .ref a), (1, .int n), (2, .int k)]) (st2 := [.ref pe, .ref pe, .ref a]) rfl ?_
  have n4 : a ≠ pe := fun z => by rw [← z, q3] at hn4; cases hn4
  have n5 : pn ≠ pe := fun z => by rw [← z, q1] at hn4; cases hn4
  have n6 : pc ≠ pe := fun z => by rw [← z, q2] at hn4; cases hn4
  refine wk_callI (rest := [.ref pe, .ref a]) C (c_AL_init l D HB _ pe 0 0 .null hp_us) cs_PF_27 kc_AL_init ki_AL rfl rfl (Nat.le_of_ble_eq_true rfl) (Nat.le_of_ble_eq_true rfl) (Nat.le_of_ble_eq_true rfl) (Nat.le_of_ble_eq_true rfl) (Nat.le_of_ble_eq_true rfl) d_PF_init_30 (fun v h4 hq => ?_) (fun _ _ z => nomatch z.1)
  obtain ⟨e1, e3⟩ := hq; cases e1
  rw [hp_uu] at e3
  refine wk_putF (fs2 := [.int n, .int k, .ref pn, .ref pe, .int f4, .int f5]) C ff_PF_28 hnm (by rw [e3, hp_un n4]; exact q3) rfl rfl (Nat.le_of_ble_eq_true rfl) rfl d_PF_init_33 ?_
  refine wk_run C k_PF_init_36 (pc2 := 38) (lv2 := [(0, .ref a), (1, .int n), (2, .int k)]) (st2 := [.int 0, .ref a]) rfl ?_
  refine wk_put (fs2 := [.int n, .int k, .ref pn, .ref pe, .int 0, .int f5]) C fd_PF_32 hp_us rfl rfl (Nat.le_of_ble_eq_true rfl) rfl d_PF_init_38 ?_
  refine wk_run C k_PF_init_41 (pc2 := 43) (lv2 := [(0, .ref a), (1, .int n), (2, .int k)]) (st2 := [.int 0, .ref a]) rfl ?_
  refine wk_put (fs2 := [.int n, .int k, .ref pn, .ref pe, .int 0, .int 0]) C fd_PF_35 hp_us rfl rfl (Nat.le_of_ble_eq_true rfl) rfl d_PF_init_43 ?_
  rw [hp_uu, hp_uu]
  have z1 : ∀ q, q ≠ a → q ≠ pn → q ≠ pc → q ≠ pe → h4 q = h q := fun q r1 r2 r3 r4 => by rw [e3, hp_un r4, hg2, hp_un r1, e2, hp_un r2, hp_un r3, hp_un r2, hg1, hp_un r1]
  have hn1b : h pn = none := by rw [hg1, hp_un (Ne.symm n1)] at hn1; exact hn1
  have hn2b : h pc = none := by rw [hg1, hp_un (Ne.symm n3)] at hn2; exact hn2
  have hn4b : h pe = none := by rw [hg2, hp_un (Ne.symm n4), e2, hp_un (Ne.symm n5), hp_un (Ne.symm n6), hp_un (Ne.symm n5), hg1, hp_un (Ne.symm n4)] at hn4; exact hn4
  exact wk_vret C ⟨rfl, pn, pc, pe, hn1b, hn2b, hn4b, Ne.symm n2, n5, n6, hp_us, ⟨by rw [hp_un (Ne.symm n1), e3, hp_un n5]; exact q1, ⟨fun _ => 0, by rw [hp_un (Ne.symm n3), e3, hp_un n6]; exact q2, fun i hi => absurd hi (Nat.not_lt_zero i)⟩, Nat.zero_le _⟩, ⟨0, by rw [hp_un (Ne.symm n4), e3, hp_us]; rfl, Or.inl ⟨rfl, rfl⟩⟩, fun q x r1 hx => by rw [hp_un r1, z1 q r1 (fun z => by rw [z, hn1b] at hx; cases hx) (fun z => by rw [z, hn2b] at hx; cases hx) (fun z => by rw [z, hn4b] at hx; cases hx)]; exact hx⟩ (by decide) (by decide) d_PF_init_46
