theorem an_m {m : Int32} {j : Nat} (x : Int32) (hm : ∀ k, k < 32 → bt m k = decide (k = j)) : x &&& m = 0 ∨ x &&& m = m := by
  by_cases z : bt x j = true
  · refine Or.inr (Int32.toBitVec_inj.mp (BitVec.eq_of_getLsbD_eq (fun i hi => ?_)))
    show bt (x &&& m) i = bt m i
    rw [bt_and, hm i hi]
    by_cases y : i = j
    · subst y; simp [z]
    · simp [y]
  · refine Or.inl (Int32.toBitVec_inj.mp (BitVec.eq_of_getLsbD_eq (fun i hi => ?_)))
    show bt (x &&& m) i = bt 0 i
    rw [bt_and, hm i hi, show bt 0 i = false from by unfold bt; exact BitVec.getLsbD_zero]
    by_cases y : i = j
    · subst y; simp only [Bool.not_eq_true] at z; simp [z]
    · simp [y]
theorem an_4 (x : Int32) : x &&& 4 = 0 ↔ ¬ 0 < x &&& 4 := by
  rcases an_m (m := 4) (j := 2) x (by decide +kernel) with k | k <;> rw [k] <;> decide
theorem an_2 (x : Int32) : x &&& 2 = 0 ↔ x &&& 2 ≤ 0 := by
  rcases an_m (m := 2) (j := 1) x (by decide +kernel) with k | k <;> rw [k] <;> decide
theorem an_1 (x : Int32) : x &&& 1 = 0 ↔ x &&& 1 ≤ 0 := by
  rcases an_m (m := 1) (j := 0) x (by decide +kernel) with k | k <;> rw [k] <;> decide
theorem fo_fp {V : vT} {c a : Int32} {n : Nat} (h : ¬ fo_ V c a n = 0) : fp_ V (fo_ V c a n) := by
  induction n with
  | zero => exact absurd rfl h
  | succ n ih =>
    by_cases z : ca_ V c a (n + 1) ∧ fp_ V (n + 1) ∧ (fo_ V c a n = 0 ∨ mo_ V (n + 1) (fo_ V c a n))
    · rw [fo_p z]; exact z.2.1
    · rw [fo_n z] at h ⊢; exact ih h
def bp_ (pA : Nat → Nat) (k : Nat) : Value := if k = 0 then .null else .ref (pA k)
theorem bp_0 {pA : Nat → Nat} {k : Nat} (h : k = 0) : bp_ pA k = .null := if_pos h
theorem bp_n {pA : Nat → Nat} {k : Nat} (h : ¬ k = 0) : bp_ pA k = .ref (pA k) := if_neg h

theorem k_PR_mostSpecial_0 : px_dec prog_1_method_33_code [.aconst_null, .astore 4, .iconst 0, .istore 5] 0 = true := by decide +kernel
theorem k_PR_mostSpecial_6 : px_dec prog_1_method_33_code [.iload 5, .aload_n 0] 6 = true := by decide +kernel
theorem d_PR_mostSpecial_9 : decode prog_1_method_33_code 9 = .ok (.getfield 19, 3) := by decide +kernel
theorem d_PR_mostSpecial_12 : decode prog_1_method_33_code 12 = .ok (.invokevirtual 48, 3) := by decide +kernel
theorem d_PR_mostSpecial_15 : decode prog_1_method_33_code 15 = .ok (.if_icmp .ge 88, 3) := by decide +kernel
theorem k_PR_mostSpecial_103 : px_dec prog_1_method_33_code [.aload 4] 103 = true := by decide +kernel
theorem d_PR_mostSpecial_105 : decode prog_1_method_33_code 105 = .ok (.areturn, 1) := by decide +kernel
theorem k_PR_mostSpecial_18 : px_dec prog_1_method_33_code [.aload_n 0] 18 = true := by decide +kernel
theorem d_PR_mostSpecial_19 : decode prog_1_method_33_code 19 = .ok (.getfield 19, 3) := by decide +kernel
theorem k_PR_mostSpecial_22 : px_dec prog_1_method_33_code [.iload 5] 22 = true := by decide +kernel
theorem d_PR_mostSpecial_24 : decode prog_1_method_33_code 24 = .ok (.invokevirtual 201, 3) := by decide +kernel
theorem d_PR_mostSpecial_27 : decode prog_1_method_33_code 27 = .ok (.checkcast 112, 3) := by decide +kernel
theorem k_PR_mostSpecial_30 : px_dec prog_1_method_33_code [.astore 6, .aload 6] 30 = true := by decide +kernel
theorem d_PR_mostSpecial_34 : decode prog_1_method_33_code 34 = .ok (.getfield 251, 3) := by decide +kernel
theorem k_PR_mostSpecial_37 : px_dec prog_1_method_33_code [.iload_n 1] 37 = true := by decide +kernel
theorem d_PR_mostSpecial_38 : decode prog_1_method_33_code 38 = .ok (.if_icmp .ne 59, 3) := by decide +kernel
theorem k_PR_mostSpecial_97 : px_dec prog_1_method_33_code [.iinc 5 1] 97 = true := by decide +kernel
theorem d_PR_mostSpecial_100 : decode prog_1_method_33_code 100 = .ok (.goto (-94), 3) := by decide +kernel
theorem k_PR_mostSpecial_41 : px_dec prog_1_method_33_code [.iload_n 3] 41 = true := by decide +kernel
theorem d_PR_mostSpecial_42 : decode prog_1_method_33_code 42 = .ok (.ifCond .eq 12, 3) := by decide +kernel
theorem k_PR_mostSpecial_54 : px_dec prog_1_method_33_code [.aload 6] 54 = true := by decide +kernel
theorem d_PR_mostSpecial_56 : decode prog_1_method_33_code 56 = .ok (.getfield 121, 3) := by decide +kernel
theorem k_PR_mostSpecial_59 : px_dec prog_1_method_33_code [.aload_n 0] 59 = true := by decide +kernel
theorem d_PR_mostSpecial_60 : decode prog_1_method_33_code 60 = .ok (.getfield 29, 3) := by decide +kernel
theorem d_PR_mostSpecial_63 : decode prog_1_method_33_code 63 = .ok (.invokevirtual 257, 3) := by decide +kernel
theorem d_PR_mostSpecial_66 : decode prog_1_method_33_code 66 = .ok (.ifCond .ne 6, 3) := by decide +kernel
theorem k_PR_mostSpecial_72 : px_dec prog_1_method_33_code [.aload 4] 72 = true := by decide +kernel
theorem d_PR_mostSpecial_74 : decode prog_1_method_33_code 74 = .ok (.ifnull 19, 3) := by decide +kernel
theorem k_PR_mostSpecial_93 : px_dec prog_1_method_33_code [.aload 6, .astore 4] 93 = true := by decide +kernel
theorem d_PR_mostSpecial_69 : decode prog_1_method_33_code 69 = .ok (.goto 28, 3) := by decide +kernel
theorem k_PR_mostSpecial_45 : px_dec prog_1_method_33_code [.aload 6, .iload_n 2] 45 = true := by decide +kernel
theorem d_PR_mostSpecial_48 : decode prog_1_method_33_code 48 = .ok (.invokevirtual 254, 3) := by decide +kernel
theorem d_PR_mostSpecial_51 : decode prog_1_method_33_code 51 = .ok (.ifCond .eq 46, 3) := by decide +kernel
theorem k_PR_mostSpecial_77 : px_dec prog_1_method_33_code [.aload 6] 77 = true := by decide +kernel
theorem d_PR_mostSpecial_79 : decode prog_1_method_33_code 79 = .ok (.getfield 121, 3) := by decide +kernel
theorem k_PR_mostSpecial_82 : px_dec prog_1_method_33_code [.aload 4] 82 = true := by decide +kernel
theorem d_PR_mostSpecial_84 : decode prog_1_method_33_code 84 = .ok (.getfield 121, 3) := by decide +kernel
theorem d_PR_mostSpecial_87 : decode prog_1_method_33_code 87 = .ok (.invokevirtual 261, 3) := by decide +kernel
theorem d_PR_mostSpecial_90 : decode prog_1_method_33_code 90 = .ok (.ifCond .eq 7, 3) := by decide +kernel
set_option maxRecDepth 100000 in
set_option maxHeartbeats 4000000 in
theorem c_PR_mostSpecial1 (l : Launch) (D : va_G) (HB : Heap) (h : hp_T) (x gl ul pl mo aq tr : Nat) (la : Int32) (hx : h x = some (.inr (0, [.ref gl, .ref ul, .ref pl, .ref mo, .ref aq, .ref tr, .int la]))) (own : oT) (V : vT) (b : Nat) (pA pn pe : Nat → Nat) (eA : Nat → Nat → Nat) (c a : Int32) (hL : al_ok D h pl b (nu (V 9 0)) (fun k => pA (k + 1))) (hP : cP D h own (nu (V 9 0)) pA pn pe eA V) (hN : cN D h own 5 0 aq (nu (V 22 0)) (V 21)) (hn : nu (V 9 0) ≤ 60) (ha : ¬ a = 0) : ct_M l y_PR_mostSpecial (.code y_PR_mostSpecial prog_1_method_33_code 7 (Option.some (Jvm.ClassFile.FieldType.object "ProfileRights$Profile"))) ({ frames := 4, cells := 0, slots := 0, locals := 80 }) D HB [.ref x, .int c, .int a, .int 1] h (fun o h2 => o = .inl (some (bp_ pA (fo_ V c a (nu (V 9 0))))) ∧ h2 = h) := by
  refine ct_of (by decide) (Nat.le_of_ble_eq_true rfl) rfl ?_
  intro p_ e_ s_ m_ r_ b_ t_ c_ C hnm
  obtain ⟨md, hl, -⟩ := id hL
  obtain ⟨ac, ⟨hq1, ⟨qf, hq2, hq3⟩, hq4⟩, -, -⟩ := hN
  have hmore : ∀ i j, 1 ≤ i → i ≤ nu (V 9 0) → 1 ≤ j → j ≤ nu (V 9 0) → fp_ V i → fp_ V j → ct_M l y_NM_isMoreSpecialThan (.code y_NM_isMoreSpecialThan prog_4_method_6_code 2 (Option.some Jvm.ClassFile.FieldType.boolean)) ({ frames := 1, cells := 0, slots := 0, locals := 21 }) D HB [.ref (pn i), .ref (pn j)] h (fun o h2 => o = .inl (some (.int (z_ (mo_ V i j)))) ∧ h2 = h) := fun i j i1 i2 j1 j2 fi fj => by
    obtain ⟨-, ⟨c1, ⟨r1, -, r4⟩, -, -⟩, -, -⟩ := hP i i1 i2
    obtain ⟨-, ⟨c2, ⟨s1, -, s4⟩, -, -⟩, -, -⟩ := hP j j1 j2
    have z := c_NM_isMore l D HB h (pn i) (pn j) c1 c2 _ _ _ _ _ _ r1 s1
    rw [mo_e r4 s4 fi fj] at z
    exact z
  refine wk_run C k_PR_mostSpecial_0 (pc2 := 6) (lv2 := [(5, .int 0), (4, .null), (0, .ref x), (1, .int c), (2, .int a), (3, .int 1)]) (st2 := []) rfl ?_
  refine Wk.sub (lv2 := [(0, .ref x), (1, .int c), (2, .int a), (3, .int 1), (4, .null), (5, .int 0)]) [2, 3, 4, 5, 1, 0] rfl ?_
  refine wk_ind (σ := Nat) (hF := fun _ => h) (lvF := fun i => [(0, .ref x), (1, .int c), (2, .int a), (3, .int 1), (4, bp_ pA (fo_ V c a i)), (5, .int (nI i))]) (fun i => nu (V 9 0) - i) (fun i => i ≤ nu (V 9 0)) (fun i hi ih => ?_) 0 (Nat.zero_le _)
  show Wk _ _ _ _ _ _ _ _ _ _ _ _ _ _ _ _ _ _ [(0, .ref x), (1, .int c), (2, .int a), (3, .int 1), (4, bp_ pA (fo_ V c a i)), (5, .int (nI i))] _
  have hfo := fo_le V c a i
  by_cases hz : fo_ V c a i = 0
  ·
    rw [bp_0 hz]
    refine wk_run C k_PR_mostSpecial_6 (pc2 := 9) (lv2 := [(0, .ref x), (1, .int c), (2, .int a), (3, .int 1), (4, .null), (5, .int (nI i))]) (st2 := [.ref x, .int (nI i)]) rfl ?_
    refine wk_get C fd_PR_19 hx rfl d_PR_mostSpecial_9 ?_
    refine wk_callV (cl := ("java/util/ArrayList", T_AL, 3)) (rest := [.int (nI i)]) C (al_size l HB hL) cs_PR_48 kc_AL_size ki_AL hl rfl rfl rfl (Nat.le_of_ble_eq_true rfl) (Nat.le_of_ble_eq_true rfl) (Nat.le_of_ble_eq_true rfl) (Nat.le_of_ble_eq_true rfl) (Nat.le_of_ble_eq_true rfl) d_PR_mostSpecial_12 (fun v h2 hq => ?_) (fun _ _ z => nomatch z.1)
    obtain ⟨e1, e2⟩ := hq; cases e1; replace e2 := e2.symm; subst e2
    refine wk_br C d_PR_mostSpecial_15 (P := (nI (nu (V 9 0))) ≤ (nI i)) (tgt := 103) (rest := []) rfl (by decide) (fun c1 => ?_) (fun c1 => ?_)
    ·
      have hie : i = nu (V 9 0) := by have := (nI_leI (by omega) (by omega)).mp c1; omega
      refine wk_run C k_PR_mostSpecial_103 (pc2 := 105) (lv2 := [(0, .ref x), (1, .int c), (2, .int a), (3, .int 1), (4, .null), (5, .int (nI i))]) (st2 := [.null]) rfl ?_
      exact wk_aret C rfl (Or.inl ⟨_, rfl⟩) (Or.inl rfl) ⟨by rw [← hie, bp_0 hz], rfl⟩ (by decide) (by decide) d_PR_mostSpecial_105
    ·
      have hlt : i < nu (V 9 0) := by rcases Nat.lt_or_ge i (nu (V 9 0)) with z | z; exact z; exact absurd (nI_le z (by omega)) c1
      refine wk_run C k_PR_mostSpecial_18 (pc2 := 19) (lv2 := [(0, .ref x), (1, .int c), (2, .int a), (3, .int 1), (4, .null), (5, .int (nI i))]) (st2 := [.ref x]) rfl ?_
      refine wk_get C fd_PR_19 hx rfl d_PR_mostSpecial_19 ?_
      refine wk_run C k_PR_mostSpecial_22 (pc2 := 24) (lv2 := [(0, .ref x), (1, .int c), (2, .int a), (3, .int 1), (4, .null), (5, .int (nI i))]) (st2 := [.int (nI i), .ref pl]) rfl ?_
      refine wk_callV (cl := ("java/util/ArrayList", T_AL, 3)) (rest := []) C (al_get (j := i) l HB hL hlt) cs_PR_201 kc_AL_get ki_AL hl rfl rfl rfl (Nat.le_of_ble_eq_true rfl) (Nat.le_of_ble_eq_true rfl) (Nat.le_of_ble_eq_true rfl) (Nat.le_of_ble_eq_true rfl) (Nat.le_of_ble_eq_true rfl) d_PR_mostSpecial_24 (fun v h2 hq => ?_) (fun _ _ z => nomatch z.1)
      obtain ⟨e1, e2⟩ := hq; cases e1; replace e2 := e2.symm; subst e2
      show Wk _ _ _ _ _ _ _ _ _ _ _ _ _ _ _ _ _ _ _ (.ref (pA (i + 1)) :: _)
      obtain ⟨⟨ho, -⟩, ⟨cc2, ⟨hn1, ⟨ng, hn2, hn3⟩, hn4⟩, -, -⟩, -, -⟩ := hP (i + 1) (by omega) hlt
      refine wk_cast C ho rfl cl_PR_112 d_PR_mostSpecial_27 ?_
      refine wk_run C k_PR_mostSpecial_30 (pc2 := 34) (lv2 := [(6, .ref (pA (i + 1))), (0, .ref x), (1, .int c), (2, .int a), (3, .int 1), (4, .null), (5, .int (nI i))]) (st2 := [.ref (pA (i + 1))]) rfl ?_
      refine wk_get C fd_PR_251 ho rfl d_PR_mostSpecial_34 ?_
      refine wk_run C k_PR_mostSpecial_37 (pc2 := 38) (lv2 := [(6, .ref (pA (i + 1))), (0, .ref x), (1, .int c), (2, .int a), (3, .int 1), (4, .null), (5, .int (nI i))]) (st2 := [.int c, .int (V 11 (i + 1))]) rfl ?_
      refine wk_br C d_PR_mostSpecial_38 (P := ¬ (V 11 (i + 1)) = c) (tgt := 97) (rest := []) rfl (by decide) (fun c11 => ?_) (fun c11 => ?_)
      ·
        have e1 : fo_ V c a (i + 1) = fo_ V c a i := fo_n (by clear C ih hmore; have h4 := an_4 (V 15 (i + 1)); grind [z_0, z_1])
        refine wk_run C k_PR_mostSpecial_97 (pc2 := 100) (lv2 := [(5, .int ((nI i) + 1)), (6, .ref (pA (i + 1))), (0, .ref x), (1, .int c), (2, .int a), (3, .int 1), (4, .null)]) (st2 := []) rfl ?_
        refine wk_goto C d_PR_mostSpecial_100 (tgt := 6) (by decide) ?_
        refine Wk.sub (lv2 := [(0, .ref x), (1, .int c), (2, .int a), (3, .int 1), (4, .null), (5, .int ((nI i) + 1))]) [2, 3, 4, 5, 6, 0] rfl ?_
        rw [nI_1]
        refine Wk.lve (lv2 := [(0, .ref x), (1, .int c), (2, .int a), (3, .int 1), (4, bp_ pA (fo_ V c a (i + 1))), (5, .int (nI (i + 1)))]) (by rw [e1, bp_0 hz]) (ih (i + 1) hlt (by omega))
      ·
        refine wk_run C k_PR_mostSpecial_41 (pc2 := 42) (lv2 := [(6, .ref (pA (i + 1))), (0, .ref x), (1, .int c), (2, .int a), (3, .int 1), (4, .null), (5, .int (nI i))]) (st2 := [.int 1]) rfl ?_
        refine wk_br C d_PR_mostSpecial_42 (P := 1 = 0) (tgt := 54) (rest := []) rfl (by decide) (fun c12 => ?_) (fun c12 => ?_)
        ·
          refine wk_run C k_PR_mostSpecial_54 (pc2 := 56) (lv2 := [(6, .ref (pA (i + 1))), (0, .ref x), (1, .int c), (2, .int a), (3, .int 1), (4, .null), (5, .int (nI i))]) (st2 := [.ref (pA (i + 1))]) rfl ?_
          refine wk_get C fd_PR_121 ho rfl d_PR_mostSpecial_56 ?_
          refine wk_run C k_PR_mostSpecial_59 (pc2 := 60) (lv2 := [(6, .ref (pA (i + 1))), (0, .ref x), (1, .int c), (2, .int a), (3, .int 1), (4, .null), (5, .int (nI i))]) (st2 := [.ref x, .ref (pn (i + 1))]) rfl ?_
          refine wk_get C fd_PR_29 hx rfl d_PR_mostSpecial_60 ?_
          refine wk_callV (cl := ("ProfileRights$Name", T_NM, 4)) (rest := []) C (c_NM_fits l D HB h (pn (i + 1)) cc2 (nu (V 13 (i + 1))) aq ac (nu (V 22 0)) (nf_ V (i + 1)) (V 21) ng qf _ _ _ _ hn1 hn2 hn3 hn4 hq1 hq2 hq3 hq4) cs_PR_257 kc_NM_fits ki_NM hn1 rfl rfl rfl (Nat.le_of_ble_eq_true rfl) (Nat.le_of_ble_eq_true rfl) (Nat.le_of_ble_eq_true rfl) (Nat.le_of_ble_eq_true rfl) (Nat.le_of_ble_eq_true rfl) d_PR_mostSpecial_63 (fun v h2 hq => ?_) (fun E h2 hq => by by_cases z : rb_F (nf_ V (i + 1)) (nu (V 13 (i + 1))) (V 21) (nu (V 22 0)); (exact nomatch hq.1 z); exact nomatch hq.2.1 z)
          obtain ⟨k1, k2, e2⟩ := hq; replace e2 := e2.symm; subst e2
          have ev : v = some (.int (z_ (fp_ V (i + 1)))) := by
            by_cases z : rb_F (nf_ V (i + 1)) (nu (V 13 (i + 1))) (V 21) (nu (V 22 0))
            · have k3 := k1 z; cases k3; rw [z_p (show fp_ V (i + 1) from (rb_ft _ _ _ hq4).mp z)]
            · have k3 := k2 z; cases k3; rw [z_n (show ¬ fp_ V (i + 1) from fun y => z ((rb_ft _ _ _ hq4).mpr y))]
          subst ev
          show Wk _ _ _ _ _ _ _ _ _ _ _ _ _ _ _ _ _ _ _ [.int (z_ (fp_ V (i + 1)))]
          refine wk_br C d_PR_mostSpecial_66 (P := ¬ (z_ (fp_ V (i + 1))) = 0) (tgt := 72) (rest := []) rfl (by decide) (fun c13 => ?_) (fun c13 => ?_)
          ·
            refine wk_run C k_PR_mostSpecial_72 (pc2 := 74) (lv2 := [(6, .ref (pA (i + 1))), (0, .ref x), (1, .int c), (2, .int a), (3, .int 1), (4, .null), (5, .int (nI i))]) (st2 := [.null]) rfl ?_
            refine wk_nlN C d_PR_mostSpecial_74 (tgt := 93) (by decide) ?_
            refine wk_run C k_PR_mostSpecial_93 (pc2 := 97) (lv2 := [(4, .ref (pA (i + 1))), (6, .ref (pA (i + 1))), (0, .ref x), (1, .int c), (2, .int a), (3, .int 1), (5, .int (nI i))]) (st2 := []) rfl ?_
            have e1 : fo_ V c a (i + 1) = i + 1 := fo_p (by clear C ih hmore; have h4 := an_4 (V 15 (i + 1)); grind [z_0, z_1])
            refine wk_run C k_PR_mostSpecial_97 (pc2 := 100) (lv2 := [(5, .int ((nI i) + 1)), (4, .ref (pA (i + 1))), (6, .ref (pA (i + 1))), (0, .ref x), (1, .int c), (2, .int a), (3, .int 1)]) (st2 := []) rfl ?_
            refine wk_goto C d_PR_mostSpecial_100 (tgt := 6) (by decide) ?_
            refine Wk.sub (lv2 := [(0, .ref x), (1, .int c), (2, .int a), (3, .int 1), (4, .ref (pA (i + 1))), (5, .int ((nI i) + 1))]) [3, 4, 5, 6, 1, 0] rfl ?_
            rw [nI_1]
            refine Wk.lve (lv2 := [(0, .ref x), (1, .int c), (2, .int a), (3, .int 1), (4, bp_ pA (fo_ V c a (i + 1))), (5, .int (nI (i + 1)))]) (by rw [e1, bp_n (Nat.succ_ne_zero i)]) (ih (i + 1) hlt (by omega))
          ·
            refine wk_goto C d_PR_mostSpecial_69 (tgt := 97) (by decide) ?_
            have e1 : fo_ V c a (i + 1) = fo_ V c a i := fo_n (by clear C ih hmore; have h4 := an_4 (V 15 (i + 1)); grind [z_0, z_1])
            refine wk_run C k_PR_mostSpecial_97 (pc2 := 100) (lv2 := [(5, .int ((nI i) + 1)), (6, .ref (pA (i + 1))), (0, .ref x), (1, .int c), (2, .int a), (3, .int 1), (4, .null)]) (st2 := []) rfl ?_
            refine wk_goto C d_PR_mostSpecial_100 (tgt := 6) (by decide) ?_
            refine Wk.sub (lv2 := [(0, .ref x), (1, .int c), (2, .int a), (3, .int 1), (4, .null), (5, .int ((nI i) + 1))]) [2, 3, 4, 5, 6, 0] rfl ?_
            rw [nI_1]
            refine Wk.lve (lv2 := [(0, .ref x), (1, .int c), (2, .int a), (3, .int 1), (4, bp_ pA (fo_ V c a (i + 1))), (5, .int (nI (i + 1)))]) (by rw [e1, bp_0 hz]) (ih (i + 1) hlt (by omega))
        ·
          refine wk_run C k_PR_mostSpecial_45 (pc2 := 48) (lv2 := [(6, .ref (pA (i + 1))), (0, .ref x), (1, .int c), (2, .int a), (3, .int 1), (4, .null), (5, .int (nI i))]) (st2 := [.int a, .ref (pA (i + 1))]) rfl ?_
          refine wk_callV (cl := ("ProfileRights$Profile", T_PF, 6)) (rest := []) C (c_PF_isOpenToAll l D HB h (pA (i + 1)) (pn (i + 1)) (pe (i + 1)) (nI (i + 1)) (V 11 (i + 1)) (V 14 (i + 1)) (V 15 (i + 1)) ho a) cs_PR_254 kc_PF_isOpenToAll ki_PF ho rfl rfl rfl (Nat.le_of_ble_eq_true rfl) (Nat.le_of_ble_eq_true rfl) (Nat.le_of_ble_eq_true rfl) (Nat.le_of_ble_eq_true rfl) (Nat.le_of_ble_eq_true rfl) d_PR_mostSpecial_48 (fun v h2 hq => ?_) (fun _ _ z => nomatch z.1)
          obtain ⟨e1, e2⟩ := hq; cases e1; replace e2 := e2.symm; subst e2
          refine wk_br C d_PR_mostSpecial_51 (P := (if V 15 (i + 1) &&& 4 = 0 ∨ V 14 (i + 1) < a then (0 : Int32) else 1) = 0) (tgt := 97) (rest := []) rfl (by decide) (fun c14 => ?_) (fun c14 => ?_)
          ·
            have e1 : fo_ V c a (i + 1) = fo_ V c a i := fo_n (by clear C ih hmore; have h4 := an_4 (V 15 (i + 1)); grind [z_0, z_1])
            refine wk_run C k_PR_mostSpecial_97 (pc2 := 100) (lv2 := [(5, .int ((nI i) + 1)), (6, .ref (pA (i + 1))), (0, .ref x), (1, .int c), (2, .int a), (3, .int 1), (4, .null)]) (st2 := []) rfl ?_
            refine wk_goto C d_PR_mostSpecial_100 (tgt := 6) (by decide) ?_
            refine Wk.sub (lv2 := [(0, .ref x), (1, .int c), (2, .int a), (3, .int 1), (4, .null), (5, .int ((nI i) + 1))]) [2, 3, 4, 5, 6, 0] rfl ?_
            rw [nI_1]
            refine Wk.lve (lv2 := [(0, .ref x), (1, .int c), (2, .int a), (3, .int 1), (4, bp_ pA (fo_ V c a (i + 1))), (5, .int (nI (i + 1)))]) (by rw [e1, bp_0 hz]) (ih (i + 1) hlt (by omega))
          ·
            refine wk_run C k_PR_mostSpecial_54 (pc2 := 56) (lv2 := [(6, .ref (pA (i + 1))), (0, .ref x), (1, .int c), (2, .int a), (3, .int 1), (4, .null), (5, .int (nI i))]) (st2 := [.ref (pA (i + 1))]) rfl ?_
            refine wk_get C fd_PR_121 ho rfl d_PR_mostSpecial_56 ?_
            refine wk_run C k_PR_mostSpecial_59 (pc2 := 60) (lv2 := [(6, .ref (pA (i + 1))), (0, .ref x), (1, .int c), (2, .int a), (3, .int 1), (4, .null), (5, .int (nI i))]) (st2 := [.ref x, .ref (pn (i + 1))]) rfl ?_
            refine wk_get C fd_PR_29 hx rfl d_PR_mostSpecial_60 ?_
            refine wk_callV (cl := ("ProfileRights$Name", T_NM, 4)) (rest := []) C (c_NM_fits l D HB h (pn (i + 1)) cc2 (nu (V 13 (i + 1))) aq ac (nu (V 22 0)) (nf_ V (i + 1)) (V 21) ng qf _ _ _ _ hn1 hn2 hn3 hn4 hq1 hq2 hq3 hq4) cs_PR_257 kc_NM_fits ki_NM hn1 rfl rfl rfl (Nat.le_of_ble_eq_true rfl) (Nat.le_of_ble_eq_true rfl) (Nat.le_of_ble_eq_true rfl) (Nat.le_of_ble_eq_true rfl) (Nat.le_of_ble_eq_true rfl) d_PR_mostSpecial_63 (fun v h2 hq => ?_) (fun E h2 hq => by by_cases z : rb_F (nf_ V (i + 1)) (nu (V 13 (i + 1))) (V 21) (nu (V 22 0)); (exact nomatch hq.1 z); exact nomatch hq.2.1 z)
            obtain ⟨k1, k2, e2⟩ := hq; replace e2 := e2.symm; subst e2
            have ev : v = some (.int (z_ (fp_ V (i + 1)))) := by
              by_cases z : rb_F (nf_ V (i + 1)) (nu (V 13 (i + 1))) (V 21) (nu (V 22 0))
              · have k3 := k1 z; cases k3; rw [z_p (show fp_ V (i + 1) from (rb_ft _ _ _ hq4).mp z)]
              · have k3 := k2 z; cases k3; rw [z_n (show ¬ fp_ V (i + 1) from fun y => z ((rb_ft _ _ _ hq4).mpr y))]
            subst ev
            show Wk _ _ _ _ _ _ _ _ _ _ _ _ _ _ _ _ _ _ _ [.int (z_ (fp_ V (i + 1)))]
            refine wk_br C d_PR_mostSpecial_66 (P := ¬ (z_ (fp_ V (i + 1))) = 0) (tgt := 72) (rest := []) rfl (by decide) (fun c15 => ?_) (fun c15 => ?_)
            ·
              refine wk_run C k_PR_mostSpecial_72 (pc2 := 74) (lv2 := [(6, .ref (pA (i + 1))), (0, .ref x), (1, .int c), (2, .int a), (3, .int 1), (4, .null), (5, .int (nI i))]) (st2 := [.null]) rfl ?_
              refine wk_nlN C d_PR_mostSpecial_74 (tgt := 93) (by decide) ?_
              refine wk_run C k_PR_mostSpecial_93 (pc2 := 97) (lv2 := [(4, .ref (pA (i + 1))), (6, .ref (pA (i + 1))), (0, .ref x), (1, .int c), (2, .int a), (3, .int 1), (5, .int (nI i))]) (st2 := []) rfl ?_
              have e1 : fo_ V c a (i + 1) = i + 1 := fo_p (by clear C ih hmore; have h4 := an_4 (V 15 (i + 1)); grind [z_0, z_1])
              refine wk_run C k_PR_mostSpecial_97 (pc2 := 100) (lv2 := [(5, .int ((nI i) + 1)), (4, .ref (pA (i + 1))), (6, .ref (pA (i + 1))), (0, .ref x), (1, .int c), (2, .int a), (3, .int 1)]) (st2 := []) rfl ?_
              refine wk_goto C d_PR_mostSpecial_100 (tgt := 6) (by decide) ?_
              refine Wk.sub (lv2 := [(0, .ref x), (1, .int c), (2, .int a), (3, .int 1), (4, .ref (pA (i + 1))), (5, .int ((nI i) + 1))]) [3, 4, 5, 6, 1, 0] rfl ?_
              rw [nI_1]
              refine Wk.lve (lv2 := [(0, .ref x), (1, .int c), (2, .int a), (3, .int 1), (4, bp_ pA (fo_ V c a (i + 1))), (5, .int (nI (i + 1)))]) (by rw [e1, bp_n (Nat.succ_ne_zero i)]) (ih (i + 1) hlt (by omega))
            ·
              refine wk_goto C d_PR_mostSpecial_69 (tgt := 97) (by decide) ?_
              have e1 : fo_ V c a (i + 1) = fo_ V c a i := fo_n (by clear C ih hmore; have h4 := an_4 (V 15 (i + 1)); grind [z_0, z_1])
              refine wk_run C k_PR_mostSpecial_97 (pc2 := 100) (lv2 := [(5, .int ((nI i) + 1)), (6, .ref (pA (i + 1))), (0, .ref x), (1, .int c), (2, .int a), (3, .int 1), (4, .null)]) (st2 := []) rfl ?_
              refine wk_goto C d_PR_mostSpecial_100 (tgt := 6) (by decide) ?_
              refine Wk.sub (lv2 := [(0, .ref x), (1, .int c), (2, .int a), (3, .int 1), (4, .null), (5, .int ((nI i) + 1))]) [2, 3, 4, 5, 6, 0] rfl ?_
              rw [nI_1]
              refine Wk.lve (lv2 := [(0, .ref x), (1, .int c), (2, .int a), (3, .int 1), (4, bp_ pA (fo_ V c a (i + 1))), (5, .int (nI (i + 1)))]) (by rw [e1, bp_0 hz]) (ih (i + 1) hlt (by omega))
  ·
    rw [bp_n hz]
    obtain ⟨⟨hbo, -⟩, -, -, -⟩ := hP (fo_ V c a i) (by omega) (by omega)
    refine wk_run C k_PR_mostSpecial_6 (pc2 := 9) (lv2 := [(0, .ref x), (1, .int c), (2, .int a), (3, .int 1), (4, .ref (pA (fo_ V c a i))), (5, .int (nI i))]) (st2 := [.ref x, .int (nI i)]) rfl ?_
    refine wk_get C fd_PR_19 hx rfl d_PR_mostSpecial_9 ?_
    refine wk_callV (cl := ("java/util/ArrayList", T_AL, 3)) (rest := [.int (nI i)]) C (al_size l HB hL) cs_PR_48 kc_AL_size ki_AL hl rfl rfl rfl (Nat.le_of_ble_eq_true rfl) (Nat.le_of_ble_eq_true rfl) (Nat.le_of_ble_eq_true rfl) (Nat.le_of_ble_eq_true rfl) (Nat.le_of_ble_eq_true rfl) d_PR_mostSpecial_12 (fun v h2 hq => ?_) (fun _ _ z => nomatch z.1)
    obtain ⟨e1, e2⟩ := hq; cases e1; replace e2 := e2.symm; subst e2
    refine wk_br C d_PR_mostSpecial_15 (P := (nI (nu (V 9 0))) ≤ (nI i)) (tgt := 103) (rest := []) rfl (by decide) (fun c1 => ?_) (fun c1 => ?_)
    ·
      have hie : i = nu (V 9 0) := by have := (nI_leI (by omega) (by omega)).mp c1; omega
      refine wk_run C k_PR_mostSpecial_103 (pc2 := 105) (lv2 := [(0, .ref x), (1, .int c), (2, .int a), (3, .int 1), (4, .ref (pA (fo_ V c a i))), (5, .int (nI i))]) (st2 := [.ref (pA (fo_ V c a i))]) rfl ?_
      exact wk_aret C rfl (Or.inl ⟨_, rfl⟩) (Or.inr ⟨_, rfl⟩) ⟨by rw [← hie, bp_n hz], rfl⟩ (by decide) (by decide) d_PR_mostSpecial_105
    ·
      have hlt : i < nu (V 9 0) := by rcases Nat.lt_or_ge i (nu (V 9 0)) with z | z; exact z; exact absurd (nI_le z (by omega)) c1
      refine wk_run C k_PR_mostSpecial_18 (pc2 := 19) (lv2 := [(0, .ref x), (1, .int c), (2, .int a), (3, .int 1), (4, .ref (pA (fo_ V c a i))), (5, .int (nI i))]) (st2 := [.ref x]) rfl ?_
      refine wk_get C fd_PR_19 hx rfl d_PR_mostSpecial_19 ?_
      refine wk_run C k_PR_mostSpecial_22 (pc2 := 24) (lv2 := [(0, .ref x), (1, .int c), (2, .int a), (3, .int 1), (4, .ref (pA (fo_ V c a i))), (5, .int (nI i))]) (st2 := [.int (nI i), .ref pl]) rfl ?_
      refine wk_callV (cl := ("java/util/ArrayList", T_AL, 3)) (rest := []) C (al_get (j := i) l HB hL hlt) cs_PR_201 kc_AL_get ki_AL hl rfl rfl rfl (Nat.le_of_ble_eq_true rfl) (Nat.le_of_ble_eq_true rfl) (Nat.le_of_ble_eq_true rfl) (Nat.le_of_ble_eq_true rfl) (Nat.le_of_ble_eq_true rfl) d_PR_mostSpecial_24 (fun v h2 hq => ?_) (fun _ _ z => nomatch z.1)
      obtain ⟨e1, e2⟩ := hq; cases e1; replace e2 := e2.symm; subst e2
      show Wk _ _ _ _ _ _ _ _ _ _ _ _ _ _ _ _ _ _ _ (.ref (pA (i + 1)) :: _)
      obtain ⟨⟨ho, -⟩, ⟨cc2, ⟨hn1, ⟨ng, hn2, hn3⟩, hn4⟩, -, -⟩, -, -⟩ := hP (i + 1) (by omega) hlt
      refine wk_cast C ho rfl cl_PR_112 d_PR_mostSpecial_27 ?_
      refine wk_run C k_PR_mostSpecial_30 (pc2 := 34) (lv2 := [(6, .ref (pA (i + 1))), (0, .ref x), (1, .int c), (2, .int a), (3, .int 1), (4, .ref (pA (fo_ V c a i))), (5, .int (nI i))]) (st2 := [.ref (pA (i + 1))]) rfl ?_
      refine wk_get C fd_PR_251 ho rfl d_PR_mostSpecial_34 ?_
      refine wk_run C k_PR_mostSpecial_37 (pc2 := 38) (lv2 := [(6, .ref (pA (i + 1))), (0, .ref x), (1, .int c), (2, .int a), (3, .int 1), (4, .ref (pA (fo_ V c a i))), (5, .int (nI i))]) (st2 := [.int c, .int (V 11 (i + 1))]) rfl ?_
      refine wk_br C d_PR_mostSpecial_38 (P := ¬ (V 11 (i + 1)) = c) (tgt := 97) (rest := []) rfl (by decide) (fun c11 => ?_) (fun c11 => ?_)
      ·
        have e1 : fo_ V c a (i + 1) = fo_ V c a i := fo_n (by clear C ih hmore; have h4 := an_4 (V 15 (i + 1)); grind [z_0, z_1])
        refine wk_run C k_PR_mostSpecial_97 (pc2 := 100) (lv2 := [(5, .int ((nI i) + 1)), (6, .ref (pA (i + 1))), (0, .ref x), (1, .int c), (2, .int a), (3, .int 1), (4, .ref (pA (fo_ V c a i)))]) (st2 := []) rfl ?_
        refine wk_goto C d_PR_mostSpecial_100 (tgt := 6) (by decide) ?_
        refine Wk.sub (lv2 := [(0, .ref x), (1, .int c), (2, .int a), (3, .int 1), (4, .ref (pA (fo_ V c a i))), (5, .int ((nI i) + 1))]) [2, 3, 4, 5, 6, 0] rfl ?_
        rw [nI_1]
        refine Wk.lve (lv2 := [(0, .ref x), (1, .int c), (2, .int a), (3, .int 1), (4, bp_ pA (fo_ V c a (i + 1))), (5, .int (nI (i + 1)))]) (by rw [e1, bp_n hz]) (ih (i + 1) hlt (by omega))
      ·
        refine wk_run C k_PR_mostSpecial_41 (pc2 := 42) (lv2 := [(6, .ref (pA (i + 1))), (0, .ref x), (1, .int c), (2, .int a), (3, .int 1), (4, .ref (pA (fo_ V c a i))), (5, .int (nI i))]) (st2 := [.int 1]) rfl ?_
        refine wk_br C d_PR_mostSpecial_42 (P := 1 = 0) (tgt := 54) (rest := []) rfl (by decide) (fun c12 => ?_) (fun c12 => ?_)
        ·
          refine wk_run C k_PR_mostSpecial_54 (pc2 := 56) (lv2 := [(6, .ref (pA (i + 1))), (0, .ref x), (1, .int c), (2, .int a), (3, .int 1), (4, .ref (pA (fo_ V c a i))), (5, .int (nI i))]) (st2 := [.ref (pA (i + 1))]) rfl ?_
          refine wk_get C fd_PR_121 ho rfl d_PR_mostSpecial_56 ?_
          refine wk_run C k_PR_mostSpecial_59 (pc2 := 60) (lv2 := [(6, .ref (pA (i + 1))), (0, .ref x), (1, .int c), (2, .int a), (3, .int 1), (4, .ref (pA (fo_ V c a i))), (5, .int (nI i))]) (st2 := [.ref x, .ref (pn (i + 1))]) rfl ?_
          refine wk_get C fd_PR_29 hx rfl d_PR_mostSpecial_60 ?_
          refine wk_callV (cl := ("ProfileRights$Name", T_NM, 4)) (rest := []) C (c_NM_fits l D HB h (pn (i + 1)) cc2 (nu (V 13 (i + 1))) aq ac (nu (V 22 0)) (nf_ V (i + 1)) (V 21) ng qf _ _ _ _ hn1 hn2 hn3 hn4 hq1 hq2 hq3 hq4) cs_PR_257 kc_NM_fits ki_NM hn1 rfl rfl rfl (Nat.le_of_ble_eq_true rfl) (Nat.le_of_ble_eq_true rfl) (Nat.le_of_ble_eq_true rfl) (Nat.le_of_ble_eq_true rfl) (Nat.le_of_ble_eq_true rfl) d_PR_mostSpecial_63 (fun v h2 hq => ?_) (fun E h2 hq => by by_cases z : rb_F (nf_ V (i + 1)) (nu (V 13 (i + 1))) (V 21) (nu (V 22 0)); (exact nomatch hq.1 z); exact nomatch hq.2.1 z)
          obtain ⟨k1, k2, e2⟩ := hq; replace e2 := e2.symm; subst e2
          have ev : v = some (.int (z_ (fp_ V (i + 1)))) := by
            by_cases z : rb_F (nf_ V (i + 1)) (nu (V 13 (i + 1))) (V 21) (nu (V 22 0))
            · have k3 := k1 z; cases k3; rw [z_p (show fp_ V (i + 1) from (rb_ft _ _ _ hq4).mp z)]
            · have k3 := k2 z; cases k3; rw [z_n (show ¬ fp_ V (i + 1) from fun y => z ((rb_ft _ _ _ hq4).mpr y))]
          subst ev
          show Wk _ _ _ _ _ _ _ _ _ _ _ _ _ _ _ _ _ _ _ [.int (z_ (fp_ V (i + 1)))]
          refine wk_br C d_PR_mostSpecial_66 (P := ¬ (z_ (fp_ V (i + 1))) = 0) (tgt := 72) (rest := []) rfl (by decide) (fun c13 => ?_) (fun c13 => ?_)
          ·
            refine wk_run C k_PR_mostSpecial_72 (pc2 := 74) (lv2 := [(6, .ref (pA (i + 1))), (0, .ref x), (1, .int c), (2, .int a), (3, .int 1), (4, .ref (pA (fo_ V c a i))), (5, .int (nI i))]) (st2 := [.ref (pA (fo_ V c a i))]) rfl ?_
            refine wk_nlR C d_PR_mostSpecial_74 ?_
            refine wk_run C k_PR_mostSpecial_77 (pc2 := 79) (lv2 := [(6, .ref (pA (i + 1))), (0, .ref x), (1, .int c), (2, .int a), (3, .int 1), (4, .ref (pA (fo_ V c a i))), (5, .int (nI i))]) (st2 := [.ref (pA (i + 1))]) rfl ?_
            refine wk_get C fd_PR_121 ho rfl d_PR_mostSpecial_79 ?_
            refine wk_run C k_PR_mostSpecial_82 (pc2 := 84) (lv2 := [(6, .ref (pA (i + 1))), (0, .ref x), (1, .int c), (2, .int a), (3, .int 1), (4, .ref (pA (fo_ V c a i))), (5, .int (nI i))]) (st2 := [.ref (pA (fo_ V c a i)), .ref (pn (i + 1))]) rfl ?_
            refine wk_get C fd_PR_121 hbo rfl d_PR_mostSpecial_84 ?_
            obtain ⟨-, ⟨cc3, ⟨hn3, -, -⟩, -, -⟩, -, -⟩ := hP (fo_ V c a i) (by omega) (by omega)
            refine wk_callV (cl := ("ProfileRights$Name", T_NM, 4)) (rest := []) C (hmore (i + 1) (fo_ V c a i) (by omega) hlt (by omega) (by omega) (z_1 c13) (fo_fp hz)) cs_PR_261 kc_NM_isMoreSpecialThan ki_NM hn1 rfl rfl rfl (Nat.le_of_ble_eq_true rfl) (Nat.le_of_ble_eq_true rfl) (Nat.le_of_ble_eq_true rfl) (Nat.le_of_ble_eq_true rfl) (Nat.le_of_ble_eq_true rfl) d_PR_mostSpecial_87 (fun v h2 hq => ?_) (fun _ _ z => nomatch z.1)
            obtain ⟨e1, e2⟩ := hq; cases e1; replace e2 := e2.symm; subst e2
            refine wk_br C d_PR_mostSpecial_90 (P := (z_ (mo_ V (i + 1) (fo_ V c a i))) = 0) (tgt := 97) (rest := []) rfl (by decide) (fun c14 => ?_) (fun c14 => ?_)
            ·
              have e1 : fo_ V c a (i + 1) = fo_ V c a i := fo_n (by clear C ih hmore; have h4 := an_4 (V 15 (i + 1)); grind [z_0, z_1])
              refine wk_run C k_PR_mostSpecial_97 (pc2 := 100) (lv2 := [(5, .int ((nI i) + 1)), (6, .ref (pA (i + 1))), (0, .ref x), (1, .int c), (2, .int a), (3, .int 1), (4, .ref (pA (fo_ V c a i)))]) (st2 := []) rfl ?_
              refine wk_goto C d_PR_mostSpecial_100 (tgt := 6) (by decide) ?_
              refine Wk.sub (lv2 := [(0, .ref x), (1, .int c), (2, .int a), (3, .int 1), (4, .ref (pA (fo_ V c a i))), (5, .int ((nI i) + 1))]) [2, 3, 4, 5, 6, 0] rfl ?_
              rw [nI_1]
              refine Wk.lve (lv2 := [(0, .ref x), (1, .int c), (2, .int a), (3, .int 1), (4, bp_ pA (fo_ V c a (i + 1))), (5, .int (nI (i + 1)))]) (by rw [e1, bp_n hz]) (ih (i + 1) hlt (by omega))
            ·
              refine wk_run C k_PR_mostSpecial_93 (pc2 := 97) (lv2 := [(4, .ref (pA (i + 1))), (6, .ref (pA (i + 1))), (0, .ref x), (1, .int c), (2, .int a), (3, .int 1), (5, .int (nI i))]) (st2 := []) rfl ?_
              have e1 : fo_ V c a (i + 1) = i + 1 := fo_p (by clear C ih hmore; have h4 := an_4 (V 15 (i + 1)); grind [z_0, z_1])
              refine wk_run C k_PR_mostSpecial_97 (pc2 := 100) (lv2 := [(5, .int ((nI i) + 1)), (4, .ref (pA (i + 1))), (6, .ref (pA (i + 1))), (0, .ref x), (1, .int c), (2, .int a), (3, .int 1)]) (st2 := []) rfl ?_
              refine wk_goto C d_PR_mostSpecial_100 (tgt := 6) (by decide) ?_
              refine Wk.sub (lv2 := [(0, .ref x), (1, .int c), (2, .int a), (3, .int 1), (4, .ref (pA (i + 1))), (5, .int ((nI i) + 1))]) [3, 4, 5, 6, 1, 0] rfl ?_
              rw [nI_1]
              refine Wk.lve (lv2 := [(0, .ref x), (1, .int c), (2, .int a), (3, .int 1), (4, bp_ pA (fo_ V c a (i + 1))), (5, .int (nI (i + 1)))]) (by rw [e1, bp_n (Nat.succ_ne_zero i)]) (ih (i + 1) hlt (by omega))
          ·
            refine wk_goto C d_PR_mostSpecial_69 (tgt := 97) (by decide) ?_
            have e1 : fo_ V c a (i + 1) = fo_ V c a i := fo_n (by clear C ih hmore; have h4 := an_4 (V 15 (i + 1)); grind [z_0, z_1])
            refine wk_run C k_PR_mostSpecial_97 (pc2 := 100) (lv2 := [(5, .int ((nI i) + 1)), (6, .ref (pA (i + 1))), (0, .ref x), (1, .int c), (2, .int a), (3, .int 1), (4, .ref (pA (fo_ V c a i)))]) (st2 := []) rfl ?_
            refine wk_goto C d_PR_mostSpecial_100 (tgt := 6) (by decide) ?_
            refine Wk.sub (lv2 := [(0, .ref x), (1, .int c), (2, .int a), (3, .int 1), (4, .ref (pA (fo_ V c a i))), (5, .int ((nI i) + 1))]) [2, 3, 4, 5, 6, 0] rfl ?_
            rw [nI_1]
            refine Wk.lve (lv2 := [(0, .ref x), (1, .int c), (2, .int a), (3, .int 1), (4, bp_ pA (fo_ V c a (i + 1))), (5, .int (nI (i + 1)))]) (by rw [e1, bp_n hz]) (ih (i + 1) hlt (by omega))
        ·
          refine wk_run C k_PR_mostSpecial_45 (pc2 := 48) (lv2 := [(6, .ref (pA (i + 1))), (0, .ref x), (1, .int c), (2, .int a), (3, .int 1), (4, .ref (pA (fo_ V c a i))), (5, .int (nI i))]) (st2 := [.int a, .ref (pA (i + 1))]) rfl ?_
          refine wk_callV (cl := ("ProfileRights$Profile", T_PF, 6)) (rest := []) C (c_PF_isOpenToAll l D HB h (pA (i + 1)) (pn (i + 1)) (pe (i + 1)) (nI (i + 1)) (V 11 (i + 1)) (V 14 (i + 1)) (V 15 (i + 1)) ho a) cs_PR_254 kc_PF_isOpenToAll ki_PF ho rfl rfl rfl (Nat.le_of_ble_eq_true rfl) (Nat.le_of_ble_eq_true rfl) (Nat.le_of_ble_eq_true rfl) (Nat.le_of_ble_eq_true rfl) (Nat.le_of_ble_eq_true rfl) d_PR_mostSpecial_48 (fun v h2 hq => ?_) (fun _ _ z => nomatch z.1)
          obtain ⟨e1, e2⟩ := hq; cases e1; replace e2 := e2.symm; subst e2
          refine wk_br C d_PR_mostSpecial_51 (P := (if V 15 (i + 1) &&& 4 = 0 ∨ V 14 (i + 1) < a then (0 : Int32) else 1) = 0) (tgt := 97) (rest := []) rfl (by decide) (fun c15 => ?_) (fun c15 => ?_)
          ·
            have e1 : fo_ V c a (i + 1) = fo_ V c a i := fo_n (by clear C ih hmore; have h4 := an_4 (V 15 (i + 1)); grind [z_0, z_1])
            refine wk_run C k_PR_mostSpecial_97 (pc2 := 100) (lv2 := [(5, .int ((nI i) + 1)), (6, .ref (pA (i + 1))), (0, .ref x), (1, .int c), (2, .int a), (3, .int 1), (4, .ref (pA (fo_ V c a i)))]) (st2 := []) rfl ?_
            refine wk_goto C d_PR_mostSpecial_100 (tgt := 6) (by decide) ?_
            refine Wk.sub (lv2 := [(0, .ref x), (1, .int c), (2, .int a), (3, .int 1), (4, .ref (pA (fo_ V c a i))), (5, .int ((nI i) + 1))]) [2, 3, 4, 5, 6, 0] rfl ?_
            rw [nI_1]
            refine Wk.lve (lv2 := [(0, .ref x), (1, .int c), (2, .int a), (3, .int 1), (4, bp_ pA (fo_ V c a (i + 1))), (5, .int (nI (i + 1)))]) (by rw [e1, bp_n hz]) (ih (i + 1) hlt (by omega))
          ·
            refine wk_run C k_PR_mostSpecial_54 (pc2 := 56) (lv2 := [(6, .ref (pA (i + 1))), (0, .ref x), (1, .int c), (2, .int a), (3, .int 1), (4, .ref (pA (fo_ V c a i))), (5, .int (nI i))]) (st2 := [.ref (pA (i + 1))]) rfl ?_
            refine wk_get C fd_PR_121 ho rfl d_PR_mostSpecial_56 ?_
            refine wk_run C k_PR_mostSpecial_59 (pc2 := 60) (lv2 := [(6, .ref (pA (i + 1))), (0, .ref x), (1, .int c), (2, .int a), (3, .int 1), (4, .ref (pA (fo_ V c a i))), (5, .int (nI i))]) (st2 := [.ref x, .ref (pn (i + 1))]) rfl ?_
            refine wk_get C fd_PR_29 hx rfl d_PR_mostSpecial_60 ?_
            refine wk_callV (cl := ("ProfileRights$Name", T_NM, 4)) (rest := []) C (c_NM_fits l D HB h (pn (i + 1)) cc2 (nu (V 13 (i + 1))) aq ac (nu (V 22 0)) (nf_ V (i + 1)) (V 21) ng qf _ _ _ _ hn1 hn2 hn3 hn4 hq1 hq2 hq3 hq4) cs_PR_257 kc_NM_fits ki_NM hn1 rfl rfl rfl (Nat.le_of_ble_eq_true rfl) (Nat.le_of_ble_eq_true rfl) (Nat.le_of_ble_eq_true rfl) (Nat.le_of_ble_eq_true rfl) (Nat.le_of_ble_eq_true rfl) d_PR_mostSpecial_63 (fun v h2 hq => ?_) (fun E h2 hq => by by_cases z : rb_F (nf_ V (i + 1)) (nu (V 13 (i + 1))) (V 21) (nu (V 22 0)); (exact nomatch hq.1 z); exact nomatch hq.2.1 z)
            obtain ⟨k1, k2, e2⟩ := hq; replace e2 := e2.symm; subst e2
            have ev : v = some (.int (z_ (fp_ V (i + 1)))) := by
              by_cases z : rb_F (nf_ V (i + 1)) (nu (V 13 (i + 1))) (V 21) (nu (V 22 0))
              · have k3 := k1 z; cases k3; rw [z_p (show fp_ V (i + 1) from (rb_ft _ _ _ hq4).mp z)]
              · have k3 := k2 z; cases k3; rw [z_n (show ¬ fp_ V (i + 1) from fun y => z ((rb_ft _ _ _ hq4).mpr y))]
            subst ev
            show Wk _ _ _ _ _ _ _ _ _ _ _ _ _ _ _ _ _ _ _ [.int (z_ (fp_ V (i + 1)))]
            refine wk_br C d_PR_mostSpecial_66 (P := ¬ (z_ (fp_ V (i + 1))) = 0) (tgt := 72) (rest := []) rfl (by decide) (fun c16 => ?_) (fun c16 => ?_)
            ·
              refine wk_run C k_PR_mostSpecial_72 (pc2 := 74) (lv2 := [(6, .ref (pA (i + 1))), (0, .ref x), (1, .int c), (2, .int a), (3, .int 1), (4, .ref (pA (fo_ V c a i))), (5, .int (nI i))]) (st2 := [.ref (pA (fo_ V c a i))]) rfl ?_
              refine wk_nlR C d_PR_mostSpecial_74 ?_
              refine wk_run C k_PR_mostSpecial_77 (pc2 := 79) (lv2 := [(6, .ref (pA (i + 1))), (0, .ref x), (1, .int c), (2, .int a), (3, .int 1), (4, .ref (pA (fo_ V c a i))), (5, .int (nI i))]) (st2 := [.ref (pA (i + 1))]) rfl ?_
              refine wk_get C fd_PR_121 ho rfl d_PR_mostSpecial_79 ?_
              refine wk_run C k_PR_mostSpecial_82 (pc2 := 84) (lv2 := [(6, .ref (pA (i + 1))), (0, .ref x), (1, .int c), (2, .int a), (3, .int 1), (4, .ref (pA (fo_ V c a i))), (5, .int (nI i))]) (st2 := [.ref (pA (fo_ V c a i)), .ref (pn (i + 1))]) rfl ?_
              refine wk_get C fd_PR_121 hbo rfl d_PR_mostSpecial_84 ?_
              obtain ⟨-, ⟨cc3, ⟨hn3, -, -⟩, -, -⟩, -, -⟩ := hP (fo_ V c a i) (by omega) (by omega)
              refine wk_callV (cl := ("ProfileRights$Name", T_NM, 4)) (rest := []) C (hmore (i + 1) (fo_ V c a i) (by omega) hlt (by omega) (by omega) (z_1 c16) (fo_fp hz)) cs_PR_261 kc_NM_isMoreSpecialThan ki_NM hn1 rfl rfl rfl (Nat.le_of_ble_eq_true rfl) (Nat.le_of_ble_eq_true rfl) (Nat.le_of_ble_eq_true rfl) (Nat.le_of_ble_eq_true rfl) (Nat.le_of_ble_eq_true rfl) d_PR_mostSpecial_87 (fun v h2 hq => ?_) (fun _ _ z => nomatch z.1)
              obtain ⟨e1, e2⟩ := hq; cases e1; replace e2 := e2.symm; subst e2
              refine wk_br C d_PR_mostSpecial_90 (P := (z_ (mo_ V (i + 1) (fo_ V c a i))) = 0) (tgt := 97) (rest := []) rfl (by decide) (fun c17 => ?_) (fun c17 => ?_)
              ·
                have e1 : fo_ V c a (i + 1) = fo_ V c a i := fo_n (by clear C ih hmore; have h4 := an_4 (V 15 (i + 1)); grind [z_0, z_1])
                refine wk_run C k_PR_mostSpecial_97 (pc2 := 100) (lv2 := [(5, .int ((nI i) + 1)), (6, .ref (pA (i + 1))), (0, .ref x), (1, .int c), (2, .int a), (3, .int 1), (4, .ref (pA (fo_ V c a i)))]) (st2 := []) rfl ?_
                refine wk_goto C d_PR_mostSpecial_100 (tgt := 6) (by decide) ?_
                refine Wk.sub (lv2 := [(0, .ref x), (1, .int c), (2, .int a), (3, .int 1), (4, .ref (pA (fo_ V c a i))), (5, .int ((nI i) + 1))]) [2, 3, 4, 5, 6, 0] rfl ?_
                rw [nI_1]
                refine Wk.lve (lv2 := [(0, .ref x), (1, .int c), (2, .int a), (3, .int 1), (4, bp_ pA (fo_ V c a (i + 1))), (5, .int (nI (i + 1)))]) (by rw [e1, bp_n hz]) (ih (i + 1) hlt (by omega))
              ·
                refine wk_run C k_PR_mostSpecial_93 (pc2 := 97) (lv2 := [(4, .ref (pA (i + 1))), (6, .ref (pA (i + 1))), (0, .ref x), (1, .int c), (2, .int a), (3, .int 1), (5, .int (nI i))]) (st2 := []) rfl ?_
                have e1 : fo_ V c a (i + 1) = i + 1 := fo_p (by clear C ih hmore; have h4 := an_4 (V 15 (i + 1)); grind [z_0, z_1])
                refine wk_run C k_PR_mostSpecial_97 (pc2 := 100) (lv2 := [(5, .int ((nI i) + 1)), (4, .ref (pA (i + 1))), (6, .ref (pA (i + 1))), (0, .ref x), (1, .int c), (2, .int a), (3, .int 1)]) (st2 := []) rfl ?_
                refine wk_goto C d_PR_mostSpecial_100 (tgt := 6) (by decide) ?_
                refine Wk.sub (lv2 := [(0, .ref x), (1, .int c), (2, .int a), (3, .int 1), (4, .ref (pA (i + 1))), (5, .int ((nI i) + 1))]) [3, 4, 5, 6, 1, 0] rfl ?_
                rw [nI_1]
                refine Wk.lve (lv2 := [(0, .ref x), (1, .int c), (2, .int a), (3, .int 1), (4, bp_ pA (fo_ V c a (i + 1))), (5, .int (nI (i + 1)))]) (by rw [e1, bp_n (Nat.succ_ne_zero i)]) (ih (i + 1) hlt (by omega))
            ·
              refine wk_goto C d_PR_mostSpecial_69 (tgt := 97) (by decide) ?_
              have e1 : fo_ V c a (i + 1) = fo_ V c a i := fo_n (by clear C ih hmore; have h4 := an_4 (V 15 (i + 1)); grind [z_0, z_1])
              refine wk_run C k_PR_mostSpecial_97 (pc2 := 100) (lv2 := [(5, .int ((nI i) + 1)), (6, .ref (pA (i + 1))), (0, .ref x), (1, .int c), (2, .int a), (3, .int 1), (4, .ref (pA (fo_ V c a i)))]) (st2 := []) rfl ?_
              refine wk_goto C d_PR_mostSpecial_100 (tgt := 6) (by decide) ?_
              refine Wk.sub (lv2 := [(0, .ref x), (1, .int c), (2, .int a), (3, .int 1), (4, .ref (pA (fo_ V c a i))), (5, .int ((nI i) + 1))]) [2, 3, 4, 5, 6, 0] rfl ?_
              rw [nI_1]
              refine Wk.lve (lv2 := [(0, .ref x), (1, .int c), (2, .int a), (3, .int 1), (4, bp_ pA (fo_ V c a (i + 1))), (5, .int (nI (i + 1)))]) (by rw [e1, bp_n hz]) (ih (i + 1) hlt (by omega))

set_option maxRecDepth 100000 in
set_option maxHeartbeats 4000000 in
theorem c_PR_mostSpecial0 (l : Launch) (D : va_G) (HB : Heap) (h : hp_T) (x gl ul pl mo aq tr : Nat) (la : Int32) (hx : h x = some (.inr (0, [.ref gl, .ref ul, .ref pl, .ref mo, .ref aq, .ref tr, .int la]))) (own : oT) (V : vT) (b : Nat) (pA pn pe : Nat → Nat) (eA : Nat → Nat → Nat) (c a : Int32) (hL : al_ok D h pl b (nu (V 9 0)) (fun k => pA (k + 1))) (hP : cP D h own (nu (V 9 0)) pA pn pe eA V) (hN : cN D h own 5 0 aq (nu (V 22 0)) (V 21)) (hn : nu (V 9 0) ≤ 60) (ha : ¬ a = 0) : ct_M l y_PR_mostSpecial (.code y_PR_mostSpecial prog_1_method_33_code 7 (Option.some (Jvm.ClassFile.FieldType.object "ProfileRights$Profile"))) ({ frames := 4, cells := 0, slots := 0, locals := 80 }) D HB [.ref x, .int c, .int a, .int 0] h (fun o h2 => o = .inl (some (bp_ pA (fo_ V c 0 (nu (V 9 0))))) ∧ h2 = h) := by
  refine ct_of (by decide) (Nat.le_of_ble_eq_true rfl) rfl ?_
  intro p_ e_ s_ m_ r_ b_ t_ c_ C hnm
  obtain ⟨md, hl, -⟩ := id hL
  obtain ⟨ac, ⟨hq1, ⟨qf, hq2, hq3⟩, hq4⟩, -, -⟩ := hN
  have hmore : ∀ i j, 1 ≤ i → i ≤ nu (V 9 0) → 1 ≤ j → j ≤ nu (V 9 0) → fp_ V i → fp_ V j → ct_M l y_NM_isMoreSpecialThan (.code y_NM_isMoreSpecialThan prog_4_method_6_code 2 (Option.some Jvm.ClassFile.FieldType.boolean)) ({ frames := 1, cells := 0, slots := 0, locals := 21 }) D HB [.ref (pn i), .ref (pn j)] h (fun o h2 => o = .inl (some (.int (z_ (mo_ V i j)))) ∧ h2 = h) := fun i j i1 i2 j1 j2 fi fj => by
    obtain ⟨-, ⟨c1, ⟨r1, -, r4⟩, -, -⟩, -, -⟩ := hP i i1 i2
    obtain ⟨-, ⟨c2, ⟨s1, -, s4⟩, -, -⟩, -, -⟩ := hP j j1 j2
    have z := c_NM_isMore l D HB h (pn i) (pn j) c1 c2 _ _ _ _ _ _ r1 s1
    rw [mo_e r4 s4 fi fj] at z
    exact z
  refine wk_run C k_PR_mostSpecial_0 (pc2 := 6) (lv2 := [(5, .int 0), (4, .null), (0, .ref x), (1, .int c), (2, .int a), (3, .int 0)]) (st2 := []) rfl ?_
  refine Wk.sub (lv2 := [(0, .ref x), (1, .int c), (2, .int a), (3, .int 0), (4, .null), (5, .int 0)]) [2, 3, 4, 5, 1, 0] rfl ?_
  refine wk_ind (σ := Nat) (hF := fun _ => h) (lvF := fun i => [(0, .ref x), (1, .int c), (2, .int a), (3, .int 0), (4, bp_ pA (fo_ V c 0 i)), (5, .int (nI i))]) (fun i => nu (V 9 0) - i) (fun i => i ≤ nu (V 9 0)) (fun i hi ih => ?_) 0 (Nat.zero_le _)
  show Wk _ _ _ _ _ _ _ _ _ _ _ _ _ _ _ _ _ _ [(0, .ref x), (1, .int c), (2, .int a), (3, .int 0), (4, bp_ pA (fo_ V c 0 i)), (5, .int (nI i))] _
  have hfo := fo_le V c 0 i
  by_cases hz : fo_ V c 0 i = 0
  ·
    rw [bp_0 hz]
    refine wk_run C k_PR_mostSpecial_6 (pc2 := 9) (lv2 := [(0, .ref x), (1, .int c), (2, .int a), (3, .int 0), (4, .null), (5, .int (nI i))]) (st2 := [.ref x, .int (nI i)]) rfl ?_
    refine wk_get C fd_PR_19 hx rfl d_PR_mostSpecial_9 ?_
    refine wk_callV (cl := ("java/util/ArrayList", T_AL, 3)) (rest := [.int (nI i)]) C (al_size l HB hL) cs_PR_48 kc_AL_size ki_AL hl rfl rfl rfl (Nat.le_of_ble_eq_true rfl) (Nat.le_of_ble_eq_true rfl) (Nat.le_of_ble_eq_true rfl) (Nat.le_of_ble_eq_true rfl) (Nat.le_of_ble_eq_true rfl) d_PR_mostSpecial_12 (fun v h2 hq => ?_) (fun _ _ z => nomatch z.1)
    obtain ⟨e1, e2⟩ := hq; cases e1; replace e2 := e2.symm; subst e2
    refine wk_br C d_PR_mostSpecial_15 (P := (nI (nu (V 9 0))) ≤ (nI i)) (tgt := 103) (rest := []) rfl (by decide) (fun c1 => ?_) (fun c1 => ?_)
    ·
      have hie : i = nu (V 9 0) := by have := (nI_leI (by omega) (by omega)).mp c1; omega
      refine wk_run C k_PR_mostSpecial_103 (pc2 := 105) (lv2 := [(0, .ref x), (1, .int c), (2, .int a), (3, .int 0), (4, .null), (5, .int (nI i))]) (st2 := [.null]) rfl ?_
      exact wk_aret C rfl (Or.inl ⟨_, rfl⟩) (Or.inl rfl) ⟨by rw [← hie, bp_0 hz], rfl⟩ (by decide) (by decide) d_PR_mostSpecial_105
    ·
      have hlt : i < nu (V 9 0) := by rcases Nat.lt_or_ge i (nu (V 9 0)) with z | z; exact z; exact absurd (nI_le z (by omega)) c1
      refine wk_run C k_PR_mostSpecial_18 (pc2 := 19) (lv2 := [(0, .ref x), (1, .int c), (2, .int a), (3, .int 0), (4, .null), (5, .int (nI i))]) (st2 := [.ref x]) rfl ?_
      refine wk_get C fd_PR_19 hx rfl d_PR_mostSpecial_19 ?_
      refine wk_run C k_PR_mostSpecial_22 (pc2 := 24) (lv2 := [(0, .ref x), (1, .int c), (2, .int a), (3, .int 0), (4, .null), (5, .int (nI i))]) (st2 := [.int (nI i), .ref pl]) rfl ?_
      refine wk_callV (cl := ("java/util/ArrayList", T_AL, 3)) (rest := []) C (al_get (j := i) l HB hL hlt) cs_PR_201 kc_AL_get ki_AL hl rfl rfl rfl (Nat.le_of_ble_eq_true rfl) (Nat.le_of_ble_eq_true rfl) (Nat.le_of_ble_eq_true rfl) (Nat.le_of_ble_eq_true rfl) (Nat.le_of_ble_eq_true rfl) d_PR_mostSpecial_24 (fun v h2 hq => ?_) (fun _ _ z => nomatch z.1)
      obtain ⟨e1, e2⟩ := hq; cases e1; replace e2 := e2.symm; subst e2
      show Wk _ _ _ _ _ _ _ _ _ _ _ _ _ _ _ _ _ _ _ (.ref (pA (i + 1)) :: _)
      obtain ⟨⟨ho, -⟩, ⟨cc2, ⟨hn1, ⟨ng, hn2, hn3⟩, hn4⟩, -, -⟩, -, -⟩ := hP (i + 1) (by omega) hlt
      refine wk_cast C ho rfl cl_PR_112 d_PR_mostSpecial_27 ?_
      refine wk_run C k_PR_mostSpecial_30 (pc2 := 34) (lv2 := [(6, .ref (pA (i + 1))), (0, .ref x), (1, .int c), (2, .int a), (3, .int 0), (4, .null), (5, .int (nI i))]) (st2 := [.ref (pA (i + 1))]) rfl ?_
      refine wk_get C fd_PR_251 ho rfl d_PR_mostSpecial_34 ?_
      refine wk_run C k_PR_mostSpecial_37 (pc2 := 38) (lv2 := [(6, .ref (pA (i + 1))), (0, .ref x), (1, .int c), (2, .int a), (3, .int 0), (4, .null), (5, .int (nI i))]) (st2 := [.int c, .int (V 11 (i + 1))]) rfl ?_
      refine wk_br C d_PR_mostSpecial_38 (P := ¬ (V 11 (i + 1)) = c) (tgt := 97) (rest := []) rfl (by decide) (fun c11 => ?_) (fun c11 => ?_)
      ·
        have e1 : fo_ V c 0 (i + 1) = fo_ V c 0 i := fo_n (by clear C ih hmore; have h4 := an_4 (V 15 (i + 1)); grind [z_0, z_1])
        refine wk_run C k_PR_mostSpecial_97 (pc2 := 100) (lv2 := [(5, .int ((nI i) + 1)), (6, .ref (pA (i + 1))), (0, .ref x), (1, .int c), (2, .int a), (3, .int 0), (4, .null)]) (st2 := []) rfl ?_
        refine wk_goto C d_PR_mostSpecial_100 (tgt := 6) (by decide) ?_
        refine Wk.sub (lv2 := [(0, .ref x), (1, .int c), (2, .int a), (3, .int 0), (4, .null), (5, .int ((nI i) + 1))]) [2, 3, 4, 5, 6, 0] rfl ?_
        rw [nI_1]
        refine Wk.lve (lv2 := [(0, .ref x), (1, .int c), (2, .int a), (3, .int 0), (4, bp_ pA (fo_ V c 0 (i + 1))), (5, .int (nI (i + 1)))]) (by rw [e1, bp_0 hz]) (ih (i + 1) hlt (by omega))
      ·
        refine wk_run C k_PR_mostSpecial_41 (pc2 := 42) (lv2 := [(6, .ref (pA (i + 1))), (0, .ref x), (1, .int c), (2, .int a), (3, .int 0), (4, .null), (5, .int (nI i))]) (st2 := [.int 0]) rfl ?_
        refine wk_br C d_PR_mostSpecial_42 (P := 0 = 0) (tgt := 54) (rest := []) rfl (by decide) (fun c12 => ?_) (fun c12 => ?_)
        ·
          refine wk_run C k_PR_mostSpecial_54 (pc2 := 56) (lv2 := [(6, .ref (pA (i + 1))), (0, .ref x), (1, .int c), (2, .int a), (3, .int 0), (4, .null), (5, .int (nI i))]) (st2 := [.ref (pA (i + 1))]) rfl ?_
          refine wk_get C fd_PR_121 ho rfl d_PR_mostSpecial_56 ?_
          refine wk_run C k_PR_mostSpecial_59 (pc2 := 60) (lv2 := [(6, .ref (pA (i + 1))), (0, .ref x), (1, .int c), (2, .int a), (3, .int 0), (4, .null), (5, .int (nI i))]) (st2 := [.ref x, .ref (pn (i + 1))]) rfl ?_
          refine wk_get C fd_PR_29 hx rfl d_PR_mostSpecial_60 ?_
          refine wk_callV (cl := ("ProfileRights$Name", T_NM, 4)) (rest := []) C (c_NM_fits l D HB h (pn (i + 1)) cc2 (nu (V 13 (i + 1))) aq ac (nu (V 22 0)) (nf_ V (i + 1)) (V 21) ng qf _ _ _ _ hn1 hn2 hn3 hn4 hq1 hq2 hq3 hq4) cs_PR_257 kc_NM_fits ki_NM hn1 rfl rfl rfl (Nat.le_of_ble_eq_true rfl) (Nat.le_of_ble_eq_true rfl) (Nat.le_of_ble_eq_true rfl) (Nat.le_of_ble_eq_true rfl) (Nat.le_of_ble_eq_true rfl) d_PR_mostSpecial_63 (fun v h2 hq => ?_) (fun E h2 hq => by by_cases z : rb_F (nf_ V (i + 1)) (nu (V 13 (i + 1))) (V 21) (nu (V 22 0)); (exact nomatch hq.1 z); exact nomatch hq.2.1 z)
          obtain ⟨k1, k2, e2⟩ := hq; replace e2 := e2.symm; subst e2
          have ev : v = some (.int (z_ (fp_ V (i + 1)))) := by
            by_cases z : rb_F (nf_ V (i + 1)) (nu (V 13 (i + 1))) (V 21) (nu (V 22 0))
            · have k3 := k1 z; cases k3; rw [z_p (show fp_ V (i + 1) from (rb_ft _ _ _ hq4).mp z)]
            · have k3 := k2 z; cases k3; rw [z_n (show ¬ fp_ V (i + 1) from fun y => z ((rb_ft _ _ _ hq4).mpr y))]
          subst ev
          show Wk _ _ _ _ _ _ _ _ _ _ _ _ _ _ _ _ _ _ _ [.int (z_ (fp_ V (i + 1)))]
          refine wk_br C d_PR_mostSpecial_66 (P := ¬ (z_ (fp_ V (i + 1))) = 0) (tgt := 72) (rest := []) rfl (by decide) (fun c13 => ?_) (fun c13 => ?_)
          ·
            refine wk_run C k_PR_mostSpecial_72 (pc2 := 74) (lv2 := [(6, .ref (pA (i + 1))), (0, .ref x), (1, .int c), (2, .int a), (3, .int 0), (4, .null), (5, .int (nI i))]) (st2 := [.null]) rfl ?_
            refine wk_nlN C d_PR_mostSpecial_74 (tgt := 93) (by decide) ?_
            refine wk_run C k_PR_mostSpecial_93 (pc2 := 97) (lv2 := [(4, .ref (pA (i + 1))), (6, .ref (pA (i + 1))), (0, .ref x), (1, .int c), (2, .int a), (3, .int 0), (5, .int (nI i))]) (st2 := []) rfl ?_
            have e1 : fo_ V c 0 (i + 1) = i + 1 := fo_p (by clear C ih hmore; have h4 := an_4 (V 15 (i + 1)); grind [z_0, z_1])
            refine wk_run C k_PR_mostSpecial_97 (pc2 := 100) (lv2 := [(5, .int ((nI i) + 1)), (4, .ref (pA (i + 1))), (6, .ref (pA (i + 1))), (0, .ref x), (1, .int c), (2, .int a), (3, .int 0)]) (st2 := []) rfl ?_
            refine wk_goto C d_PR_mostSpecial_100 (tgt := 6) (by decide) ?_
            refine Wk.sub (lv2 := [(0, .ref x), (1, .int c), (2, .int a), (3, .int 0), (4, .ref (pA (i + 1))), (5, .int ((nI i) + 1))]) [3, 4, 5, 6, 1, 0] rfl ?_
            rw [nI_1]
            refine Wk.lve (lv2 := [(0, .ref x), (1, .int c), (2, .int a), (3, .int 0), (4, bp_ pA (fo_ V c 0 (i + 1))), (5, .int (nI (i + 1)))]) (by rw [e1, bp_n (Nat.succ_ne_zero i)]) (ih (i + 1) hlt (by omega))
          ·
            refine wk_goto C d_PR_mostSpecial_69 (tgt := 97) (by decide) ?_
            have e1 : fo_ V c 0 (i + 1) = fo_ V c 0 i := fo_n (by clear C ih hmore; have h4 := an_4 (V 15 (i + 1)); grind [z_0, z_1])
            refine wk_run C k_PR_mostSpecial_97 (pc2 := 100) (lv2 := [(5, .int ((nI i) + 1)), (6, .ref (pA (i + 1))), (0, .ref x), (1, .int c), (2, .int a), (3, .int 0), (4, .null)]) (st2 := []) rfl ?_
            refine wk_goto C d_PR_mostSpecial_100 (tgt := 6) (by decide) ?_
            refine Wk.sub (lv2 := [(0, .ref x), (1, .int c), (2, .int a), (3, .int 0), (4, .null), (5, .int ((nI i) + 1))]) [2, 3, 4, 5, 6, 0] rfl ?_
            rw [nI_1]
            refine Wk.lve (lv2 := [(0, .ref x), (1, .int c), (2, .int a), (3, .int 0), (4, bp_ pA (fo_ V c 0 (i + 1))), (5, .int (nI (i + 1)))]) (by rw [e1, bp_0 hz]) (ih (i + 1) hlt (by omega))
        ·
          refine wk_run C k_PR_mostSpecial_45 (pc2 := 48) (lv2 := [(6, .ref (pA (i + 1))), (0, .ref x), (1, .int c), (2, .int a), (3, .int 0), (4, .null), (5, .int (nI i))]) (st2 := [.int a, .ref (pA (i + 1))]) rfl ?_
          refine wk_callV (cl := ("ProfileRights$Profile", T_PF, 6)) (rest := []) C (c_PF_isOpenToAll l D HB h (pA (i + 1)) (pn (i + 1)) (pe (i + 1)) (nI (i + 1)) (V 11 (i + 1)) (V 14 (i + 1)) (V 15 (i + 1)) ho a) cs_PR_254 kc_PF_isOpenToAll ki_PF ho rfl rfl rfl (Nat.le_of_ble_eq_true rfl) (Nat.le_of_ble_eq_true rfl) (Nat.le_of_ble_eq_true rfl) (Nat.le_of_ble_eq_true rfl) (Nat.le_of_ble_eq_true rfl) d_PR_mostSpecial_48 (fun v h2 hq => ?_) (fun _ _ z => nomatch z.1)
          obtain ⟨e1, e2⟩ := hq; cases e1; replace e2 := e2.symm; subst e2
          refine wk_br C d_PR_mostSpecial_51 (P := (if V 15 (i + 1) &&& 4 = 0 ∨ V 14 (i + 1) < a then (0 : Int32) else 1) = 0) (tgt := 97) (rest := []) rfl (by decide) (fun c14 => ?_) (fun c14 => ?_)
          ·
            have e1 : fo_ V c 0 (i + 1) = fo_ V c 0 i := fo_n (by clear C ih hmore; have h4 := an_4 (V 15 (i + 1)); grind [z_0, z_1])
            refine wk_run C k_PR_mostSpecial_97 (pc2 := 100) (lv2 := [(5, .int ((nI i) + 1)), (6, .ref (pA (i + 1))), (0, .ref x), (1, .int c), (2, .int a), (3, .int 0), (4, .null)]) (st2 := []) rfl ?_
            refine wk_goto C d_PR_mostSpecial_100 (tgt := 6) (by decide) ?_
            refine Wk.sub (lv2 := [(0, .ref x), (1, .int c), (2, .int a), (3, .int 0), (4, .null), (5, .int ((nI i) + 1))]) [2, 3, 4, 5, 6, 0] rfl ?_
            rw [nI_1]
            refine Wk.lve (lv2 := [(0, .ref x), (1, .int c), (2, .int a), (3, .int 0), (4, bp_ pA (fo_ V c 0 (i + 1))), (5, .int (nI (i + 1)))]) (by rw [e1, bp_0 hz]) (ih (i + 1) hlt (by omega))
          ·
            refine wk_run C k_PR_mostSpecial_54 (pc2 := 56) (lv2 := [(6, .ref (pA (i + 1))), (0, .ref x), (1, .int c), (2, .int a), (3, .int 0), (4, .null), (5, .int (nI i))]) (st2 := [.ref (pA (i + 1))]) rfl ?_
            refine wk_get C fd_PR_121 ho rfl d_PR_mostSpecial_56 ?_
            refine wk_run C k_PR_mostSpecial_59 (pc2 := 60) (lv2 := [(6, .ref (pA (i + 1))), (0, .ref x), (1, .int c), (2, .int a), (3, .int 0), (4, .null), (5, .int (nI i))]) (st2 := [.ref x, .ref (pn (i + 1))]) rfl ?_
            refine wk_get C fd_PR_29 hx rfl d_PR_mostSpecial_60 ?_
            refine wk_callV (cl := ("ProfileRights$Name", T_NM, 4)) (rest := []) C (c_NM_fits l D HB h (pn (i + 1)) cc2 (nu (V 13 (i + 1))) aq ac (nu (V 22 0)) (nf_ V (i + 1)) (V 21) ng qf _ _ _ _ hn1 hn2 hn3 hn4 hq1 hq2 hq3 hq4) cs_PR_257 kc_NM_fits ki_NM hn1 rfl rfl rfl (Nat.le_of_ble_eq_true rfl) (Nat.le_of_ble_eq_true rfl) (Nat.le_of_ble_eq_true rfl) (Nat.le_of_ble_eq_true rfl) (Nat.le_of_ble_eq_true rfl) d_PR_mostSpecial_63 (fun v h2 hq => ?_) (fun E h2 hq => by by_cases z : rb_F (nf_ V (i + 1)) (nu (V 13 (i + 1))) (V 21) (nu (V 22 0)); (exact nomatch hq.1 z); exact nomatch hq.2.1 z)
            obtain ⟨k1, k2, e2⟩ := hq; replace e2 := e2.symm; subst e2
            have ev : v = some (.int (z_ (fp_ V (i + 1)))) := by
              by_cases z : rb_F (nf_ V (i + 1)) (nu (V 13 (i + 1))) (V 21) (nu (V 22 0))
              · have k3 := k1 z; cases k3; rw [z_p (show fp_ V (i + 1) from (rb_ft _ _ _ hq4).mp z)]
              · have k3 := k2 z; cases k3; rw [z_n (show ¬ fp_ V (i + 1) from fun y => z ((rb_ft _ _ _ hq4).mpr y))]
            subst ev
            show Wk _ _ _ _ _ _ _ _ _ _ _ _ _ _ _ _ _ _ _ [.int (z_ (fp_ V (i + 1)))]
            refine wk_br C d_PR_mostSpecial_66 (P := ¬ (z_ (fp_ V (i + 1))) = 0) (tgt := 72) (rest := []) rfl (by decide) (fun c15 => ?_) (fun c15 => ?_)
            ·
              refine wk_run C k_PR_mostSpecial_72 (pc2 := 74) (lv2 := [(6, .ref (pA (i + 1))), (0, .ref x), (1, .int c), (2, .int a), (3, .int 0), (4, .null), (5, .int (nI i))]) (st2 := [.null]) rfl ?_
              refine wk_nlN C d_PR_mostSpecial_74 (tgt := 93) (by decide) ?_
              refine wk_run C k_PR_mostSpecial_93 (pc2 := 97) (lv2 := [(4, .ref (pA (i + 1))), (6, .ref (pA (i + 1))), (0, .ref x), (1, .int c), (2, .int a), (3, .int 0), (5, .int (nI i))]) (st2 := []) rfl ?_
              have e1 : fo_ V c 0 (i + 1) = i + 1 := fo_p (by clear C ih hmore; have h4 := an_4 (V 15 (i + 1)); grind [z_0, z_1])
              refine wk_run C k_PR_mostSpecial_97 (pc2 := 100) (lv2 := [(5, .int ((nI i) + 1)), (4, .ref (pA (i + 1))), (6, .ref (pA (i + 1))), (0, .ref x), (1, .int c), (2, .int a), (3, .int 0)]) (st2 := []) rfl ?_
              refine wk_goto C d_PR_mostSpecial_100 (tgt := 6) (by decide) ?_
              refine Wk.sub (lv2 := [(0, .ref x), (1, .int c), (2, .int a), (3, .int 0), (4, .ref (pA (i + 1))), (5, .int ((nI i) + 1))]) [3, 4, 5, 6, 1, 0] rfl ?_
              rw [nI_1]
              refine Wk.lve (lv2 := [(0, .ref x), (1, .int c), (2, .int a), (3, .int 0), (4, bp_ pA (fo_ V c 0 (i + 1))), (5, .int (nI (i + 1)))]) (by rw [e1, bp_n (Nat.succ_ne_zero i)]) (ih (i + 1) hlt (by omega))
            ·
              refine wk_goto C d_PR_mostSpecial_69 (tgt := 97) (by decide) ?_
              have e1 : fo_ V c 0 (i + 1) = fo_ V c 0 i := fo_n (by clear C ih hmore; have h4 := an_4 (V 15 (i + 1)); grind [z_0, z_1])
              refine wk_run C k_PR_mostSpecial_97 (pc2 := 100) (lv2 := [(5, .int ((nI i) + 1)), (6, .ref (pA (i + 1))), (0, .ref x), (1, .int c), (2, .int a), (3, .int 0), (4, .null)]) (st2 := []) rfl ?_
              refine wk_goto C d_PR_mostSpecial_100 (tgt := 6) (by decide) ?_
              refine Wk.sub (lv2 := [(0, .ref x), (1, .int c), (2, .int a), (3, .int 0), (4, .null), (5, .int ((nI i) + 1))]) [2, 3, 4, 5, 6, 0] rfl ?_
              rw [nI_1]
              refine Wk.lve (lv2 := [(0, .ref x), (1, .int c), (2, .int a), (3, .int 0), (4, bp_ pA (fo_ V c 0 (i + 1))), (5, .int (nI (i + 1)))]) (by rw [e1, bp_0 hz]) (ih (i + 1) hlt (by omega))
  ·
    rw [bp_n hz]
    obtain ⟨⟨hbo, -⟩, -, -, -⟩ := hP (fo_ V c 0 i) (by omega) (by omega)
    refine wk_run C k_PR_mostSpecial_6 (pc2 := 9) (lv2 := [(0, .ref x), (1, .int c), (2, .int a), (3, .int 0), (4, .ref (pA (fo_ V c 0 i))), (5, .int (nI i))]) (st2 := [.ref x, .int (nI i)]) rfl ?_
    refine wk_get C fd_PR_19 hx rfl d_PR_mostSpecial_9 ?_
    refine wk_callV (cl := ("java/util/ArrayList", T_AL, 3)) (rest := [.int (nI i)]) C (al_size l HB hL) cs_PR_48 kc_AL_size ki_AL hl rfl rfl rfl (Nat.le_of_ble_eq_true rfl) (Nat.le_of_ble_eq_true rfl) (Nat.le_of_ble_eq_true rfl) (Nat.le_of_ble_eq_true rfl) (Nat.le_of_ble_eq_true rfl) d_PR_mostSpecial_12 (fun v h2 hq => ?_) (fun _ _ z => nomatch z.1)
    obtain ⟨e1, e2⟩ := hq; cases e1; replace e2 := e2.symm; subst e2
    refine wk_br C d_PR_mostSpecial_15 (P := (nI (nu (V 9 0))) ≤ (nI i)) (tgt := 103) (rest := []) rfl (by decide) (fun c1 => ?_) (fun c1 => ?_)
    ·
      have hie : i = nu (V 9 0) := by have := (nI_leI (by omega) (by omega)).mp c1; omega
      refine wk_run C k_PR_mostSpecial_103 (pc2 := 105) (lv2 := [(0, .ref x), (1, .int c), (2, .int a), (3, .int 0), (4, .ref (pA (fo_ V c 0 i))), (5, .int (nI i))]) (st2 := [.ref (pA (fo_ V c 0 i))]) rfl ?_
      exact wk_aret C rfl (Or.inl ⟨_, rfl⟩) (Or.inr ⟨_, rfl⟩) ⟨by rw [← hie, bp_n hz], rfl⟩ (by decide) (by decide) d_PR_mostSpecial_105
    ·
      have hlt : i < nu (V 9 0) := by rcases Nat.lt_or_ge i (nu (V 9 0)) with z | z; exact z; exact absurd (nI_le z (by omega)) c1
      refine wk_run C k_PR_mostSpecial_18 (pc2 := 19) (lv2 := [(0, .ref x), (1, .int c), (2, .int a), (3, .int 0), (4, .ref (pA (fo_ V c 0 i))), (5, .int (nI i))]) (st2 := [.ref x]) rfl ?_
      refine wk_get C fd_PR_19 hx rfl d_PR_mostSpecial_19 ?_
      refine wk_run C k_PR_mostSpecial_22 (pc2 := 24) (lv2 := [(0, .ref x), (1, .int c), (2, .int a), (3, .int 0), (4, .ref (pA (fo_ V c 0 i))), (5, .int (nI i))]) (st2 := [.int (nI i), .ref pl]) rfl ?_
      refine wk_callV (cl := ("java/util/ArrayList", T_AL, 3)) (rest := []) C (al_get (j := i) l HB hL hlt) cs_PR_201 kc_AL_get ki_AL hl rfl rfl rfl (Nat.le_of_ble_eq_true rfl) (Nat.le_of_ble_eq_true rfl) (Nat.le_of_ble_eq_true rfl) (Nat.le_of_ble_eq_true rfl) (Nat.le_of_ble_eq_true rfl) d_PR_mostSpecial_24 (fun v h2 hq => ?_) (fun _ _ z => nomatch z.1)
      obtain ⟨e1, e2⟩ := hq; cases e1; replace e2 := e2.symm; subst e2
      show Wk _ _ _ _ _ _ _ _ _ _ _ _ _ _ _ _ _ _ _ (.ref (pA (i + 1)) :: _)
      obtain ⟨⟨ho, -⟩, ⟨cc2, ⟨hn1, ⟨ng, hn2, hn3⟩, hn4⟩, -, -⟩, -, -⟩ := hP (i + 1) (by omega) hlt
      refine wk_cast C ho rfl cl_PR_112 d_PR_mostSpecial_27 ?_
      refine wk_run C k_PR_mostSpecial_30 (pc2 := 34) (lv2 := [(6, .ref (pA (i + 1))), (0, .ref x), (1, .int c), (2, .int a), (3, .int 0), (4, .ref (pA (fo_ V c 0 i))), (5, .int (nI i))]) (st2 := [.ref (pA (i + 1))]) rfl ?_
      refine wk_get C fd_PR_251 ho rfl d_PR_mostSpecial_34 ?_
      refine wk_run C k_PR_mostSpecial_37 (pc2 := 38) (lv2 := [(6, .ref (pA (i + 1))), (0, .ref x), (1, .int c), (2, .int a), (3, .int 0), (4, .ref (pA (fo_ V c 0 i))), (5, .int (nI i))]) (st2 := [.int c, .int (V 11 (i + 1))]) rfl ?_
      refine wk_br C d_PR_mostSpecial_38 (P := ¬ (V 11 (i + 1)) = c) (tgt := 97) (rest := []) rfl (by decide) (fun c11 => ?_) (fun c11 => ?_)
      ·
        have e1 : fo_ V c 0 (i + 1) = fo_ V c 0 i := fo_n (by clear C ih hmore; have h4 := an_4 (V 15 (i + 1)); grind [z_0, z_1])
        refine wk_run C k_PR_mostSpecial_97 (pc2 := 100) (lv2 := [(5, .int ((nI i) + 1)), (6, .ref (pA (i + 1))), (0, .ref x), (1, .int c), (2, .int a), (3, .int 0), (4, .ref (pA (fo_ V c 0 i)))]) (st2 := []) rfl ?_
        refine wk_goto C d_PR_mostSpecial_100 (tgt := 6) (by decide) ?_
        refine Wk.sub (lv2 := [(0, .ref x), (1, .int c), (2, .int a), (3, .int 0), (4, .ref (pA (fo_ V c 0 i))), (5, .int ((nI i) + 1))]) [2, 3, 4, 5, 6, 0] rfl ?_
        rw [nI_1]
        refine Wk.lve (lv2 := [(0, .ref x), (1, .int c), (2, .int a), (3, .int 0), (4, bp_ pA (fo_ V c 0 (i + 1))), (5, .int (nI (i + 1)))]) (by rw [e1, bp_n hz]) (ih (i + 1) hlt (by omega))
      ·
        refine wk_run C k_PR_mostSpecial_41 (pc2 := 42) (lv2 := [(6, .ref (pA (i + 1))), (0, .ref x), (1, .int c), (2, .int a), (3, .int 0), (4, .ref (pA (fo_ V c 0 i))), (5, .int (nI i))]) (st2 := [.int 0]) rfl ?_
        refine wk_br C d_PR_mostSpecial_42 (P := 0 = 0) (tgt := 54) (rest := []) rfl (by decide) (fun c12 => ?_) (fun c12 => ?_)
        ·
          refine wk_run C k_PR_mostSpecial_54 (pc2 := 56) (lv2 := [(6, .ref (pA (i + 1))), (0, .ref x), (1, .int c), (2, .int a), (3, .int 0), (4, .ref (pA (fo_ V c 0 i))), (5, .int (nI i))]) (st2 := [.ref (pA (i + 1))]) rfl ?_
          refine wk_get C fd_PR_121 ho rfl d_PR_mostSpecial_56 ?_
          refine wk_run C k_PR_mostSpecial_59 (pc2 := 60) (lv2 := [(6, .ref (pA (i + 1))), (0, .ref x), (1, .int c), (2, .int a), (3, .int 0), (4, .ref (pA (fo_ V c 0 i))), (5, .int (nI i))]) (st2 := [.ref x, .ref (pn (i + 1))]) rfl ?_
          refine wk_get C fd_PR_29 hx rfl d_PR_mostSpecial_60 ?_
          refine wk_callV (cl := ("ProfileRights$Name", T_NM, 4)) (rest := []) C (c_NM_fits l D HB h (pn (i + 1)) cc2 (nu (V 13 (i + 1))) aq ac (nu (V 22 0)) (nf_ V (i + 1)) (V 21) ng qf _ _ _ _ hn1 hn2 hn3 hn4 hq1 hq2 hq3 hq4) cs_PR_257 kc_NM_fits ki_NM hn1 rfl rfl rfl (Nat.le_of_ble_eq_true rfl) (Nat.le_of_ble_eq_true rfl) (Nat.le_of_ble_eq_true rfl) (Nat.le_of_ble_eq_true rfl) (Nat.le_of_ble_eq_true rfl) d_PR_mostSpecial_63 (fun v h2 hq => ?_) (fun E h2 hq => by by_cases z : rb_F (nf_ V (i + 1)) (nu (V 13 (i + 1))) (V 21) (nu (V 22 0)); (exact nomatch hq.1 z); exact nomatch hq.2.1 z)
          obtain ⟨k1, k2, e2⟩ := hq; replace e2 := e2.symm; subst e2
          have ev : v = some (.int (z_ (fp_ V (i + 1)))) := by
            by_cases z : rb_F (nf_ V (i + 1)) (nu (V 13 (i + 1))) (V 21) (nu (V 22 0))
            · have k3 := k1 z; cases k3; rw [z_p (show fp_ V (i + 1) from (rb_ft _ _ _ hq4).mp z)]
            · have k3 := k2 z; cases k3; rw [z_n (show ¬ fp_ V (i + 1) from fun y => z ((rb_ft _ _ _ hq4).mpr y))]
          subst ev
          show Wk _ _ _ _ _ _ _ _ _ _ _ _ _ _ _ _ _ _ _ [.int (z_ (fp_ V (i + 1)))]
          refine wk_br C d_PR_mostSpecial_66 (P := ¬ (z_ (fp_ V (i + 1))) = 0) (tgt := 72) (rest := []) rfl (by decide) (fun c13 => ?_) (fun c13 => ?_)
          ·
            refine wk_run C k_PR_mostSpecial_72 (pc2 := 74) (lv2 := [(6, .ref (pA (i + 1))), (0, .ref x), (1, .int c), (2, .int a), (3, .int 0), (4, .ref (pA (fo_ V c 0 i))), (5, .int (nI i))]) (st2 := [.ref (pA (fo_ V c 0 i))]) rfl ?_
            refine wk_nlR C d_PR_mostSpecial_74 ?_
            refine wk_run C k_PR_mostSpecial_77 (pc2 := 79) (lv2 := [(6, .ref (pA (i + 1))), (0, .ref x), (1, .int c), (2, .int a), (3, .int 0), (4, .ref (pA (fo_ V c 0 i))), (5, .int (nI i))]) (st2 := [.ref (pA (i + 1))]) rfl ?_
            refine wk_get C fd_PR_121 ho rfl d_PR_mostSpecial_79 ?_
            refine wk_run C k_PR_mostSpecial_82 (pc2 := 84) (lv2 := [(6, .ref (pA (i + 1))), (0, .ref x), (1, .int c), (2, .int a), (3, .int 0), (4, .ref (pA (fo_ V c 0 i))), (5, .int (nI i))]) (st2 := [.ref (pA (fo_ V c 0 i)), .ref (pn (i + 1))]) rfl ?_
            refine wk_get C fd_PR_121 hbo rfl d_PR_mostSpecial_84 ?_
            obtain ⟨-, ⟨cc3, ⟨hn3, -, -⟩, -, -⟩, -, -⟩ := hP (fo_ V c 0 i) (by omega) (by omega)
            refine wk_callV (cl := ("ProfileRights$Name", T_NM, 4)) (rest := []) C (hmore (i + 1) (fo_ V c 0 i) (by omega) hlt (by omega) (by omega) (z_1 c13) (fo_fp hz)) cs_PR_261 kc_NM_isMoreSpecialThan ki_NM hn1 rfl rfl rfl (Nat.le_of_ble_eq_true rfl) (Nat.le_of_ble_eq_true rfl) (Nat.le_of_ble_eq_true rfl) (Nat.le_of_ble_eq_true rfl) (Nat.le_of_ble_eq_true rfl) d_PR_mostSpecial_87 (fun v h2 hq => ?_) (fun _ _ z => nomatch z.1)
            obtain ⟨e1, e2⟩ := hq; cases e1; replace e2 := e2.symm; subst e2
            refine wk_br C d_PR_mostSpecial_90 (P := (z_ (mo_ V (i + 1) (fo_ V c 0 i))) = 0) (tgt := 97) (rest := []) rfl (by decide) (fun c14 => ?_) (fun c14 => ?_)
            ·
              have e1 : fo_ V c 0 (i + 1) = fo_ V c 0 i := fo_n (by clear C ih hmore; have h4 := an_4 (V 15 (i + 1)); grind [z_0, z_1])
              refine wk_run C k_PR_mostSpecial_97 (pc2 := 100) (lv2 := [(5, .int ((nI i) + 1)), (6, .ref (pA (i + 1))), (0, .ref x), (1, .int c), (2, .int a), (3, .int 0), (4, .ref (pA (fo_ V c 0 i)))]) (st2 := []) rfl ?_
              refine wk_goto C d_PR_mostSpecial_100 (tgt := 6) (by decide) ?_
              refine Wk.sub (lv2 := [(0, .ref x), (1, .int c), (2, .int a), (3, .int 0), (4, .ref (pA (fo_ V c 0 i))), (5, .int ((nI i) + 1))]) [2, 3, 4, 5, 6, 0] rfl ?_
              rw [nI_1]
              refine Wk.lve (lv2 := [(0, .ref x), (1, .int c), (2, .int a), (3, .int 0), (4, bp_ pA (fo_ V c 0 (i + 1))), (5, .int (nI (i + 1)))]) (by rw [e1, bp_n hz]) (ih (i + 1) hlt (by omega))
            ·
              refine wk_run C k_PR_mostSpecial_93 (pc2 := 97) (lv2 := [(4, .ref (pA (i + 1))), (6, .ref (pA (i + 1))), (0, .ref x), (1, .int c), (2, .int a), (3, .int 0), (5, .int (nI i))]) (st2 := []) rfl ?_
              have e1 : fo_ V c 0 (i + 1) = i + 1 := fo_p (by clear C ih hmore; have h4 := an_4 (V 15 (i + 1)); grind [z_0, z_1])
              refine wk_run C k_PR_mostSpecial_97 (pc2 := 100) (lv2 := [(5, .int ((nI i) + 1)), (4, .ref (pA (i + 1))), (6, .ref (pA (i + 1))), (0, .ref x), (1, .int c), (2, .int a), (3, .int 0)]) (st2 := []) rfl ?_
              refine wk_goto C d_PR_mostSpecial_100 (tgt := 6) (by decide) ?_
              refine Wk.sub (lv2 := [(0, .ref x), (1, .int c), (2, .int a), (3, .int 0), (4, .ref (pA (i + 1))), (5, .int ((nI i) + 1))]) [3, 4, 5, 6, 1, 0] rfl ?_
              rw [nI_1]
              refine Wk.lve (lv2 := [(0, .ref x), (1, .int c), (2, .int a), (3, .int 0), (4, bp_ pA (fo_ V c 0 (i + 1))), (5, .int (nI (i + 1)))]) (by rw [e1, bp_n (Nat.succ_ne_zero i)]) (ih (i + 1) hlt (by omega))
          ·
            refine wk_goto C d_PR_mostSpecial_69 (tgt := 97) (by decide) ?_
            have e1 : fo_ V c 0 (i + 1) = fo_ V c 0 i := fo_n (by clear C ih hmore; have h4 := an_4 (V 15 (i + 1)); grind [z_0, z_1])
            refine wk_run C k_PR_mostSpecial_97 (pc2 := 100) (lv2 := [(5, .int ((nI i) + 1)), (6, .ref (pA (i + 1))), (0, .ref x), (1, .int c), (2, .int a), (3, .int 0), (4, .ref (pA (fo_ V c 0 i)))]) (st2 := []) rfl ?_
            refine wk_goto C d_PR_mostSpecial_100 (tgt := 6) (by decide) ?_
            refine Wk.sub (lv2 := [(0, .ref x), (1, .int c), (2, .int a), (3, .int 0), (4, .ref (pA (fo_ V c 0 i))), (5, .int ((nI i) + 1))]) [2, 3, 4, 5, 6, 0] rfl ?_
            rw [nI_1]
            refine Wk.lve (lv2 := [(0, .ref x), (1, .int c), (2, .int a), (3, .int 0), (4, bp_ pA (fo_ V c 0 (i + 1))), (5, .int (nI (i + 1)))]) (by rw [e1, bp_n hz]) (ih (i + 1) hlt (by omega))
        ·
          refine wk_run C k_PR_mostSpecial_45 (pc2 := 48) (lv2 := [(6, .ref (pA (i + 1))), (0, .ref x), (1, .int c), (2, .int a), (3, .int 0), (4, .ref (pA (fo_ V c 0 i))), (5, .int (nI i))]) (st2 := [.int a, .ref (pA (i + 1))]) rfl ?_
          refine wk_callV (cl := ("ProfileRights$Profile", T_PF, 6)) (rest := []) C (c_PF_isOpenToAll l D HB h (pA (i + 1)) (pn (i + 1)) (pe (i + 1)) (nI (i + 1)) (V 11 (i + 1)) (V 14 (i + 1)) (V 15 (i + 1)) ho a) cs_PR_254 kc_PF_isOpenToAll ki_PF ho rfl rfl rfl (Nat.le_of_ble_eq_true rfl) (Nat.le_of_ble_eq_true rfl) (Nat.le_of_ble_eq_true rfl) (Nat.le_of_ble_eq_true rfl) (Nat.le_of_ble_eq_true rfl) d_PR_mostSpecial_48 (fun v h2 hq => ?_) (fun _ _ z => nomatch z.1)
          obtain ⟨e1, e2⟩ := hq; cases e1; replace e2 := e2.symm; subst e2
          refine wk_br C d_PR_mostSpecial_51 (P := (if V 15 (i + 1) &&& 4 = 0 ∨ V 14 (i + 1) < a then (0 : Int32) else 1) = 0) (tgt := 97) (rest := []) rfl (by decide) (fun c15 => ?_) (fun c15 => ?_)
          ·
            have e1 : fo_ V c 0 (i + 1) = fo_ V c 0 i := fo_n (by clear C ih hmore; have h4 := an_4 (V 15 (i + 1)); grind [z_0, z_1])
            refine wk_run C k_PR_mostSpecial_97 (pc2 := 100) (lv2 := [(5, .int ((nI i) + 1)), (6, .ref (pA (i + 1))), (0, .ref x), (1, .int c), (2, .int a), (3, .int 0), (4, .ref (pA (fo_ V c 0 i)))]) (st2 := []) rfl ?_
            refine wk_goto C d_PR_mostSpecial_100 (tgt := 6) (by decide) ?_
            refine Wk.sub (lv2 := [(0, .ref x), (1, .int c), (2, .int a), (3, .int 0), (4, .ref (pA (fo_ V c 0 i))), (5, .int ((nI i) + 1))]) [2, 3, 4, 5, 6, 0] rfl ?_
            rw [nI_1]
            refine Wk.lve (lv2 := [(0, .ref x), (1, .int c), (2, .int a), (3, .int 0), (4, bp_ pA (fo_ V c 0 (i + 1))), (5, .int (nI (i + 1)))]) (by rw [e1, bp_n hz]) (ih (i + 1) hlt (by omega))
          ·
            refine wk_run C k_PR_mostSpecial_54 (pc2 := 56) (lv2 := [(6, .ref (pA (i + 1))), (0, .ref x), (1, .int c), (2, .int a), (3, .int 0), (4, .ref (pA (fo_ V c 0 i))), (5, .int (nI i))]) (st2 := [.ref (pA (i + 1))]) rfl ?_
            refine wk_get C fd_PR_121 ho rfl d_PR_mostSpecial_56 ?_
            refine wk_run C k_PR_mostSpecial_59 (pc2 := 60) (lv2 := [(6, .ref (pA (i + 1))), (0, .ref x), (1, .int c), (2, .int a), (3, .int 0), (4, .ref (pA (fo_ V c 0 i))), (5, .int (nI i))]) (st2 := [.ref x, .ref (pn (i + 1))]) rfl ?_
            refine wk_get C fd_PR_29 hx rfl d_PR_mostSpecial_60 ?_
            refine wk_callV (cl := ("ProfileRights$Name", T_NM, 4)) (rest := []) C (c_NM_fits l D HB h (pn (i + 1)) cc2 (nu (V 13 (i + 1))) aq ac (nu (V 22 0)) (nf_ V (i + 1)) (V 21) ng qf _ _ _ _ hn1 hn2 hn3 hn4 hq1 hq2 hq3 hq4) cs_PR_257 kc_NM_fits ki_NM hn1 rfl rfl rfl (Nat.le_of_ble_eq_true rfl) (Nat.le_of_ble_eq_true rfl) (Nat.le_of_ble_eq_true rfl) (Nat.le_of_ble_eq_true rfl) (Nat.le_of_ble_eq_true rfl) d_PR_mostSpecial_63 (fun v h2 hq => ?_) (fun E h2 hq => by by_cases z : rb_F (nf_ V (i + 1)) (nu (V 13 (i + 1))) (V 21) (nu (V 22 0)); (exact nomatch hq.1 z); exact nomatch hq.2.1 z)
            obtain ⟨k1, k2, e2⟩ := hq; replace e2 := e2.symm; subst e2
            have ev : v = some (.int (z_ (fp_ V (i + 1)))) := by
              by_cases z : rb_F (nf_ V (i + 1)) (nu (V 13 (i + 1))) (V 21) (nu (V 22 0))
              · have k3 := k1 z; cases k3; rw [z_p (show fp_ V (i + 1) from (rb_ft _ _ _ hq4).mp z)]
              · have k3 := k2 z; cases k3; rw [z_n (show ¬ fp_ V (i + 1) from fun y => z ((rb_ft _ _ _ hq4).mpr y))]
            subst ev
            show Wk _ _ _ _ _ _ _ _ _ _ _ _ _ _ _ _ _ _ _ [.int (z_ (fp_ V (i + 1)))]
            refine wk_br C d_PR_mostSpecial_66 (P := ¬ (z_ (fp_ V (i + 1))) = 0) (tgt := 72) (rest := []) rfl (by decide) (fun c16 => ?_) (fun c16 => ?_)
            ·
              refine wk_run C k_PR_mostSpecial_72 (pc2 := 74) (lv2 := [(6, .ref (pA (i + 1))), (0, .ref x), (1, .int c), (2, .int a), (3, .int 0), (4, .ref (pA (fo_ V c 0 i))), (5, .int (nI i))]) (st2 := [.ref (pA (fo_ V c 0 i))]) rfl ?_
              refine wk_nlR C d_PR_mostSpecial_74 ?_
              refine wk_run C k_PR_mostSpecial_77 (pc2 := 79) (lv2 := [(6, .ref (pA (i + 1))), (0, .ref x), (1, .int c), (2, .int a), (3, .int 0), (4, .ref (pA (fo_ V c 0 i))), (5, .int (nI i))]) (st2 := [.ref (pA (i + 1))]) rfl ?_
              refine wk_get C fd_PR_121 ho rfl d_PR_mostSpecial_79 ?_
              refine wk_run C k_PR_mostSpecial_82 (pc2 := 84) (lv2 := [(6, .ref (pA (i + 1))), (0, .ref x), (1, .int c), (2, .int a), (3, .int 0), (4, .ref (pA (fo_ V c 0 i))), (5, .int (nI i))]) (st2 := [.ref (pA (fo_ V c 0 i)), .ref (pn (i + 1))]) rfl ?_
              refine wk_get C fd_PR_121 hbo rfl d_PR_mostSpecial_84 ?_
              obtain ⟨-, ⟨cc3, ⟨hn3, -, -⟩, -, -⟩, -, -⟩ := hP (fo_ V c 0 i) (by omega) (by omega)
              refine wk_callV (cl := ("ProfileRights$Name", T_NM, 4)) (rest := []) C (hmore (i + 1) (fo_ V c 0 i) (by omega) hlt (by omega) (by omega) (z_1 c16) (fo_fp hz)) cs_PR_261 kc_NM_isMoreSpecialThan ki_NM hn1 rfl rfl rfl (Nat.le_of_ble_eq_true rfl) (Nat.le_of_ble_eq_true rfl) (Nat.le_of_ble_eq_true rfl) (Nat.le_of_ble_eq_true rfl) (Nat.le_of_ble_eq_true rfl) d_PR_mostSpecial_87 (fun v h2 hq => ?_) (fun _ _ z => nomatch z.1)
              obtain ⟨e1, e2⟩ := hq; cases e1; replace e2 := e2.symm; subst e2
              refine wk_br C d_PR_mostSpecial_90 (P := (z_ (mo_ V (i + 1) (fo_ V c 0 i))) = 0) (tgt := 97) (rest := []) rfl (by decide) (fun c17 => ?_) (fun c17 => ?_)
              ·
                have e1 : fo_ V c 0 (i + 1) = fo_ V c 0 i := fo_n (by clear C ih hmore; have h4 := an_4 (V 15 (i + 1)); grind [z_0, z_1])
                refine wk_run C k_PR_mostSpecial_97 (pc2 := 100) (lv2 := [(5, .int ((nI i) + 1)), (6, .ref (pA (i + 1))), (0, .ref x), (1, .int c), (2, .int a), (3, .int 0), (4, .ref (pA (fo_ V c 0 i)))]) (st2 := []) rfl ?_
                refine wk_goto C d_PR_mostSpecial_100 (tgt := 6) (by decide) ?_
                refine Wk.sub (lv2 := [(0, .ref x), (1, .int c), (2, .int a), (3, .int 0), (4, .ref (pA (fo_ V c 0 i))), (5, .int ((nI i) + 1))]) [2, 3, 4, 5, 6, 0] rfl ?_
                rw [nI_1]
                refine Wk.lve (lv2 := [(0, .ref x), (1, .int c), (2, .int a), (3, .int 0), (4, bp_ pA (fo_ V c 0 (i + 1))), (5, .int (nI (i + 1)))]) (by rw [e1, bp_n hz]) (ih (i + 1) hlt (by omega))
              ·
                refine wk_run C k_PR_mostSpecial_93 (pc2 := 97) (lv2 := [(4, .ref (pA (i + 1))), (6, .ref (pA (i + 1))), (0, .ref x), (1, .int c), (2, .int a), (3, .int 0), (5, .int (nI i))]) (st2 := []) rfl ?_
                have e1 : fo_ V c 0 (i + 1) = i + 1 := fo_p (by clear C ih hmore; have h4 := an_4 (V 15 (i + 1)); grind [z_0, z_1])
                refine wk_run C k_PR_mostSpecial_97 (pc2 := 100) (lv2 := [(5, .int ((nI i) + 1)), (4, .ref (pA (i + 1))), (6, .ref (pA (i + 1))), (0, .ref x), (1, .int c), (2, .int a), (3, .int 0)]) (st2 := []) rfl ?_
                refine wk_goto C d_PR_mostSpecial_100 (tgt := 6) (by decide) ?_
                refine Wk.sub (lv2 := [(0, .ref x), (1, .int c), (2, .int a), (3, .int 0), (4, .ref (pA (i + 1))), (5, .int ((nI i) + 1))]) [3, 4, 5, 6, 1, 0] rfl ?_
                rw [nI_1]
                refine Wk.lve (lv2 := [(0, .ref x), (1, .int c), (2, .int a), (3, .int 0), (4, bp_ pA (fo_ V c 0 (i + 1))), (5, .int (nI (i + 1)))]) (by rw [e1, bp_n (Nat.succ_ne_zero i)]) (ih (i + 1) hlt (by omega))
            ·
              refine wk_goto C d_PR_mostSpecial_69 (tgt := 97) (by decide) ?_
              have e1 : fo_ V c 0 (i + 1) = fo_ V c 0 i := fo_n (by clear C ih hmore; have h4 := an_4 (V 15 (i + 1)); grind [z_0, z_1])
              refine wk_run C k_PR_mostSpecial_97 (pc2 := 100) (lv2 := [(5, .int ((nI i) + 1)), (6, .ref (pA (i + 1))), (0, .ref x), (1, .int c), (2, .int a), (3, .int 0), (4, .ref (pA (fo_ V c 0 i)))]) (st2 := []) rfl ?_
              refine wk_goto C d_PR_mostSpecial_100 (tgt := 6) (by decide) ?_
              refine Wk.sub (lv2 := [(0, .ref x), (1, .int c), (2, .int a), (3, .int 0), (4, .ref (pA (fo_ V c 0 i))), (5, .int ((nI i) + 1))]) [2, 3, 4, 5, 6, 0] rfl ?_
              rw [nI_1]
              refine Wk.lve (lv2 := [(0, .ref x), (1, .int c), (2, .int a), (3, .int 0), (4, bp_ pA (fo_ V c 0 (i + 1))), (5, .int (nI (i + 1)))]) (by rw [e1, bp_n hz]) (ih (i + 1) hlt (by omega))
