/-- the verdict, and the profile that counted -/
noncomputable def dv_ (V : vT) (u : Nat) (c a : Int32) (t : Int64) : Int32 × Nat :=
  if ¬ V 5 u = 0 then (0, 0) else if V 10 (nu c) = 0 then (1, 0) else if ¬ fo_ V c a (nu (V 9 0)) = 0 then (1, fo_ V c a (nu (V 9 0))) else if fo_ V c 0 (nu (V 9 0)) = 0 then (if V 10 (nu c) = 2 then 0 else 1, 0) else
  if ¬ ll_ V (fo_ V c 0 (nu (V 9 0))) u t < a then (if V 15 (fo_ V c 0 (nu (V 9 0))) &&& 2 = 0 then 1 else 3, fo_ V c 0 (nu (V 9 0))) else (if V 15 (fo_ V c 0 (nu (V 9 0))) &&& 1 = 0 then 0 else 2, fo_ V c 0 (nu (V 9 0)))
theorem dv_may {V : vT} {u c a : Int32} {t : Int64} (h : (¬ u < 1 ∧ u ≤ V 8 0) ∧ (¬ c < 0 ∧ c < 8) ∧ (¬ a < 1 ∧ ¬ 4 < a) ∧ 0 ≤ lg_cmp t 0) (hm : V 10 (nu c) = 0 ∨ V 10 (nu c) = 1 ∨ V 10 (nu c) = 2) :
    sp_may V u c a t = (0, if (dv_ V (nu u) c a t).1 = 3 then 1 else (dv_ V (nu u) c a t).1, an_ (vc V 0 0) u c a (if (dv_ V (nu u) c a t).1 = 3 then 1 else (dv_ V (nu u) c a t).1) (nI (dv_ V (nu u) c a t).2) (if (dv_ V (nu u) c a t).1 = 1 then 0 else 1)) := by
  have e2 := an_2 (V 15 (fo_ V c 0 (nu (V 9 0))))
  have e1 := an_1 (V 15 (fo_ V c 0 (nu (V 9 0))))
  by_cases z1 : V 5 (nu u) = 0
  · by_cases z2 : V 10 (nu c) = 0
    · skip
      have ed : dv_ V (nu u) c a t = (1, 0) := by grind [dv_]
      have es : sp_may V u c a t = (0, 1, an_ (vc V 0 0) u c a 1 0 0) := by grind [sp_may]
      rw [ed, es]; rfl
    · by_cases z3 : fo_ V c a (nu (V 9 0)) = 0
      · by_cases z4 : fo_ V c 0 (nu (V 9 0)) = 0
        · rcases hm with z5 | z5 | z5
          · exact absurd z5 z2
          · skip
            have ed : dv_ V (nu u) c a t = (1, 0) := by grind [dv_]
            have es : sp_may V u c a t = (0, 1, an_ (vc V 0 0) u c a 1 0 0) := by grind [sp_may]
            rw [ed, es]; rfl
          · skip
            have ed : dv_ V (nu u) c a t = (0, 0) := by grind [dv_]
            have es : sp_may V u c a t = (0, 0, an_ (vc V 0 0) u c a 0 0 1) := by grind [sp_may]
            rw [ed, es]; rfl
        · by_cases z5 : ll_ V (fo_ V c 0 (nu (V 9 0))) (nu u) t < a
          · by_cases z6 : V 15 (fo_ V c 0 (nu (V 9 0))) &&& 1 = 0
            · skip
              have ed : dv_ V (nu u) c a t = (0, fo_ V c 0 (nu (V 9 0))) := by grind [dv_]
              have es : sp_may V u c a t = (0, 0, an_ (vc V 0 0) u c a 0 (nI (fo_ V c 0 (nu (V 9 0)))) 1) := by grind [sp_may]
              rw [ed, es]; rfl
            · skip
              have ed : dv_ V (nu u) c a t = (2, fo_ V c 0 (nu (V 9 0))) := by grind [dv_]
              have es : sp_may V u c a t = (0, 2, an_ (vc V 0 0) u c a 2 (nI (fo_ V c 0 (nu (V 9 0)))) 1) := by grind [sp_may]
              rw [ed, es]; rfl
          · by_cases z6 : V 15 (fo_ V c 0 (nu (V 9 0))) &&& 2 = 0
            · skip
              have ed : dv_ V (nu u) c a t = (1, fo_ V c 0 (nu (V 9 0))) := by grind [dv_]
              have es : sp_may V u c a t = (0, 1, an_ (vc V 0 0) u c a 1 (nI (fo_ V c 0 (nu (V 9 0)))) 0) := by grind [sp_may]
              rw [ed, es]; rfl
            · skip
              have ed : dv_ V (nu u) c a t = (3, fo_ V c 0 (nu (V 9 0))) := by grind [dv_]
              have es : sp_may V u c a t = (0, 1, an_ (vc V 0 0) u c a 1 (nI (fo_ V c 0 (nu (V 9 0)))) 1) := by grind [sp_may]
              rw [ed, es]; rfl
      · skip
        have ed : dv_ V (nu u) c a t = (1, fo_ V c a (nu (V 9 0))) := by grind [dv_]
        have es : sp_may V u c a t = (0, 1, an_ (vc V 0 0) u c a 1 (nI (fo_ V c a (nu (V 9 0)))) 0) := by grind [sp_may]
        rw [ed, es]; rfl
  · skip
    have ed : dv_ V (nu u) c a t = (0, 0) := by grind [dv_]
    have es : sp_may V u c a t = (0, 0, an_ (vc V 0 0) u c a 0 0 1) := by grind [sp_may]
    rw [ed, es]; rfl
theorem dv_le {V : vT} {u : Nat} {c a : Int32} {t : Int64} : (dv_ V u c a t).2 ≤ nu (V 9 0) := by
  have h1 := fo_le V c a (nu (V 9 0))
  have h2 := fo_le V c 0 (nu (V 9 0))
  unfold dv_
  split
  · exact Nat.zero_le _
  · split
    · exact Nat.zero_le _
    · split
      · exact h1
      · split
        · exact Nat.zero_le _
        · split
          · exact h2
          · exact h2

theorem k_PR_decide_0 : px_dec prog_1_method_32_code [.aload_n 0, .iconst 0] 0 = true := by decide +kernel
theorem d_PR_decide_2 : decode prog_1_method_32_code 2 = .ok (.putfield 40, 3) := by decide +kernel
theorem k_PR_decide_5 : px_dec prog_1_method_32_code [.aload_n 1] 5 = true := by decide +kernel
theorem d_PR_decide_6 : decode prog_1_method_32_code 6 = .ok (.getfield 95, 3) := by decide +kernel
theorem d_PR_decide_9 : decode prog_1_method_32_code 9 = .ok (.ifCond .eq 5, 3) := by decide +kernel
theorem k_PR_decide_14 : px_dec prog_1_method_32_code [.aload_n 0] 14 = true := by decide +kernel
theorem d_PR_decide_15 : decode prog_1_method_32_code 15 = .ok (.getfield 22, 3) := by decide +kernel
theorem k_PR_decide_18 : px_dec prog_1_method_32_code [.iload_n 2] 18 = true := by decide +kernel
theorem d_PR_decide_19 : decode prog_1_method_32_code 19 = .ok (.iaload, 1) := by decide +kernel
theorem d_PR_decide_20 : decode prog_1_method_32_code 20 = .ok (.ifCond .ne 5, 3) := by decide +kernel
theorem k_PR_decide_25 : px_dec prog_1_method_32_code [.aload_n 0, .iload_n 2, .iload_n 3, .iconst 1] 25 = true := by decide +kernel
theorem d_PR_decide_29 : decode prog_1_method_32_code 29 = .ok (.invokevirtual 237, 3) := by decide +kernel
theorem k_PR_decide_32 : px_dec prog_1_method_32_code [.astore 5, .aload 5] 32 = true := by decide +kernel
theorem d_PR_decide_36 : decode prog_1_method_32_code 36 = .ok (.ifnull 14, 3) := by decide +kernel
theorem k_PR_decide_50 : px_dec prog_1_method_32_code [.aload_n 0, .iload_n 2, .iload_n 3, .iconst 0] 50 = true := by decide +kernel
theorem d_PR_decide_54 : decode prog_1_method_32_code 54 = .ok (.invokevirtual 237, 3) := by decide +kernel
theorem k_PR_decide_57 : px_dec prog_1_method_32_code [.astore 6, .aload 6] 57 = true := by decide +kernel
theorem d_PR_decide_61 : decode prog_1_method_32_code 61 = .ok (.ifnonnull 19, 3) := by decide +kernel
theorem k_PR_decide_64 : px_dec prog_1_method_32_code [.aload_n 0] 64 = true := by decide +kernel
theorem d_PR_decide_65 : decode prog_1_method_32_code 65 = .ok (.getfield 22, 3) := by decide +kernel
theorem k_PR_decide_68 : px_dec prog_1_method_32_code [.iload_n 2] 68 = true := by decide +kernel
theorem d_PR_decide_69 : decode prog_1_method_32_code 69 = .ok (.iaload, 1) := by decide +kernel
theorem k_PR_decide_70 : px_dec prog_1_method_32_code [.iconst 2] 70 = true := by decide +kernel
theorem d_PR_decide_71 : decode prog_1_method_32_code 71 = .ok (.if_icmp .ne 7, 3) := by decide +kernel
theorem k_PR_decide_78 : px_dec prog_1_method_32_code [.iconst 1] 78 = true := by decide +kernel
theorem d_PR_decide_79 : decode prog_1_method_32_code 79 = .ok (.ireturn, 1) := by decide +kernel
theorem k_PR_decide_74 : px_dec prog_1_method_32_code [.iconst 0] 74 = true := by decide +kernel
theorem d_PR_decide_75 : decode prog_1_method_32_code 75 = .ok (.goto 4, 3) := by decide +kernel
theorem k_PR_decide_80 : px_dec prog_1_method_32_code [.aload_n 0, .aload 6] 80 = true := by decide +kernel
theorem d_PR_decide_83 : decode prog_1_method_32_code 83 = .ok (.getfield 241, 3) := by decide +kernel
theorem d_PR_decide_86 : decode prog_1_method_32_code 86 = .ok (.putfield 40, 3) := by decide +kernel
theorem k_PR_decide_89 : px_dec prog_1_method_32_code [.aload 6, .aload_n 1, .iload 4] 89 = true := by decide +kernel
theorem d_PR_decide_94 : decode prog_1_method_32_code 94 = .ok (.invokevirtual 244, 3) := by decide +kernel
theorem k_PR_decide_97 : px_dec prog_1_method_32_code [.iload_n 3] 97 = true := by decide +kernel
theorem d_PR_decide_98 : decode prog_1_method_32_code 98 = .ok (.if_icmp .lt 18, 3) := by decide +kernel
theorem k_PR_decide_116 : px_dec prog_1_method_32_code [.aload 6, .iconst 1] 116 = true := by decide +kernel
theorem d_PR_decide_119 : decode prog_1_method_32_code 119 = .ok (.invokevirtual 248, 3) := by decide +kernel
theorem d_PR_decide_122 : decode prog_1_method_32_code 122 = .ok (.ifCond .eq 7, 3) := by decide +kernel
theorem k_PR_decide_129 : px_dec prog_1_method_32_code [.iconst 0] 129 = true := by decide +kernel
theorem d_PR_decide_130 : decode prog_1_method_32_code 130 = .ok (.ireturn, 1) := by decide +kernel
theorem k_PR_decide_125 : px_dec prog_1_method_32_code [.iconst 2] 125 = true := by decide +kernel
theorem d_PR_decide_126 : decode prog_1_method_32_code 126 = .ok (.goto 4, 3) := by decide +kernel
theorem k_PR_decide_101 : px_dec prog_1_method_32_code [.aload 6, .iconst 2] 101 = true := by decide +kernel
theorem d_PR_decide_104 : decode prog_1_method_32_code 104 = .ok (.invokevirtual 248, 3) := by decide +kernel
theorem d_PR_decide_107 : decode prog_1_method_32_code 107 = .ok (.ifCond .eq 7, 3) := by decide +kernel
theorem k_PR_decide_114 : px_dec prog_1_method_32_code [.iconst 1] 114 = true := by decide +kernel
theorem d_PR_decide_115 : decode prog_1_method_32_code 115 = .ok (.ireturn, 1) := by decide +kernel
theorem k_PR_decide_110 : px_dec prog_1_method_32_code [.iconst 3] 110 = true := by decide +kernel
theorem d_PR_decide_111 : decode prog_1_method_32_code 111 = .ok (.goto 4, 3) := by decide +kernel
theorem k_PR_decide_39 : px_dec prog_1_method_32_code [.aload_n 0, .aload 5] 39 = true := by decide +kernel
theorem d_PR_decide_42 : decode prog_1_method_32_code 42 = .ok (.getfield 241, 3) := by decide +kernel
theorem d_PR_decide_45 : decode prog_1_method_32_code 45 = .ok (.putfield 40, 3) := by decide +kernel
theorem k_PR_decide_48 : px_dec prog_1_method_32_code [.iconst 1] 48 = true := by decide +kernel
theorem d_PR_decide_49 : decode prog_1_method_32_code 49 = .ok (.ireturn, 1) := by decide +kernel
theorem k_PR_decide_23 : px_dec prog_1_method_32_code [.iconst 1] 23 = true := by decide +kernel
theorem d_PR_decide_24 : decode prog_1_method_32_code 24 = .ok (.ireturn, 1) := by decide +kernel
theorem k_PR_decide_12 : px_dec prog_1_method_32_code [.iconst 0] 12 = true := by decide +kernel
theorem d_PR_decide_13 : decode prog_1_method_32_code 13 = .ok (.ireturn, 1) := by decide +kernel
set_option maxRecDepth 100000 in
set_option maxHeartbeats 4000000 in
theorem c_PR_decide (l : Launch) (D : va_G) (HB : Heap) (h : hp_T) (own : oT) (V : vT) (x gl ul pl mo aq tr : Nat) (la : Int32) (gA uA pA pn pe : Nat → Nat) (eA : Nat → Nat → Nat) (sf : Nat → Int64) (u : Nat) (c a : Int32) (t : Int64) (hO : cO h own x gl ul pl mo aq tr la) (hPL : cL D h own 13 0 pl (nu (V 9 0)) (fun k => pA (k + 1))) (hM : cM D h own mo V) (hN : cN D h own 5 0 aq (nu (V 22 0)) (V 21)) (hG : cG h own (nu (V 7 0)) gA V) (hU : cU h own (nu (V 8 0)) gA uA sf V) (hP : cP D h own (nu (V 9 0)) pA pn pe eA V) (hn : nu (V 9 0) ≤ 60) (hn7 : nu (V 7 0) ≤ 20) (hA : ∀ j, 1 ≤ j → j ≤ nu (V 7 0) → ok_ (V 1 j) (nu (V 7 0))) (hg : ok_ (V 2 u) (nu (V 7 0))) (hg1 : 1 ≤ nu (V 2 u)) (hC : ∃ m, cn_ V m (nu (V 2 u)) = 0) (hE : ∀ q, q ≤ 60 → nu (V 16 q) ≤ 10) (hu : 1 ≤ u ∧ u ≤ nu (V 8 0)) (hc : ¬ c < 0 ∧ c < 8) (ha : ¬ a = 0) : ct_M l y_PR_decide (.code y_PR_decide prog_1_method_32_code 7 (Option.some Jvm.ClassFile.FieldType.int)) ({ frames := 6, cells := 0, slots := 0, locals := 150 }) D HB [.ref x, .ref (uA u), .int c, .int a, .int (hr_ t)] h (fun o h2 => o = .inl (some (.int (dv_ V u c a t).1)) ∧ h2 = hp_up h x (.inr (0, [.ref gl, .ref ul, .ref pl, .ref mo, .ref aq, .ref tr, .int (nI (dv_ V u c a t).2)]))) := by
  refine ct_of (by decide) (Nat.le_of_ble_eq_true rfl) rfl ?_
  intro p_ e_ s_ m_ r_ b_ t_ c_ C hnm
  obtain ⟨hr, ehr⟩ : ∃ hr : Int32, hr = hr_ t := ⟨_, rfl⟩
  rw [← ehr]
  refine wk_run C k_PR_decide_0 (pc2 := 2) (lv2 := [(0, .ref x), (1, .ref (uA u)), (2, .int c), (3, .int a), (4, .int hr)]) (st2 := [.int 0, .ref x]) rfl ?_
  refine wk_put (fs2 := [.ref gl, .ref ul, .ref pl, .ref mo, .ref aq, .ref tr, .int 0]) C fd_PR_40 hO.1 rfl rfl (Nat.le_of_ble_eq_true rfl) rfl d_PR_decide_2 ?_
  have s : st_ [1] h own (hp_up h x (.inr (0, [.ref gl, .ref ul, .ref pl, .ref mo, .ref aq, .ref tr, .int 0]))) own := st_u (by rw [hO.2]) (by decide)
  replace hPL := cL_m hPL s (by decide) (by decide)
  replace hM := cM_m hM s (by decide)
  replace hN := cN_m hN s (by decide) (by decide)
  replace hG := cG_m hG s (by decide)
  replace hU := cU_m hU s (by decide)
  replace hP := cP_m hP s (by decide) (by decide) (by decide) (by decide) (by decide) (by decide)
  obtain ⟨g, hgh⟩ : ∃ g : hp_T, g = hp_up h x (.inr (0, [.ref gl, .ref ul, .ref pl, .ref mo, .ref aq, .ref tr, .int 0])) := ⟨_, rfl⟩
  have hx : g x = some (.inr (0, [.ref gl, .ref ul, .ref pl, .ref mo, .ref aq, .ref tr, .int 0])) := by rw [hgh, hp_us]
  have hfin : ∀ v : Nat, hp_up g x (.inr (0, [.ref gl, .ref ul, .ref pl, .ref mo, .ref aq, .ref tr, .int (nI v)])) = hp_up h x (.inr (0, [.ref gl, .ref ul, .ref pl, .ref mo, .ref aq, .ref tr, .int (nI v)])) := fun v => by rw [hgh, hp_uu]
  have hf0 : g = hp_up h x (.inr (0, [.ref gl, .ref ul, .ref pl, .ref mo, .ref aq, .ref tr, .int (nI 0)])) := hgh
  rw [← hgh] at hPL hM hN hG hU hP ⊢
  clear s hgh
  have hus := (hU u hu.1 hu.2).1
  obtain ⟨b, hL, -⟩ := id hPL
  refine wk_run C k_PR_decide_5 (pc2 := 6) (lv2 := [(0, .ref x), (1, .ref (uA u)), (2, .int c), (3, .int a), (4, .int hr)]) (st2 := [.ref (uA u)]) rfl ?_
  refine wk_get C fd_PR_95 hus rfl d_PR_decide_6 ?_
  refine wk_br C d_PR_decide_9 (P := (V 5 u) = 0) (tgt := 14) (rest := []) rfl (by decide) (fun c1 => ?_) (fun c1 => ?_)
  ·
    refine wk_run C k_PR_decide_14 (pc2 := 15) (lv2 := [(0, .ref x), (1, .ref (uA u)), (2, .int c), (3, .int a), (4, .int hr)]) (st2 := [.ref x]) rfl ?_
    refine wk_get C fd_PR_22 hx rfl d_PR_decide_15 ?_
    refine wk_run C k_PR_decide_18 (pc2 := 19) (lv2 := [(0, .ref x), (1, .ref (uA u)), (2, .int c), (3, .int a), (4, .int hr)]) (st2 := [.int c, .ref mo]) rfl ?_
    have kc : vp_in c 8 := vi_k (ok_c hc.1 hc.2 (show (8 : Int32) = nI (7 + 1) from rfl) (by decide)) (by decide) (by decide)
    refine wk_iald C hM.1 kc d_PR_decide_19 ?_
    show Wk _ _ _ _ _ _ _ _ _ _ _ _ _ _ _ _ _ _ _ (.int (V 10 (nu c)) :: _)
    refine wk_br C d_PR_decide_20 (P := ¬ (V 10 (nu c)) = 0) (tgt := 25) (rest := []) rfl (by decide) (fun c2 => ?_) (fun c2 => ?_)
    ·
      refine wk_run C k_PR_decide_25 (pc2 := 29) (lv2 := [(0, .ref x), (1, .ref (uA u)), (2, .int c), (3, .int a), (4, .int hr)]) (st2 := [.int 1, .int a, .int c, .ref x]) rfl ?_
      refine wk_callV (cl := ("ProfileRights", T_PR, 7)) (rest := []) C (c_PR_mostSpecial1 l D HB g x gl ul pl mo aq tr 0 hx own V b pA pn pe eA c a hL hP hN hn ha) cs_PR_237 kc_PR_mostSpecial ki_PR hx rfl rfl rfl (Nat.le_of_ble_eq_true rfl) (Nat.le_of_ble_eq_true rfl) (Nat.le_of_ble_eq_true rfl) (Nat.le_of_ble_eq_true rfl) (Nat.le_of_ble_eq_true rfl) d_PR_decide_29 (fun v h2 hq => ?_) (fun _ _ z => nomatch z.1)
      obtain ⟨e1, e2⟩ := hq; cases e1; replace e2 := e2.symm; subst e2
      show Wk _ _ _ _ _ _ _ _ _ _ _ _ _ _ _ _ _ _ _ [bp_ pA (fo_ V c a (nu (V 9 0)))]
      have h60 := fo_le V c a (nu (V 9 0))
      have h61 := fo_le V c 0 (nu (V 9 0))
      by_cases z3 : fo_ V c a (nu (V 9 0)) = 0
      ·
        rw [bp_0 z3]
        refine wk_run C k_PR_decide_32 (pc2 := 36) (lv2 := [(5, .null), (0, .ref x), (1, .ref (uA u)), (2, .int c), (3, .int a), (4, .int hr)]) (st2 := [.null]) rfl ?_
        refine wk_nlN C d_PR_decide_36 (tgt := 50) (by decide) ?_
        refine wk_run C k_PR_decide_50 (pc2 := 54) (lv2 := [(5, .null), (0, .ref x), (1, .ref (uA u)), (2, .int c), (3, .int a), (4, .int hr)]) (st2 := [.int 0, .int a, .int c, .ref x]) rfl ?_
        refine wk_callV (cl := ("ProfileRights", T_PR, 7)) (rest := []) C (c_PR_mostSpecial0 l D HB g x gl ul pl mo aq tr 0 hx own V b pA pn pe eA c a hL hP hN hn ha) cs_PR_237 kc_PR_mostSpecial ki_PR hx rfl rfl rfl (Nat.le_of_ble_eq_true rfl) (Nat.le_of_ble_eq_true rfl) (Nat.le_of_ble_eq_true rfl) (Nat.le_of_ble_eq_true rfl) (Nat.le_of_ble_eq_true rfl) d_PR_decide_54 (fun v h2 hq => ?_) (fun _ _ z => nomatch z.1)
        obtain ⟨e1, e2⟩ := hq; cases e1; replace e2 := e2.symm; subst e2
        show Wk _ _ _ _ _ _ _ _ _ _ _ _ _ _ _ _ _ _ _ [bp_ pA (fo_ V c 0 (nu (V 9 0)))]
        by_cases z4 : fo_ V c 0 (nu (V 9 0)) = 0
        ·
          rw [bp_0 z4]
          refine wk_run C k_PR_decide_57 (pc2 := 61) (lv2 := [(6, .null), (5, .null), (0, .ref x), (1, .ref (uA u)), (2, .int c), (3, .int a), (4, .int hr)]) (st2 := [.null]) rfl ?_
          refine wk_nnN C d_PR_decide_61 ?_
          refine wk_run C k_PR_decide_64 (pc2 := 65) (lv2 := [(6, .null), (5, .null), (0, .ref x), (1, .ref (uA u)), (2, .int c), (3, .int a), (4, .int hr)]) (st2 := [.ref x]) rfl ?_
          refine wk_get C fd_PR_22 hx rfl d_PR_decide_65 ?_
          refine wk_run C k_PR_decide_68 (pc2 := 69) (lv2 := [(6, .null), (5, .null), (0, .ref x), (1, .ref (uA u)), (2, .int c), (3, .int a), (4, .int hr)]) (st2 := [.int c, .ref mo]) rfl ?_
          refine wk_iald C hM.1 kc d_PR_decide_69 ?_
          show Wk _ _ _ _ _ _ _ _ _ _ _ _ _ _ _ _ _ _ _ (.int (V 10 (nu c)) :: _)
          refine wk_run C k_PR_decide_70 (pc2 := 71) (lv2 := [(6, .null), (5, .null), (0, .ref x), (1, .ref (uA u)), (2, .int c), (3, .int a), (4, .int hr)]) (st2 := [.int 2, .int (V 10 (nu c))]) rfl ?_
          refine wk_br C d_PR_decide_71 (P := ¬ (V 10 (nu c)) = 2) (tgt := 78) (rest := []) rfl (by decide) (fun c5 => ?_) (fun c5 => ?_)
          ·
            refine wk_run C k_PR_decide_78 (pc2 := 79) (lv2 := [(6, .null), (5, .null), (0, .ref x), (1, .ref (uA u)), (2, .int c), (3, .int a), (4, .int hr)]) (st2 := [.int 1]) rfl ?_
            have ed : dv_ V u c a t = (1, 0) := by clear C hPL hM hN hG hU hP hL hus hx hfin hf0; grind [dv_]
            exact wk_iret C ⟨by rw [ed], by rw [ed]; exact hf0⟩ (by decide) (by decide) d_PR_decide_79
          ·
            refine wk_run C k_PR_decide_74 (pc2 := 75) (lv2 := [(6, .null), (5, .null), (0, .ref x), (1, .ref (uA u)), (2, .int c), (3, .int a), (4, .int hr)]) (st2 := [.int 0]) rfl ?_
            refine wk_goto C d_PR_decide_75 (tgt := 79) (by decide) ?_
            have ed : dv_ V u c a t = (0, 0) := by clear C hPL hM hN hG hU hP hL hus hx hfin hf0; grind [dv_]
            exact wk_iret C ⟨by rw [ed], by rw [ed]; exact hf0⟩ (by decide) (by decide) d_PR_decide_79
        ·
          rw [bp_n z4]
          have hQ := hP (fo_ V c 0 (nu (V 9 0))) (by omega) h61
          have hqo := hQ.1.1
          refine wk_run C k_PR_decide_57 (pc2 := 61) (lv2 := [(6, .ref (pA (fo_ V c 0 (nu (V 9 0))))), (5, .null), (0, .ref x), (1, .ref (uA u)), (2, .int c), (3, .int a), (4, .int hr)]) (st2 := [.ref (pA (fo_ V c 0 (nu (V 9 0))))]) rfl ?_
          refine wk_nnR C d_PR_decide_61 (tgt := 80) (by decide) ?_
          refine wk_run C k_PR_decide_80 (pc2 := 83) (lv2 := [(6, .ref (pA (fo_ V c 0 (nu (V 9 0))))), (5, .null), (0, .ref x), (1, .ref (uA u)), (2, .int c), (3, .int a), (4, .int hr)]) (st2 := [.ref (pA (fo_ V c 0 (nu (V 9 0)))), .ref x]) rfl ?_
          refine wk_get C fd_PR_241 hqo rfl d_PR_decide_83 ?_
          refine wk_put (fs2 := [.ref gl, .ref ul, .ref pl, .ref mo, .ref aq, .ref tr, .int (nI (fo_ V c 0 (nu (V 9 0))))]) C fd_PR_40 hx rfl rfl (Nat.le_of_ble_eq_true rfl) rfl d_PR_decide_86 ?_
          have s : st_ [1] g own (hp_up g x (.inr (0, [.ref gl, .ref ul, .ref pl, .ref mo, .ref aq, .ref tr, .int (nI (fo_ V c 0 (nu (V 9 0))))]))) own := st_u (by rw [hO.2]) (by decide)
          have hQ2 := cQ_m hQ s (by decide) (by decide) (by decide) (by decide) (by decide) (by decide)
          have hG2 := cG_m hG s (by decide)
          have hus2 := (cU_m hU s (by decide) u hu.1 hu.2).1
          refine wk_run C k_PR_decide_89 (pc2 := 94) (lv2 := [(6, .ref (pA (fo_ V c 0 (nu (V 9 0))))), (5, .null), (0, .ref x), (1, .ref (uA u)), (2, .int c), (3, .int a), (4, .int hr)]) (st2 := [.int hr, .ref (uA u), .ref (pA (fo_ V c 0 (nu (V 9 0))))]) rfl ?_
          rw [ehr]
          refine wk_callV (cl := ("ProfileRights$Profile", T_PF, 6)) (rest := []) C (c_PF_levelOf l D HB _ own V (nu (V 7 0)) (fo_ V c 0 (nu (V 9 0))) u _ _ _ (uA u) _ gA (sf u) t hQ2 hus2 hG2 hn7 hA hg hg1 hC (hE _ (by omega))) cs_PR_244 kc_PF_levelOf ki_PF hQ2.1.1 rfl rfl rfl (Nat.le_of_ble_eq_true rfl) (Nat.le_of_ble_eq_true rfl) (Nat.le_of_ble_eq_true rfl) (Nat.le_of_ble_eq_true rfl) (Nat.le_of_ble_eq_true rfl) d_PR_decide_94 (fun v h2 hq => ?_) (fun _ _ z => nomatch z.1)
          obtain ⟨e1, e2⟩ := hq; cases e1; replace e2 := e2.symm; subst e2
          show Wk _ _ _ _ _ _ _ _ _ _ _ _ _ _ _ _ _ _ _ [.int (ll_ V (fo_ V c 0 (nu (V 9 0))) u t)]
          refine wk_run C k_PR_decide_97 (pc2 := 98) (lv2 := [(6, .ref (pA (fo_ V c 0 (nu (V 9 0))))), (5, .null), (0, .ref x), (1, .ref (uA u)), (2, .int c), (3, .int a), (4, .int (hr_ t))]) (st2 := [.int a, .int (ll_ V (fo_ V c 0 (nu (V 9 0))) u t)]) rfl ?_
          refine wk_br C d_PR_decide_98 (P := (ll_ V (fo_ V c 0 (nu (V 9 0))) u t) < a) (tgt := 116) (rest := []) rfl (by decide) (fun c6 => ?_) (fun c6 => ?_)
          ·
            refine wk_run C k_PR_decide_116 (pc2 := 119) (lv2 := [(6, .ref (pA (fo_ V c 0 (nu (V 9 0))))), (5, .null), (0, .ref x), (1, .ref (uA u)), (2, .int c), (3, .int a), (4, .int (hr_ t))]) (st2 := [.int 1, .ref (pA (fo_ V c 0 (nu (V 9 0))))]) rfl ?_
            refine wk_callV (cl := ("ProfileRights$Profile", T_PF, 6)) (rest := []) C (c_PF_bears l D HB _ _ _ _ _ _ _ _ hQ2.1.1 1) cs_PR_248 kc_PF_bears ki_PF hQ2.1.1 rfl rfl rfl (Nat.le_of_ble_eq_true rfl) (Nat.le_of_ble_eq_true rfl) (Nat.le_of_ble_eq_true rfl) (Nat.le_of_ble_eq_true rfl) (Nat.le_of_ble_eq_true rfl) d_PR_decide_119 (fun v h2 hq => ?_) (fun _ _ z => nomatch z.1)
            obtain ⟨e1, e2⟩ := hq; cases e1; replace e2 := e2.symm; subst e2
            show Wk _ _ _ _ _ _ _ _ _ _ _ _ _ _ _ _ _ _ _ [.int (if V 15 (fo_ V c 0 (nu (V 9 0))) &&& 1 = 0 then (0 : Int32) else 1)]
            refine wk_br C d_PR_decide_122 (P := (if V 15 (fo_ V c 0 (nu (V 9 0))) &&& 1 = 0 then (0 : Int32) else 1) = 0) (tgt := 129) (rest := []) rfl (by decide) (fun c7 => ?_) (fun c7 => ?_)
            ·
              refine wk_run C k_PR_decide_129 (pc2 := 130) (lv2 := [(6, .ref (pA (fo_ V c 0 (nu (V 9 0))))), (5, .null), (0, .ref x), (1, .ref (uA u)), (2, .int c), (3, .int a), (4, .int (hr_ t))]) (st2 := [.int 0]) rfl ?_
              have c8 : V 15 (fo_ V c 0 (nu (V 9 0))) &&& 1 = 0 := by clear C; grind
              have ed : dv_ V u c a t = (0, fo_ V c 0 (nu (V 9 0))) := by clear C hPL hM hN hG hU hP hL hus hx hfin hf0; grind [dv_]
              exact wk_iret C ⟨by rw [ed], by rw [ed]; exact hfin _⟩ (by decide) (by decide) d_PR_decide_130
            ·
              refine wk_run C k_PR_decide_125 (pc2 := 126) (lv2 := [(6, .ref (pA (fo_ V c 0 (nu (V 9 0))))), (5, .null), (0, .ref x), (1, .ref (uA u)), (2, .int c), (3, .int a), (4, .int (hr_ t))]) (st2 := [.int 2]) rfl ?_
              refine wk_goto C d_PR_decide_126 (tgt := 130) (by decide) ?_
              have c8 : ¬ V 15 (fo_ V c 0 (nu (V 9 0))) &&& 1 = 0 := by clear C; grind
              have ed : dv_ V u c a t = (2, fo_ V c 0 (nu (V 9 0))) := by clear C hPL hM hN hG hU hP hL hus hx hfin hf0; grind [dv_]
              exact wk_iret C ⟨by rw [ed], by rw [ed]; exact hfin _⟩ (by decide) (by decide) d_PR_decide_130
          ·
            refine wk_run C k_PR_decide_101 (pc2 := 104) (lv2 := [(6, .ref (pA (fo_ V c 0 (nu (V 9 0))))), (5, .null), (0, .ref x), (1, .ref (uA u)), (2, .int c), (3, .int a), (4, .int (hr_ t))]) (st2 := [.int 2, .ref (pA (fo_ V c 0 (nu (V 9 0))))]) rfl ?_
            refine wk_callV (cl := ("ProfileRights$Profile", T_PF, 6)) (rest := []) C (c_PF_bears l D HB _ _ _ _ _ _ _ _ hQ2.1.1 2) cs_PR_248 kc_PF_bears ki_PF hQ2.1.1 rfl rfl rfl (Nat.le_of_ble_eq_true rfl) (Nat.le_of_ble_eq_true rfl) (Nat.le_of_ble_eq_true rfl) (Nat.le_of_ble_eq_true rfl) (Nat.le_of_ble_eq_true rfl) d_PR_decide_104 (fun v h2 hq => ?_) (fun _ _ z => nomatch z.1)
            obtain ⟨e1, e2⟩ := hq; cases e1; replace e2 := e2.symm; subst e2
            show Wk _ _ _ _ _ _ _ _ _ _ _ _ _ _ _ _ _ _ _ [.int (if V 15 (fo_ V c 0 (nu (V 9 0))) &&& 2 = 0 then (0 : Int32) else 1)]
            refine wk_br C d_PR_decide_107 (P := (if V 15 (fo_ V c 0 (nu (V 9 0))) &&& 2 = 0 then (0 : Int32) else 1) = 0) (tgt := 114) (rest := []) rfl (by decide) (fun c7 => ?_) (fun c7 => ?_)
            ·
              refine wk_run C k_PR_decide_114 (pc2 := 115) (lv2 := [(6, .ref (pA (fo_ V c 0 (nu (V 9 0))))), (5, .null), (0, .ref x), (1, .ref (uA u)), (2, .int c), (3, .int a), (4, .int (hr_ t))]) (st2 := [.int 1]) rfl ?_
              have c8 : V 15 (fo_ V c 0 (nu (V 9 0))) &&& 2 = 0 := by clear C; grind
              have ed : dv_ V u c a t = (1, fo_ V c 0 (nu (V 9 0))) := by clear C hPL hM hN hG hU hP hL hus hx hfin hf0; grind [dv_]
              exact wk_iret C ⟨by rw [ed], by rw [ed]; exact hfin _⟩ (by decide) (by decide) d_PR_decide_115
            ·
              refine wk_run C k_PR_decide_110 (pc2 := 111) (lv2 := [(6, .ref (pA (fo_ V c 0 (nu (V 9 0))))), (5, .null), (0, .ref x), (1, .ref (uA u)), (2, .int c), (3, .int a), (4, .int (hr_ t))]) (st2 := [.int 3]) rfl ?_
              refine wk_goto C d_PR_decide_111 (tgt := 115) (by decide) ?_
              have c8 : ¬ V 15 (fo_ V c 0 (nu (V 9 0))) &&& 2 = 0 := by clear C; grind
              have ed : dv_ V u c a t = (3, fo_ V c 0 (nu (V 9 0))) := by clear C hPL hM hN hG hU hP hL hus hx hfin hf0; grind [dv_]
              exact wk_iret C ⟨by rw [ed], by rw [ed]; exact hfin _⟩ (by decide) (by decide) d_PR_decide_115
      ·
        rw [bp_n z3]
        have hqo := (hP (fo_ V c a (nu (V 9 0))) (by omega) h60).1.1
        refine wk_run C k_PR_decide_32 (pc2 := 36) (lv2 := [(5, .ref (pA (fo_ V c a (nu (V 9 0))))), (0, .ref x), (1, .ref (uA u)), (2, .int c), (3, .int a), (4, .int hr)]) (st2 := [.ref (pA (fo_ V c a (nu (V 9 0))))]) rfl ?_
        refine wk_nlR C d_PR_decide_36 ?_
        refine wk_run C k_PR_decide_39 (pc2 := 42) (lv2 := [(5, .ref (pA (fo_ V c a (nu (V 9 0))))), (0, .ref x), (1, .ref (uA u)), (2, .int c), (3, .int a), (4, .int hr)]) (st2 := [.ref (pA (fo_ V c a (nu (V 9 0)))), .ref x]) rfl ?_
        refine wk_get C fd_PR_241 hqo rfl d_PR_decide_42 ?_
        refine wk_put (fs2 := [.ref gl, .ref ul, .ref pl, .ref mo, .ref aq, .ref tr, .int (nI (fo_ V c a (nu (V 9 0))))]) C fd_PR_40 hx rfl rfl (Nat.le_of_ble_eq_true rfl) rfl d_PR_decide_45 ?_
        refine wk_run C k_PR_decide_48 (pc2 := 49) (lv2 := [(5, .ref (pA (fo_ V c a (nu (V 9 0))))), (0, .ref x), (1, .ref (uA u)), (2, .int c), (3, .int a), (4, .int hr)]) (st2 := [.int 1]) rfl ?_
        have ed : dv_ V u c a t = (1, fo_ V c a (nu (V 9 0))) := by clear C hPL hM hN hG hU hP hL hus hx hfin hf0; grind [dv_]
        exact wk_iret C ⟨by rw [ed], by rw [ed]; exact hfin _⟩ (by decide) (by decide) d_PR_decide_49
    ·
      refine wk_run C k_PR_decide_23 (pc2 := 24) (lv2 := [(0, .ref x), (1, .ref (uA u)), (2, .int c), (3, .int a), (4, .int hr)]) (st2 := [.int 1]) rfl ?_
      have ed : dv_ V u c a t = (1, 0) := by clear C hPL hM hN hG hU hP hL hus hx hfin hf0; grind [dv_]
      exact wk_iret C ⟨by rw [ed], by rw [ed]; exact hf0⟩ (by decide) (by decide) d_PR_decide_24
  ·
    refine wk_run C k_PR_decide_12 (pc2 := 13) (lv2 := [(0, .ref x), (1, .ref (uA u)), (2, .int c), (3, .int a), (4, .int hr)]) (st2 := [.int 0]) rfl ?_
    have ed : dv_ V u c a t = (0, 0) := by clear C hPL hM hN hG hU hP hL hus hx hfin hf0; grind [dv_]
    exact wk_iret C ⟨by rw [ed], by rw [ed]; exact hf0⟩ (by decide) (by decide) d_PR_decide_13
