theorem og_lt {V : vT} {p u k : Nat} {t : Int64} {x : Int32} (h : og_ V p u t x = some k) : k < nu (V 16 p) := by
  have f := fe_s V p x
  cases e : fe_ V p x with
  | none => rw [og_n e] at h; cases h
  | some j =>
    rw [e] at f
    by_cases z : io_ V (10 * p + j) u t
    · rw [og_s e z] at h; cases h; exact f.1
    · rw [og_c e z] at h; cases h
theorem k_PF_levelOf_0 : px_dec prog_5_method_7_code [.aload_n 0, .aload_n 1] 0 = true := by decide +kernel
theorem d_PF_levelOf_2 : decode prog_5_method_7_code 2 = .ok (.getfield 58, 3) := by decide +kernel
theorem k_PF_levelOf_5 : px_dec prog_5_method_7_code [.aload_n 1, .iload_n 2] 5 = true := by decide +kernel
theorem d_PF_levelOf_7 : decode prog_5_method_7_code 7 = .ok (.invokevirtual 61, 3) := by decide +kernel
theorem k_PF_levelOf_10 : px_dec prog_5_method_7_code [.astore_n 3, .aload_n 1] 10 = true := by decide +kernel
theorem d_PF_levelOf_12 : decode prog_5_method_7_code 12 = .ok (.getfield 65, 3) := by decide +kernel
theorem k_PF_levelOf_15 : px_dec prog_5_method_7_code [.astore 4] 15 = true := by decide +kernel
theorem k_PF_levelOf_17 : px_dec prog_5_method_7_code [.aload 4] 17 = true := by decide +kernel
theorem d_PF_levelOf_19 : decode prog_5_method_7_code 19 = .ok (.ifnull 30, 3) := by decide +kernel
theorem k_PF_levelOf_22 : px_dec prog_5_method_7_code [.aload_n 3] 22 = true := by decide +kernel
theorem d_PF_levelOf_23 : decode prog_5_method_7_code 23 = .ok (.ifnonnull 26, 3) := by decide +kernel
theorem k_PF_levelOf_49 : px_dec prog_5_method_7_code [.aload_n 3] 49 = true := by decide +kernel
theorem d_PF_levelOf_50 : decode prog_5_method_7_code 50 = .ok (.ifnonnull 10, 3) := by decide +kernel
theorem k_PF_levelOf_60 : px_dec prog_5_method_7_code [.aload_n 3] 60 = true := by decide +kernel
theorem d_PF_levelOf_61 : decode prog_5_method_7_code 61 = .ok (.getfield 75, 3) := by decide +kernel
theorem d_PF_levelOf_64 : decode prog_5_method_7_code 64 = .ok (.ireturn, 1) := by decide +kernel
theorem k_PF_levelOf_53 : px_dec prog_5_method_7_code [.aload_n 0] 53 = true := by decide +kernel
theorem d_PF_levelOf_54 : decode prog_5_method_7_code 54 = .ok (.getfield 32, 3) := by decide +kernel
theorem d_PF_levelOf_57 : decode prog_5_method_7_code 57 = .ok (.goto 7, 3) := by decide +kernel
theorem k_PF_levelOf_26 : px_dec prog_5_method_7_code [.aload_n 0, .aload 4] 26 = true := by decide +kernel
theorem d_PF_levelOf_29 : decode prog_5_method_7_code 29 = .ok (.getfield 69, 3) := by decide +kernel
theorem k_PF_levelOf_32 : px_dec prog_5_method_7_code [.ineg] 32 = true := by decide +kernel
theorem k_PF_levelOf_33 : px_dec prog_5_method_7_code [.aload_n 1, .iload_n 2] 33 = true := by decide +kernel
theorem d_PF_levelOf_35 : decode prog_5_method_7_code 35 = .ok (.invokevirtual 61, 3) := by decide +kernel
theorem k_PF_levelOf_38 : px_dec prog_5_method_7_code [.astore_n 3, .aload 4] 38 = true := by decide +kernel
theorem d_PF_levelOf_41 : decode prog_5_method_7_code 41 = .ok (.getfield 72, 3) := by decide +kernel
theorem k_PF_levelOf_44 : px_dec prog_5_method_7_code [.astore 4] 44 = true := by decide +kernel
theorem d_PF_levelOf_46 : decode prog_5_method_7_code 46 = .ok (.goto (-29), 3) := by decide +kernel
set_option maxRecDepth 100000 in
set_option maxHeartbeats 4000000 in
theorem c_PF_levelOf (l : Launch) (D : va_G) (HB : Heap) (h : hp_T) (own : oT) (V : vT) (n p k a pn pe u : Nat) (eA : Nat → Nat) (gA : Nat → Nat) (sf : Int64) (t : Int64) (hQ : cQ D h own p a pn pe eA V) (hu : h u = some (.inr (2, [.int (nI k), .ref (gA (nu (V 2 k))), .int (V 3 k), .int (V 4 k), .int (V 5 k), .long sf]))) (hG : cG h own n gA V) (hn : n ≤ 20) (hA : ∀ j, 1 ≤ j → j ≤ n → ok_ (V 1 j) n) (hg : ok_ (V 2 k) n) (hg1 : 1 ≤ nu (V 2 k)) (hC : ∃ m, cn_ V m (nu (V 2 k)) = 0) (hE : nu (V 16 p) ≤ 10) : ct_M l y_PF_levelOf (.code y_PF_levelOf prog_5_method_7_code 5 (Option.some Jvm.ClassFile.FieldType.int)) ({ frames := 5, cells := 0, slots := 0, locals := 112 }) D HB [.ref a, .ref u, .int (hr_ t)] h (fun o h2 => o = .inl (some (.int (ll_ V p k t))) ∧ h2 = h) := by
  refine ct_of (by decide) (Nat.le_of_ble_eq_true rfl) rfl ?_
  intro p_ e_ s_ m_ r_ b_ t_ c_ C hnm
  obtain ⟨⟨ha, -⟩, -, ⟨b, hL, -⟩, hEn, -, -⟩ := hQ
  obtain ⟨hr, ehr⟩ : ∃ hr : Int32, hr = hr_ t := ⟨_, rfl⟩
  rw [← ehr]
  have hop : ∀ x : Int32, ct_M l y_PF_openEntryOf (.code y_PF_openEntryOf prog_5_method_8_code 5 (Option.some (Jvm.ClassFile.FieldType.object "ProfileRights$Entry"))) ({ frames := 4, cells := 0, slots := 0, locals := 86 }) D HB [.ref a, .int x, .ref u, .int hr] h (fun o h2 => o = .inl (some (va_rf ((og_ V p k t x).map eA))) ∧ h2 = h) := fun x => by
    have z := c_PF_openEntryOf l D HB h a pn pe b (nu (V 16 p)) (nI p) (V 11 p) (V 14 p) (V 15 p) eA (fun j => V 17 (10 * p + j)) (fun j => V 18 (10 * p + j)) (fun j => V 19 (10 * p + j)) (fun j => V 20 (10 * p + j)) ha hL hEn hE u (gA (nu (V 2 k))) (nI k) (V 3 k) (V 4 k) (V 5 k) sf hu x hr (fe_ V p x) (fe_s V p x)
    rw [ehr, oe_og] at z
    rw [ehr]; exact z
  cases hog : og_ V p k t (nI k) with
  | some j =>
    have hj : h (eA j) = some (.inr (4, [.int (V 17 (10 * p + j)), .int (V 18 (10 * p + j)), .int (V 19 (10 * p + j)), .int (V 20 (10 * p + j))])) := hEn j (og_lt hog)
    refine wk_run C k_PF_levelOf_0 (pc2 := 2) (lv2 := [(0, .ref a), (1, .ref u), (2, .int hr)]) (st2 := [.ref u, .ref a]) rfl ?_
    refine wk_get C fd_PF_58 hu rfl d_PF_levelOf_2 ?_
    refine wk_run C k_PF_levelOf_5 (pc2 := 7) (lv2 := [(0, .ref a), (1, .ref u), (2, .int hr)]) (st2 := [.int hr, .ref u, .int (nI k), .ref a]) rfl ?_
    refine wk_callV (cl := ("ProfileRights$Profile", T_PF, 6)) (rest := []) C (hop (nI k)) cs_PF_61 kc_PF_openEntryOf ki_PF ha rfl rfl rfl (Nat.le_of_ble_eq_true rfl) (Nat.le_of_ble_eq_true rfl) (Nat.le_of_ble_eq_true rfl) (Nat.le_of_ble_eq_true rfl) (Nat.le_of_ble_eq_true rfl) d_PF_levelOf_7 (fun v h2 hq => ?_) (fun _ _ z => nomatch z.1)
    obtain ⟨e1, e2⟩ := hq; cases e1; replace e2 := e2.symm; subst e2
    rw [hog]
    show Wk _ _ _ _ _ _ _ _ _ _ _ _ _ _ _ _ _ _ _ [.ref (eA j)]
    refine wk_run C k_PF_levelOf_10 (pc2 := 12) (lv2 := [(3, .ref (eA j)), (0, .ref a), (1, .ref u), (2, .int hr)]) (st2 := [.ref u]) rfl ?_
    refine wk_get C fd_PF_65 hu rfl d_PF_levelOf_12 ?_
    refine wk_run C k_PF_levelOf_15 (pc2 := 17) (lv2 := [(4, .ref (gA (nu (V 2 k)))), (3, .ref (eA j)), (0, .ref a), (1, .ref u), (2, .int hr)]) (st2 := []) rfl ?_
    refine wk_run C k_PF_levelOf_17 (pc2 := 19) (lv2 := [(4, .ref (gA (nu (V 2 k)))), (3, .ref (eA j)), (0, .ref a), (1, .ref u), (2, .int hr)]) (st2 := [.ref (gA (nu (V 2 k)))]) rfl ?_
    refine wk_nlR C d_PF_levelOf_19 ?_
    refine wk_run C k_PF_levelOf_22 (pc2 := 23) (lv2 := [(4, .ref (gA (nu (V 2 k)))), (3, .ref (eA j)), (0, .ref a), (1, .ref u), (2, .int hr)]) (st2 := [.ref (eA j)]) rfl ?_
    refine wk_nnR C d_PF_levelOf_23 (tgt := 49) (by decide) ?_
    refine wk_run C k_PF_levelOf_49 (pc2 := 50) (lv2 := [(4, .ref (gA (nu (V 2 k)))), (3, .ref (eA j)), (0, .ref a), (1, .ref u), (2, .int hr)]) (st2 := [.ref (eA j)]) rfl ?_
    refine wk_nnR C d_PF_levelOf_50 (tgt := 60) (by decide) ?_
    refine wk_run C k_PF_levelOf_60 (pc2 := 61) (lv2 := [(4, .ref (gA (nu (V 2 k)))), (3, .ref (eA j)), (0, .ref a), (1, .ref u), (2, .int hr)]) (st2 := [.ref (eA j)]) rfl ?_
    refine wk_get C fd_PF_75 hj rfl d_PF_levelOf_61 ?_
    exact wk_iret C ⟨by rw [ll_s hog], rfl⟩ (by decide) (by decide) d_PF_levelOf_64
  | none =>
    refine wk_run C k_PF_levelOf_0 (pc2 := 2) (lv2 := [(0, .ref a), (1, .ref u), (2, .int hr)]) (st2 := [.ref u, .ref a]) rfl ?_
    refine wk_get C fd_PF_58 hu rfl d_PF_levelOf_2 ?_
    refine wk_run C k_PF_levelOf_5 (pc2 := 7) (lv2 := [(0, .ref a), (1, .ref u), (2, .int hr)]) (st2 := [.int hr, .ref u, .int (nI k), .ref a]) rfl ?_
    refine wk_callV (cl := ("ProfileRights$Profile", T_PF, 6)) (rest := []) C (hop (nI k)) cs_PF_61 kc_PF_openEntryOf ki_PF ha rfl rfl rfl (Nat.le_of_ble_eq_true rfl) (Nat.le_of_ble_eq_true rfl) (Nat.le_of_ble_eq_true rfl) (Nat.le_of_ble_eq_true rfl) (Nat.le_of_ble_eq_true rfl) d_PF_levelOf_7 (fun v h2 hq => ?_) (fun _ _ z => nomatch z.1)
    obtain ⟨e1, e2⟩ := hq; cases e1; replace e2 := e2.symm; subst e2
    rw [hog, ll_n hog]
    show Wk _ _ _ _ _ _ _ _ _ _ _ _ _ _ _ _ _ _ _ [.null]
    refine wk_run C k_PF_levelOf_10 (pc2 := 12) (lv2 := [(3, .null), (0, .ref a), (1, .ref u), (2, .int hr)]) (st2 := [.ref u]) rfl ?_
    refine wk_get C fd_PF_65 hu rfl d_PF_levelOf_12 ?_
    refine wk_run C k_PF_levelOf_15 (pc2 := 17) (lv2 := [(4, .ref (gA (nu (V 2 k)))), (3, .null), (0, .ref a), (1, .ref u), (2, .int hr)]) (st2 := []) rfl ?_
    have h20 : ¬ V 2 k = 0 := fun z => by rw [z] at hg1; exact absurd hg1 (by decide)
    refine Wk.sub (lv2 := [(0, .ref a), (1, .ref u), (2, .int hr), (3, .null), (4, .ref (gA (nu (V 2 k))))]) [2, 3, 4, 1, 0] rfl ?_
    clear hog
    refine wk_join (α := Nat × Int32) (hF := fun _ => h) (lvF := fun b => [(0, .ref a), (1, .ref u), (2, .int hr), (3, .null), (4, pv_ gA b.2)]) (stF := fun _ => []) (pc2 := 17) (fun b => ok_ b.2 n ∧ cn_ V b.1 (nu b.2) = 0 ∧ lv_ V p k t b.1 b.2 = lv_ V p k t (dp_ V (nu (V 2 k))) (V 2 k)) (wk_ind (σ := Nat × Int32) (hF := fun _ => h) (lvF := fun b => [(0, .ref a), (1, .ref u), (2, .int hr), (3, .null), (4, pv_ gA b.2)]) (fun b => b.1) (fun b => ok_ b.2 n ∧ cn_ V b.1 (nu b.2) = 0 ∧ lv_ V p k t b.1 b.2 = lv_ V p k t (dp_ V (nu (V 2 k))) (V 2 k)) (fun b hb ih => ?_)) (fun J => ?_)
    ·
      obtain ⟨m, b⟩ := b
      obtain ⟨hb, hc, hv⟩ := hb
      replace hb : ok_ b n := hb
      replace hc : cn_ V m (nu b) = 0 := hc
      replace hv : lv_ V p k t m b = lv_ V p k t (dp_ V (nu (V 2 k))) (V 2 k) := hv
      show Wk _ _ _ _ _ _ _ _ _ _ _ _ _ _ _ _ _ _ [(0, .ref a), (1, .ref u), (2, .int hr), (3, .null), (4, pv_ gA b)] _
      by_cases hb0 : b = 0
      ·
        rw [pv_0 hb0]
        refine wk_run C k_PF_levelOf_17 (pc2 := 19) (lv2 := [(0, .ref a), (1, .ref u), (2, .int hr), (3, .null), (4, .null)]) (st2 := [.null]) rfl ?_
        refine wk_nlN C d_PF_levelOf_19 (tgt := 49) (by decide) ?_
        refine wk_run C k_PF_levelOf_49 (pc2 := 50) (lv2 := [(0, .ref a), (1, .ref u), (2, .int hr), (3, .null), (4, .null)]) (st2 := [.null]) rfl ?_
        refine wk_nnN C d_PF_levelOf_50 ?_
        refine wk_run C k_PF_levelOf_53 (pc2 := 54) (lv2 := [(0, .ref a), (1, .ref u), (2, .int hr), (3, .null), (4, .null)]) (st2 := [.ref a]) rfl ?_
        refine wk_get C fd_PF_32 ha rfl d_PF_levelOf_54 ?_
        refine wk_goto C d_PF_levelOf_57 (tgt := 64) (by decide) ?_
        exact wk_iret C ⟨by rw [← hv, hb0, lv_z], rfl⟩ (by decide) (by decide) d_PF_levelOf_64
      ·
        rw [pv_n hb0]
        have hbn := ok_z hb hb0
        have hob := (hG (nu b) (by omega) hb.2).1
        cases m with
        | zero => exact absurd hc hbn
        | succ m =>
          refine wk_run C k_PF_levelOf_17 (pc2 := 19) (lv2 := [(0, .ref a), (1, .ref u), (2, .int hr), (3, .null), (4, .ref (gA (nu b)))]) (st2 := [.ref (gA (nu b))]) rfl ?_
          refine wk_nlR C d_PF_levelOf_19 ?_
          refine wk_run C k_PF_levelOf_22 (pc2 := 23) (lv2 := [(0, .ref a), (1, .ref u), (2, .int hr), (3, .null), (4, .ref (gA (nu b)))]) (st2 := [.null]) rfl ?_
          refine wk_nnN C d_PF_levelOf_23 ?_
          refine wk_run C k_PF_levelOf_26 (pc2 := 29) (lv2 := [(0, .ref a), (1, .ref u), (2, .int hr), (3, .null), (4, .ref (gA (nu b)))]) (st2 := [.ref (gA (nu b)), .ref a]) rfl ?_
          refine wk_get C fd_PF_69 hob rfl d_PF_levelOf_29 ?_
          refine wk_run C k_PF_levelOf_32 (pc2 := 33) (lv2 := [(0, .ref a), (1, .ref u), (2, .int hr), (3, .null), (4, .ref (gA (nu b)))]) (st2 := [.int (-(nI (nu b))), .ref a]) rfl ?_
          rw [← hb.1, neg_0]
          refine wk_run C k_PF_levelOf_33 (pc2 := 35) (lv2 := [(0, .ref a), (1, .ref u), (2, .int hr), (3, .null), (4, .ref (gA (nu b)))]) (st2 := [.int hr, .ref u, .int (0 - b), .ref a]) rfl ?_
          refine wk_callV (cl := ("ProfileRights$Profile", T_PF, 6)) (rest := []) C (hop (0 - b)) cs_PF_61 kc_PF_openEntryOf ki_PF ha rfl rfl rfl (Nat.le_of_ble_eq_true rfl) (Nat.le_of_ble_eq_true rfl) (Nat.le_of_ble_eq_true rfl) (Nat.le_of_ble_eq_true rfl) (Nat.le_of_ble_eq_true rfl) d_PF_levelOf_35 (fun v h2 hq => ?_) (fun _ _ z => nomatch z.1)
          obtain ⟨e1, e2⟩ := hq; cases e1; replace e2 := e2.symm; subst e2
          cases hog : og_ V p k t (0 - b) with
          | none =>
            show Wk _ _ _ _ _ _ _ _ _ _ _ _ _ _ _ _ _ _ _ [.null]
            refine wk_run C k_PF_levelOf_38 (pc2 := 41) (lv2 := [(3, .null), (0, .ref a), (1, .ref u), (2, .int hr), (4, .ref (gA (nu b)))]) (st2 := [.ref (gA (nu b))]) rfl ?_
            refine wk_get C fd_PF_72 hob rfl d_PF_levelOf_41 ?_
            have J2 := ih (m, V 1 (nu b)) ⟨hA (nu b) (by omega) hb.2, by rw [cn_s hbn] at hc; exact hc, by rw [← lv_n hb0 hog]; exact hv⟩ (Nat.lt_succ_self m)
            by_cases hz : V 1 (nu b) = 0
            ·
              rw [pv_0 hz]
              refine wk_run C k_PF_levelOf_44 (pc2 := 46) (lv2 := [(4, .null), (3, .null), (0, .ref a), (1, .ref u), (2, .int hr)]) (st2 := []) rfl ?_
              refine wk_goto C d_PF_levelOf_46 (tgt := 17) (by decide) ?_
              simp only [pv_0 hz] at J2
              refine Wk.sub (lv2 := [(0, .ref a), (1, .ref u), (2, .int hr), (3, .null), (4, .null)]) [2, 3, 4, 1, 0] rfl ?_
              exact J2
            ·
              rw [pv_n hz]
              refine wk_run C k_PF_levelOf_44 (pc2 := 46) (lv2 := [(4, .ref (gA (nu (V 1 (nu b))))), (3, .null), (0, .ref a), (1, .ref u), (2, .int hr)]) (st2 := []) rfl ?_
              refine wk_goto C d_PF_levelOf_46 (tgt := 17) (by decide) ?_
              simp only [pv_n hz] at J2
              refine Wk.sub (lv2 := [(0, .ref a), (1, .ref u), (2, .int hr), (3, .null), (4, .ref (gA (nu (V 1 (nu b)))))]) [2, 3, 4, 1, 0] rfl ?_
              exact J2
          | some j =>
            show Wk _ _ _ _ _ _ _ _ _ _ _ _ _ _ _ _ _ _ _ [.ref (eA j)]
            have hj : h (eA j) = some (.inr (4, [.int (V 17 (10 * p + j)), .int (V 18 (10 * p + j)), .int (V 19 (10 * p + j)), .int (V 20 (10 * p + j))])) := hEn j (og_lt hog)
            refine wk_run C k_PF_levelOf_38 (pc2 := 41) (lv2 := [(3, .ref (eA j)), (0, .ref a), (1, .ref u), (2, .int hr), (4, .ref (gA (nu b)))]) (st2 := [.ref (gA (nu b))]) rfl ?_
            refine wk_get C fd_PF_72 hob rfl d_PF_levelOf_41 ?_
            by_cases hz : V 1 (nu b) = 0
            ·
              rw [pv_0 hz]
              refine wk_run C k_PF_levelOf_44 (pc2 := 46) (lv2 := [(4, .null), (3, .ref (eA j)), (0, .ref a), (1, .ref u), (2, .int hr)]) (st2 := []) rfl ?_
              refine wk_goto C d_PF_levelOf_46 (tgt := 17) (by decide) ?_
              refine wk_run C k_PF_levelOf_17 (pc2 := 19) (lv2 := [(4, .null), (3, .ref (eA j)), (0, .ref a), (1, .ref u), (2, .int hr)]) (st2 := [.null]) rfl ?_
              refine wk_nlN C d_PF_levelOf_19 (tgt := 49) (by decide) ?_
              refine wk_run C k_PF_levelOf_49 (pc2 := 50) (lv2 := [(4, .null), (3, .ref (eA j)), (0, .ref a), (1, .ref u), (2, .int hr)]) (st2 := [.ref (eA j)]) rfl ?_
              refine wk_nnR C d_PF_levelOf_50 (tgt := 60) (by decide) ?_
              refine wk_run C k_PF_levelOf_60 (pc2 := 61) (lv2 := [(4, .null), (3, .ref (eA j)), (0, .ref a), (1, .ref u), (2, .int hr)]) (st2 := [.ref (eA j)]) rfl ?_
              refine wk_get C fd_PF_75 hj rfl d_PF_levelOf_61 ?_
              exact wk_iret C ⟨by rw [← hv, lv_s hb0 hog], rfl⟩ (by decide) (by decide) d_PF_levelOf_64
            ·
              rw [pv_n hz]
              refine wk_run C k_PF_levelOf_44 (pc2 := 46) (lv2 := [(4, .ref (gA (nu (V 1 (nu b))))), (3, .ref (eA j)), (0, .ref a), (1, .ref u), (2, .int hr)]) (st2 := []) rfl ?_
              refine wk_goto C d_PF_levelOf_46 (tgt := 17) (by decide) ?_
              refine wk_run C k_PF_levelOf_17 (pc2 := 19) (lv2 := [(4, .ref (gA (nu (V 1 (nu b))))), (3, .ref (eA j)), (0, .ref a), (1, .ref u), (2, .int hr)]) (st2 := [.ref (gA (nu (V 1 (nu b))))]) rfl ?_
              refine wk_nlR C d_PF_levelOf_19 ?_
              refine wk_run C k_PF_levelOf_22 (pc2 := 23) (lv2 := [(4, .ref (gA (nu (V 1 (nu b))))), (3, .ref (eA j)), (0, .ref a), (1, .ref u), (2, .int hr)]) (st2 := [.ref (eA j)]) rfl ?_
              refine wk_nnR C d_PF_levelOf_23 (tgt := 49) (by decide) ?_
              refine wk_run C k_PF_levelOf_49 (pc2 := 50) (lv2 := [(4, .ref (gA (nu (V 1 (nu b))))), (3, .ref (eA j)), (0, .ref a), (1, .ref u), (2, .int hr)]) (st2 := [.ref (eA j)]) rfl ?_
              refine wk_nnR C d_PF_levelOf_50 (tgt := 60) (by decide) ?_
              refine wk_run C k_PF_levelOf_60 (pc2 := 61) (lv2 := [(4, .ref (gA (nu (V 1 (nu b))))), (3, .ref (eA j)), (0, .ref a), (1, .ref u), (2, .int hr)]) (st2 := [.ref (eA j)]) rfl ?_
              refine wk_get C fd_PF_75 hj rfl d_PF_levelOf_61 ?_
              exact wk_iret C ⟨by rw [← hv, lv_s hb0 hog], rfl⟩ (by decide) (by decide) d_PF_levelOf_64
    ·
      have J2 := J (dp_ V (nu (V 2 k)), V 2 k) ⟨hg, dp_s hC, rfl⟩
      simp only [pv_n h20] at J2
      exact J2
