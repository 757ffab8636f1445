theorem nxe_ {a b : Int32} {k m n : Nat} (ha : ok_ a m) (hb : ok_ b n) : nI k * a + b = nI (k * nu a + nu b) := by
  rw [ha.1, hb.1]; unfold nI nu
  rw [← Int32.ofNat_mul, ← Int32.ofNat_add]
  rw [show (Int32.ofNat (Int32.toNatClampNeg a)) = a from ha.1.symm, show (Int32.ofNat (Int32.toNatClampNeg b)) = b from hb.1.symm]
/-- the place of an entry in a list -/
def er_ (p : Nat) (r : Option Nat) : Int32 := match r with
  | some k => nI (10 * p + k)
  | none => -1
noncomputable def fe_ (V : vT) (p : Nat) (x : Int32) : Option Nat := Classical.choose (fs_ex (fun k => V 17 (10 * p + k)) x (nu (V 16 p)))
theorem fe_s (V : vT) (p : Nat) (x : Int32) : fs_ (fun k => V 17 (10 * p + k)) x (nu (V 16 p)) (fe_ V p x) := Classical.choose_spec (fs_ex (fun k => V 17 (10 * p + k)) x (nu (V 16 p)))

theorem k_MD_entry_0 : px_dec prog_9_method_23_code [.iconst 0, .istore_n 3] 0 = true := by decide +kernel
theorem k_MD_entry_2 : px_dec prog_9_method_23_code [.iload_n 3, .aload_n 0] 2 = true := by decide +kernel
theorem d_MD_entry_4 : decode prog_9_method_23_code 4 = .ok (.getfield 47, 3) := by decide +kernel
theorem k_MD_entry_7 : px_dec prog_9_method_23_code [.iload_n 1] 7 = true := by decide +kernel
theorem d_MD_entry_8 : decode prog_9_method_23_code 8 = .ok (.iaload, 1) := by decide +kernel
theorem d_MD_entry_9 : decode prog_9_method_23_code 9 = .ok (.if_icmp .ge 31, 3) := by decide +kernel
theorem k_MD_entry_40 : px_dec prog_9_method_23_code [.iconst (-1)] 40 = true := by decide +kernel
theorem d_MD_entry_41 : decode prog_9_method_23_code 41 = .ok (.ireturn, 1) := by decide +kernel
theorem k_MD_entry_12 : px_dec prog_9_method_23_code [.aload_n 0] 12 = true := by decide +kernel
theorem d_MD_entry_13 : decode prog_9_method_23_code 13 = .ok (.getfield 50, 3) := by decide +kernel
theorem k_MD_entry_16 : px_dec prog_9_method_23_code [.bipush 10, .iload_n 1, .imul, .iload_n 3, .iadd] 16 = true := by decide +kernel
theorem d_MD_entry_22 : decode prog_9_method_23_code 22 = .ok (.iaload, 1) := by decide +kernel
theorem k_MD_entry_23 : px_dec prog_9_method_23_code [.iload_n 2] 23 = true := by decide +kernel
theorem d_MD_entry_24 : decode prog_9_method_23_code 24 = .ok (.if_icmp .ne 10, 3) := by decide +kernel
theorem k_MD_entry_34 : px_dec prog_9_method_23_code [.iinc 3 1] 34 = true := by decide +kernel
theorem d_MD_entry_37 : decode prog_9_method_23_code 37 = .ok (.goto (-35), 3) := by decide +kernel
theorem k_MD_entry_27 : px_dec prog_9_method_23_code [.bipush 10, .iload_n 1, .imul, .iload_n 3, .iadd] 27 = true := by decide +kernel
theorem d_MD_entry_33 : decode prog_9_method_23_code 33 = .ok (.ireturn, 1) := by decide +kernel
set_option maxRecDepth 100000 in
set_option maxHeartbeats 4000000 in
theorem c_MD_entry (l : Launch) (D : va_G) (HB : Heap) (h : hp_T) (h0 : hp_T) (y : Nat) (A : Nat → Nat) (V : vT) (p x : Int32) (r : Option Nat) (hp : ok_ p 60) (hE : ok_ (V 16 (nu p)) 10) (hr : fs_ (fun k => V 17 (10 * nu p + k)) x (nu (V 16 (nu p))) r) (hM : mq D h0 h y A V) : ct_M l y_MD_entry (.code y_MD_entry prog_9_method_23_code 4 (Option.some Jvm.ClassFile.FieldType.int)) ({ frames := 0, cells := 0, slots := 0, locals := 0 }) D HB [.ref y, .int p, .int x] h (fun o h2 => o = .inl (some (.int (er_ (nu p) r))) ∧ h2 = h) := by
  refine ct_of (by decide) (Nat.le_of_ble_eq_true rfl) rfl ?_
  intro p_ e_ s_ m_ r_ b_ t_ c_ C hnm
  refine wk_run C k_MD_entry_0 (pc2 := 2) (lv2 := [(3, .int 0), (0, .ref y), (1, .int p), (2, .int x)]) (st2 := []) rfl ?_
  refine Wk.sub (lv2 := [(0, .ref y), (1, .int p), (2, .int x), (3, .int 0)]) [1, 2, 3, 0] rfl ?_
  have hE2 := hE.2
  refine wk_ind (σ := Nat) (hF := fun _ => h) (lvF := fun i => [(0, .ref y), (1, .int p), (2, .int x), (3, .int (nI i))]) (fun i => nu (V 16 (nu p)) - i) (fun i => i ≤ nu (V 16 (nu p)) ∧ ∀ j, j < i → V 17 (10 * nu p + j) ≠ x) (fun i hi ih => ?_) 0 ⟨Nat.zero_le _, fun j hj => absurd hj (Nat.not_lt_zero j)⟩
  show Wk _ _ _ _ _ _ _ _ _ _ _ _ _ _ _ _ _ _ [(0, .ref y), (1, .int p), (2, .int x), (3, .int (nI i))] _
  have hi1 := hi.1
  refine wk_run C k_MD_entry_2 (pc2 := 4) (lv2 := [(0, .ref y), (1, .int p), (2, .int x), (3, .int (nI i))]) (st2 := [.ref y, .int (nI i)]) rfl ?_
  refine wk_get (v := .ref (A 16)) C fd_MD_47 hM.ob rfl d_MD_entry_4 ?_
  refine wk_run C k_MD_entry_7 (pc2 := 8) (lv2 := [(0, .ref y), (1, .int p), (2, .int x), (3, .int (nI i))]) (st2 := [.int p, .ref (A 16), .int (nI i)]) rfl ?_
  refine wm_ld C hM 16 (j := nu p) rfl (vi_k hp (by decide) (by decide)) rfl d_MD_entry_8 ?_
  show Wk _ _ _ _ _ _ _ _ _ _ _ _ _ _ _ _ _ _ _ (.int (V 16 (nu p)) :: _)
  refine wk_br C d_MD_entry_9 (P := (V 16 (nu p)) ≤ (nI i)) (tgt := 40) (rest := []) rfl (by decide) (fun c1 => ?_) (fun c1 => ?_)
  ·
    refine wk_run C k_MD_entry_40 (pc2 := 41) (lv2 := [(0, .ref y), (1, .int p), (2, .int x), (3, .int (nI i))]) (st2 := [.int (-1)]) rfl ?_
    have hin : nu (V 16 (nu p)) ≤ i := by have := c1; rw [hE.1, nI_leI (by omega) (by omega)] at this; exact this
    have hr0 : r = none := fs_un hr (fun j hj => hi.2 j (by omega))
    subst hr0
    exact wk_iret C ⟨rfl, rfl⟩ (by decide) (by decide) d_MD_entry_41
  ·
    have hin : i < nu (V 16 (nu p)) := by rcases Nat.lt_or_ge i (nu (V 16 (nu p))) with z | z; exact z; exact absurd (by rw [hE.1]; exact nI_le z (by omega)) c1
    refine wk_run C k_MD_entry_12 (pc2 := 13) (lv2 := [(0, .ref y), (1, .int p), (2, .int x), (3, .int (nI i))]) (st2 := [.ref y]) rfl ?_
    refine wk_get (v := .ref (A 17)) C fd_MD_50 hM.ob rfl d_MD_entry_13 ?_
    refine wk_run C k_MD_entry_16 (pc2 := 22) (lv2 := [(0, .ref y), (1, .int p), (2, .int x), (3, .int (nI i))]) (st2 := [.int ((10 * p) + (nI i)), .ref (A 17)]) rfl ?_
    refine wm_ld C hM 17 (j := 10 * nu p + i) rfl (nx_ (k := 10) (m := 60) (n := 9) (N := 610) hp (ok_nI (m := i) (n := 9) (by omega) (by decide)) (by decide) (by decide)).1 ((nx_ (k := 10) (m := 60) (n := 9) (N := 610) hp (ok_nI (m := i) (n := 9) (by omega) (by decide)) (by decide) (by decide)).2.trans (by rw [nu_nI (by omega)])) d_MD_entry_22 ?_
    show Wk _ _ _ _ _ _ _ _ _ _ _ _ _ _ _ _ _ _ _ (.int (V 17 (10 * nu p + i)) :: _)
    refine wk_run C k_MD_entry_23 (pc2 := 24) (lv2 := [(0, .ref y), (1, .int p), (2, .int x), (3, .int (nI i))]) (st2 := [.int x, .int (V 17 (10 * nu p + i))]) rfl ?_
    refine wk_br C d_MD_entry_24 (P := ¬ (V 17 (10 * nu p + i)) = x) (tgt := 34) (rest := []) rfl (by decide) (fun c2 => ?_) (fun c2 => ?_)
    ·
      refine wk_run C k_MD_entry_34 (pc2 := 37) (lv2 := [(3, .int ((nI i) + 1)), (0, .ref y), (1, .int p), (2, .int x)]) (st2 := []) rfl ?_
      refine wk_goto C d_MD_entry_37 (tgt := 2) (by decide) ?_
      refine Wk.sub (lv2 := [(0, .ref y), (1, .int p), (2, .int x), (3, .int ((nI i) + 1))]) [1, 2, 3, 0] rfl ?_
      rw [nI_1]
      exact ih (i + 1) ⟨by omega, fun j hj => by by_cases z : j = i; (subst z; exact c2); exact hi.2 j (by omega)⟩ (by omega)
    ·
      refine wk_run C k_MD_entry_27 (pc2 := 33) (lv2 := [(0, .ref y), (1, .int p), (2, .int x), (3, .int (nI i))]) (st2 := [.int ((10 * p) + (nI i))]) rfl ?_
      have hr0 : r = some i := fs_un hr ⟨hin, Classical.not_not.mp c2, hi.2⟩
      subst hr0
      exact wk_iret C ⟨by rw [show (10 : Int32) * p + nI i = nI (10 * nu p + nu (nI i)) from nxe_ (k := 10) hp (ok_nI (m := i) (n := 9) (by omega) (by decide)), nu_nI (by omega)]; rfl, rfl⟩ (by decide) (by decide) d_MD_entry_33
noncomputable def sp_condition (V : vT) (p x t b : Int32) : rT := if ¬ ((¬ p < 1 ∧ p ≤ V 9 0) ∧ ho_ V x ∧ ¬ t < 0 ∧ t < 100) then (1, 0, vc V 0 1) else match fe_ V (nu p) x with
  | none => (0, 0, vc V 0 0)
  | some k => (0, 1, vs (vs (vc V 0 0) 19 (upd (V 19) (10 * nu p + k) t)) 20 (upd (V 20) (10 * nu p + k) (b &&& 16777215)))

theorem k_MD_condition_0 : px_dec prog_9_method_25_code [.aload_n 0, .aload_n 0, .iload_n 1] 0 = true := by decide +kernel
theorem d_MD_condition_3 : decode prog_9_method_25_code 3 = .ok (.invokevirtual 101, 3) := by decide +kernel
theorem d_MD_condition_6 : decode prog_9_method_25_code 6 = .ok (.ifCond .eq 18, 3) := by decide +kernel
theorem k_MD_condition_24 : px_dec prog_9_method_25_code [.iconst 1] 24 = true := by decide +kernel
theorem d_MD_condition_25 : decode prog_9_method_25_code 25 = .ok (.goto 4, 3) := by decide +kernel
theorem k_MD_condition_29 : px_dec prog_9_method_25_code [.iconst 0] 29 = true := by decide +kernel
theorem d_MD_condition_30 : decode prog_9_method_25_code 30 = .ok (.invokevirtual 88, 3) := by decide +kernel
theorem d_MD_condition_33 : decode prog_9_method_25_code 33 = .ok (.ifCond .eq 5, 3) := by decide +kernel
theorem k_MD_condition_36 : px_dec prog_9_method_25_code [.iconst 0] 36 = true := by decide +kernel
theorem d_MD_condition_37 : decode prog_9_method_25_code 37 = .ok (.ireturn, 1) := by decide +kernel
theorem k_MD_condition_9 : px_dec prog_9_method_25_code [.aload_n 0, .iload_n 2] 9 = true := by decide +kernel
theorem d_MD_condition_11 : decode prog_9_method_25_code 11 = .ok (.invokevirtual 107, 3) := by decide +kernel
theorem d_MD_condition_14 : decode prog_9_method_25_code 14 = .ok (.ifCond .eq 10, 3) := by decide +kernel
theorem k_MD_condition_17 : px_dec prog_9_method_25_code [.iload_n 3] 17 = true := by decide +kernel
theorem d_MD_condition_18 : decode prog_9_method_25_code 18 = .ok (.invokestatic 95, 3) := by decide +kernel
theorem d_MD_condition_21 : decode prog_9_method_25_code 21 = .ok (.ifCond .ne 7, 3) := by decide +kernel
theorem k_MD_condition_28 : px_dec prog_9_method_25_code [.iconst 0, .iconst 0] 28 = true := by decide +kernel
theorem k_MD_condition_38 : px_dec prog_9_method_25_code [.aload_n 0, .iload_n 1, .iload_n 2] 38 = true := by decide +kernel
theorem d_MD_condition_41 : decode prog_9_method_25_code 41 = .ok (.invokevirtual 110, 3) := by decide +kernel
theorem k_MD_condition_44 : px_dec prog_9_method_25_code [.istore 5, .iload 5, .iconst (-1)] 44 = true := by decide +kernel
theorem d_MD_condition_49 : decode prog_9_method_25_code 49 = .ok (.if_icmp .ne 5, 3) := by decide +kernel
theorem k_MD_condition_52 : px_dec prog_9_method_25_code [.iconst 0] 52 = true := by decide +kernel
theorem d_MD_condition_53 : decode prog_9_method_25_code 53 = .ok (.ireturn, 1) := by decide +kernel
set_option maxRecDepth 100000 in
set_option maxHeartbeats 4000000 in
theorem c_MD_conditionN (l : Launch) (D : va_G) (HB : Heap) (h : hp_T) (h0 : hp_T) (y : Nat) (A : Nat → Nat) (V : vT) (p : Int32) (x : Int32) (t : Int32) (b : Int32) (hP : ok_ (V 9 0) 60) (hE : ok_ (V 16 (nu p)) 10) (hf : fe_ V (nu p) x = none) (hM : mq D h0 h y A V) : ct_M l y_MD_condition (.code y_MD_condition prog_9_method_25_code 6 (Option.some Jvm.ClassFile.FieldType.int)) ({ frames := 2, cells := 0, slots := 0, locals := 60 }) D HB [.ref y, .int p, .int x, .int t, .int b] h (fun o h2 => ∃ (cd r : Int32) (V2 : vT), sp_condition V p x t b = (cd, r, V2) ∧ o = .inl (some (.int r)) ∧ mq D h0 h2 y A V2) := by
  refine ct_of (by decide) (Nat.le_of_ble_eq_true rfl) rfl ?_
  intro p_ e_ s_ m_ r_ b_ t_ c_ C hnm
  refine wk_run C k_MD_condition_0 (pc2 := 3) (lv2 := [(0, .ref y), (1, .int p), (2, .int x), (3, .int t), (4, .int b)]) (st2 := [.int p, .ref y, .ref y]) rfl ?_
  refine wk_callV (cl := ("ProfileRightsModel", T_MD, 27)) (rest := [.ref y]) C (c_MD_isProfile l D HB h h0 y A (V) p hM) cs_MD_101 kc_MD_isProfile ki_MD hM.ob rfl rfl rfl (Nat.le_of_ble_eq_true rfl) (Nat.le_of_ble_eq_true rfl) (Nat.le_of_ble_eq_true rfl) (Nat.le_of_ble_eq_true rfl) (Nat.le_of_ble_eq_true rfl) d_MD_condition_3 (fun v h2 hq => ?_) (fun _ _ z => nomatch z.1)
  obtain ⟨e1, e2⟩ := hq; cases e1; replace e2 := e2.symm; subst e2
  show Wk _ _ _ _ _ _ _ _ _ _ _ _ _ _ _ _ _ _ _ (.int (if ¬ p < 1 ∧ p ≤ V 9 0 then (1 : Int32) else 0) :: _)
  refine wk_br C d_MD_condition_6 (P := (if ¬ p < 1 ∧ p ≤ V 9 0 then (1 : Int32) else 0) = 0) (tgt := 24) (rest := [.ref y]) rfl (by decide) (fun c1 => ?_) (fun c1 => ?_)
  ·
    replace c1 := bz_ c1
    refine wk_run C k_MD_condition_24 (pc2 := 25) (lv2 := [(0, .ref y), (1, .int p), (2, .int x), (3, .int t), (4, .int b)]) (st2 := [.int 1, .ref y]) rfl ?_
    refine wk_goto C d_MD_condition_25 (tgt := 29) (by decide) ?_
    refine wk_run C k_MD_condition_29 (pc2 := 30) (lv2 := [(0, .ref y), (1, .int p), (2, .int x), (3, .int t), (4, .int b)]) (st2 := [.int 0, .int 1, .ref y]) rfl ?_
    refine wk_callV (cl := ("ProfileRightsModel", T_MD, 27)) (rest := []) C (c_MD_f1 l D HB h h0 y A (V) hM) cs_MD_88 kc_MD_fails ki_MD hM.ob rfl rfl rfl (Nat.le_of_ble_eq_true rfl) (Nat.le_of_ble_eq_true rfl) (Nat.le_of_ble_eq_true rfl) (Nat.le_of_ble_eq_true rfl) (Nat.le_of_ble_eq_true rfl) d_MD_condition_30 (fun v h hq => ?_) (fun _ _ z => nomatch z.1)
    obtain ⟨e1, hM⟩ := hq; cases e1
    refine wk_br C d_MD_condition_33 (P := 1 = 0) (tgt := 38) (rest := []) rfl (by decide) (fun c2 => ?_) (fun c2 => ?_)
    ·
      exact absurd c2 (by decide)
    ·
      refine wk_run C k_MD_condition_36 (pc2 := 37) (lv2 := [(0, .ref y), (1, .int p), (2, .int x), (3, .int t), (4, .int b)]) (st2 := [.int 0]) rfl ?_
      exact wk_iret C ⟨1, 0, vc (V) 0 1, by clear C hM hnm; grind [sp_condition], rfl, hM⟩ (by decide) (by decide) d_MD_condition_37
  ·
    replace c1 := bn_ c1
    refine wk_run C k_MD_condition_9 (pc2 := 11) (lv2 := [(0, .ref y), (1, .int p), (2, .int x), (3, .int t), (4, .int b)]) (st2 := [.int x, .ref y, .ref y]) rfl ?_
    refine wk_callV (cl := ("ProfileRightsModel", T_MD, 27)) (rest := [.ref y]) C (c_MD_isWho l D HB h h0 y A (V) x hM) cs_MD_107 kc_MD_isWho ki_MD hM.ob rfl rfl rfl (Nat.le_of_ble_eq_true rfl) (Nat.le_of_ble_eq_true rfl) (Nat.le_of_ble_eq_true rfl) (Nat.le_of_ble_eq_true rfl) (Nat.le_of_ble_eq_true rfl) d_MD_condition_11 (fun v h2 hq => ?_) (fun _ _ z => nomatch z.1)
    obtain ⟨e1, e2⟩ := hq; cases e1; replace e2 := e2.symm; subst e2
    show Wk _ _ _ _ _ _ _ _ _ _ _ _ _ _ _ _ _ _ _ (.int (if ho_ (V) x then (1 : Int32) else 0) :: _)
    refine wk_br C d_MD_condition_14 (P := (if ho_ (V) x then (1 : Int32) else 0) = 0) (tgt := 24) (rest := [.ref y]) rfl (by decide) (fun c3 => ?_) (fun c3 => ?_)
    ·
      replace c3 := bz_ c3
      refine wk_run C k_MD_condition_24 (pc2 := 25) (lv2 := [(0, .ref y), (1, .int p), (2, .int x), (3, .int t), (4, .int b)]) (st2 := [.int 1, .ref y]) rfl ?_
      refine wk_goto C d_MD_condition_25 (tgt := 29) (by decide) ?_
      refine wk_run C k_MD_condition_29 (pc2 := 30) (lv2 := [(0, .ref y), (1, .int p), (2, .int x), (3, .int t), (4, .int b)]) (st2 := [.int 0, .int 1, .ref y]) rfl ?_
      refine wk_callV (cl := ("ProfileRightsModel", T_MD, 27)) (rest := []) C (c_MD_f1 l D HB h h0 y A (V) hM) cs_MD_88 kc_MD_fails ki_MD hM.ob rfl rfl rfl (Nat.le_of_ble_eq_true rfl) (Nat.le_of_ble_eq_true rfl) (Nat.le_of_ble_eq_true rfl) (Nat.le_of_ble_eq_true rfl) (Nat.le_of_ble_eq_true rfl) d_MD_condition_30 (fun v h hq => ?_) (fun _ _ z => nomatch z.1)
      obtain ⟨e1, hM⟩ := hq; cases e1
      refine wk_br C d_MD_condition_33 (P := 1 = 0) (tgt := 38) (rest := []) rfl (by decide) (fun c4 => ?_) (fun c4 => ?_)
      ·
        exact absurd c4 (by decide)
      ·
        refine wk_run C k_MD_condition_36 (pc2 := 37) (lv2 := [(0, .ref y), (1, .int p), (2, .int x), (3, .int t), (4, .int b)]) (st2 := [.int 0]) rfl ?_
        exact wk_iret C ⟨1, 0, vc (V) 0 1, by clear C hM hnm; grind [sp_condition], rfl, hM⟩ (by decide) (by decide) d_MD_condition_37
    ·
      replace c3 := bn_ c3
      refine wk_run C k_MD_condition_17 (pc2 := 18) (lv2 := [(0, .ref y), (1, .int p), (2, .int x), (3, .int t), (4, .int b)]) (st2 := [.int t, .ref y]) rfl ?_
      refine wk_callS (rest := [.ref y]) C (c_MD_isTerminal l D HB h t) cs_MD_95 kc_MD_isTerminal ki_MD rfl rfl (Nat.le_of_ble_eq_true rfl) (Nat.le_of_ble_eq_true rfl) (Nat.le_of_ble_eq_true rfl) (Nat.le_of_ble_eq_true rfl) (Nat.le_of_ble_eq_true rfl) d_MD_condition_18 (fun v h2 hq => ?_) (fun _ _ z => nomatch z.1)
      obtain ⟨e1, e2⟩ := hq; cases e1; replace e2 := e2.symm; subst e2
      refine wk_br C d_MD_condition_21 (P := ¬ (if ¬ t < 0 ∧ t < 100 then (1 : Int32) else 0) = 0) (tgt := 28) (rest := [.ref y]) rfl (by decide) (fun c5 => ?_) (fun c5 => ?_)
      ·
        replace c5 := bn_ c5
        refine wk_run C k_MD_condition_28 (pc2 := 30) (lv2 := [(0, .ref y), (1, .int p), (2, .int x), (3, .int t), (4, .int b)]) (st2 := [.int 0, .int 0, .ref y]) rfl ?_
        refine wk_callV (cl := ("ProfileRightsModel", T_MD, 27)) (rest := []) C (c_MD_f0 l D HB h h0 y A (V) hM) cs_MD_88 kc_MD_fails ki_MD hM.ob rfl rfl rfl (Nat.le_of_ble_eq_true rfl) (Nat.le_of_ble_eq_true rfl) (Nat.le_of_ble_eq_true rfl) (Nat.le_of_ble_eq_true rfl) (Nat.le_of_ble_eq_true rfl) d_MD_condition_30 (fun v h hq => ?_) (fun _ _ z => nomatch z.1)
        obtain ⟨e1, hM⟩ := hq; cases e1
        refine wk_br C d_MD_condition_33 (P := 0 = 0) (tgt := 38) (rest := []) rfl (by decide) (fun c6 => ?_) (fun c6 => ?_)
        ·
          refine wk_run C k_MD_condition_38 (pc2 := 41) (lv2 := [(0, .ref y), (1, .int p), (2, .int x), (3, .int t), (4, .int b)]) (st2 := [.int x, .int p, .ref y]) rfl ?_
          refine wk_callV (cl := ("ProfileRightsModel", T_MD, 27)) (rest := []) C (c_MD_entry l D HB h h0 y A (vc (V) 0 0) p x none (ok_r c1.1 c1.2 hP (by decide)) hE (hf ▸ fe_s V (nu p) x) hM) cs_MD_110 kc_MD_entry ki_MD hM.ob rfl rfl rfl (Nat.le_of_ble_eq_true rfl) (Nat.le_of_ble_eq_true rfl) (Nat.le_of_ble_eq_true rfl) (Nat.le_of_ble_eq_true rfl) (Nat.le_of_ble_eq_true rfl) d_MD_condition_41 (fun v h2 hq => ?_) (fun _ _ z => nomatch z.1)
          obtain ⟨e1, e2⟩ := hq; cases e1; replace e2 := e2.symm; subst e2
          show Wk _ _ _ _ _ _ _ _ _ _ _ _ _ _ _ _ _ _ _ (.int (-1) :: _)
          refine wk_run C k_MD_condition_44 (pc2 := 49) (lv2 := [(5, .int (-1)), (0, .ref y), (1, .int p), (2, .int x), (3, .int t), (4, .int b)]) (st2 := [.int (-1), .int (-1)]) rfl ?_
          refine wk_br C d_MD_condition_49 (P := ¬ (-1) = (-1)) (tgt := 54) (rest := []) rfl (by decide) (fun c7 => ?_) (fun c7 => ?_)
          ·
            exact absurd c7 (by decide)
          ·
            refine wk_run C k_MD_condition_52 (pc2 := 53) (lv2 := [(5, .int (-1)), (0, .ref y), (1, .int p), (2, .int x), (3, .int t), (4, .int b)]) (st2 := [.int 0]) rfl ?_
            exact wk_iret C ⟨0, 0, vc (V) 0 0, by clear C hM hnm; grind [sp_condition], rfl, hM⟩ (by decide) (by decide) d_MD_condition_53
        ·
          exact absurd (by decide) c6
      ·
        replace c5 := bz_ (Classical.not_not.mp c5)
        refine wk_run C k_MD_condition_24 (pc2 := 25) (lv2 := [(0, .ref y), (1, .int p), (2, .int x), (3, .int t), (4, .int b)]) (st2 := [.int 1, .ref y]) rfl ?_
        refine wk_goto C d_MD_condition_25 (tgt := 29) (by decide) ?_
        refine wk_run C k_MD_condition_29 (pc2 := 30) (lv2 := [(0, .ref y), (1, .int p), (2, .int x), (3, .int t), (4, .int b)]) (st2 := [.int 0, .int 1, .ref y]) rfl ?_
        refine wk_callV (cl := ("ProfileRightsModel", T_MD, 27)) (rest := []) C (c_MD_f1 l D HB h h0 y A (V) hM) cs_MD_88 kc_MD_fails ki_MD hM.ob rfl rfl rfl (Nat.le_of_ble_eq_true rfl) (Nat.le_of_ble_eq_true rfl) (Nat.le_of_ble_eq_true rfl) (Nat.le_of_ble_eq_true rfl) (Nat.le_of_ble_eq_true rfl) d_MD_condition_30 (fun v h hq => ?_) (fun _ _ z => nomatch z.1)
        obtain ⟨e1, hM⟩ := hq; cases e1
        refine wk_br C d_MD_condition_33 (P := 1 = 0) (tgt := 38) (rest := []) rfl (by decide) (fun c8 => ?_) (fun c8 => ?_)
        ·
          exact absurd c8 (by decide)
        ·
          refine wk_run C k_MD_condition_36 (pc2 := 37) (lv2 := [(0, .ref y), (1, .int p), (2, .int x), (3, .int t), (4, .int b)]) (st2 := [.int 0]) rfl ?_
          exact wk_iret C ⟨1, 0, vc (V) 0 1, by clear C hM hnm; grind [sp_condition], rfl, hM⟩ (by decide) (by decide) d_MD_condition_37
theorem k_MD_condition_54 : px_dec prog_9_method_25_code [.aload_n 0] 54 = true := by decide +kernel
theorem d_MD_condition_55 : decode prog_9_method_25_code 55 = .ok (.getfield 56, 3) := by decide +kernel
theorem k_MD_condition_58 : px_dec prog_9_method_25_code [.iload 5, .iload_n 3] 58 = true := by decide +kernel
theorem d_MD_condition_61 : decode prog_9_method_25_code 61 = .ok (.iastore, 1) := by decide +kernel
theorem k_MD_condition_62 : px_dec prog_9_method_25_code [.aload_n 0] 62 = true := by decide +kernel
theorem d_MD_condition_63 : decode prog_9_method_25_code 63 = .ok (.getfield 59, 3) := by decide +kernel
theorem k_MD_condition_66 : px_dec prog_9_method_25_code [.iload 5, .iload 4] 66 = true := by decide +kernel
theorem d_MD_condition_70 : decode prog_9_method_25_code 70 = .ok (.ldc 114, 2) := by decide +kernel
theorem k_MD_condition_72 : px_dec prog_9_method_25_code [.iand] 72 = true := by decide +kernel
theorem d_MD_condition_73 : decode prog_9_method_25_code 73 = .ok (.iastore, 1) := by decide +kernel
theorem k_MD_condition_74 : px_dec prog_9_method_25_code [.iconst 1] 74 = true := by decide +kernel
theorem d_MD_condition_75 : decode prog_9_method_25_code 75 = .ok (.ireturn, 1) := by decide +kernel
set_option maxRecDepth 100000 in
set_option maxHeartbeats 4000000 in
theorem c_MD_conditionS (l : Launch) (D : va_G) (HB : Heap) (h : hp_T) (h0 : hp_T) (y : Nat) (A : Nat → Nat) (V : vT) (p : Int32) (x : Int32) (t : Int32) (b : Int32) (hP : ok_ (V 9 0) 60) (hE : ok_ (V 16 (nu p)) 10) (k : Nat) (hf : fe_ V (nu p) x = some k) (hM : mq D h0 h y A V) : ct_M l y_MD_condition (.code y_MD_condition prog_9_method_25_code 6 (Option.some Jvm.ClassFile.FieldType.int)) ({ frames := 2, cells := 0, slots := 0, locals := 60 }) D HB [.ref y, .int p, .int x, .int t, .int b] h (fun o h2 => ∃ (cd r : Int32) (V2 : vT), sp_condition V p x t b = (cd, r, V2) ∧ o = .inl (some (.int r)) ∧ mq D h0 h2 y A V2) := by
  refine ct_of (by decide) (Nat.le_of_ble_eq_true rfl) rfl ?_
  intro p_ e_ s_ m_ r_ b_ t_ c_ C hnm
  refine wk_run C k_MD_condition_0 (pc2 := 3) (lv2 := [(0, .ref y), (1, .int p), (2, .int x), (3, .int t), (4, .int b)]) (st2 := [.int p, .ref y, .ref y]) rfl ?_
  refine wk_callV (cl := ("ProfileRightsModel", T_MD, 27)) (rest := [.ref y]) C (c_MD_isProfile l D HB h h0 y A (V) p hM) cs_MD_101 kc_MD_isProfile ki_MD hM.ob rfl rfl rfl (Nat.le_of_ble_eq_true rfl) (Nat.le_of_ble_eq_true rfl) (Nat.le_of_ble_eq_true rfl) (Nat.le_of_ble_eq_true rfl) (Nat.le_of_ble_eq_true rfl) d_MD_condition_3 (fun v h2 hq => ?_) (fun _ _ z => nomatch z.1)
  obtain ⟨e1, e2⟩ := hq; cases e1; replace e2 := e2.symm; subst e2
  show Wk _ _ _ _ _ _ _ _ _ _ _ _ _ _ _ _ _ _ _ (.int (if ¬ p < 1 ∧ p ≤ V 9 0 then (1 : Int32) else 0) :: _)
  refine wk_br C d_MD_condition_6 (P := (if ¬ p < 1 ∧ p ≤ V 9 0 then (1 : Int32) else 0) = 0) (tgt := 24) (rest := [.ref y]) rfl (by decide) (fun c1 => ?_) (fun c1 => ?_)
  ·
    replace c1 := bz_ c1
    refine wk_run C k_MD_condition_24 (pc2 := 25) (lv2 := [(0, .ref y), (1, .int p), (2, .int x), (3, .int t), (4, .int b)]) (st2 := [.int 1, .ref y]) rfl ?_
    refine wk_goto C d_MD_condition_25 (tgt := 29) (by decide) ?_
    refine wk_run C k_MD_condition_29 (pc2 := 30) (lv2 := [(0, .ref y), (1, .int p), (2, .int x), (3, .int t), (4, .int b)]) (st2 := [.int 0, .int 1, .ref y]) rfl ?_
    refine wk_callV (cl := ("ProfileRightsModel", T_MD, 27)) (rest := []) C (c_MD_f1 l D HB h h0 y A (V) hM) cs_MD_88 kc_MD_fails ki_MD hM.ob rfl rfl rfl (Nat.le_of_ble_eq_true rfl) (Nat.le_of_ble_eq_true rfl) (Nat.le_of_ble_eq_true rfl) (Nat.le_of_ble_eq_true rfl) (Nat.le_of_ble_eq_true rfl) d_MD_condition_30 (fun v h hq => ?_) (fun _ _ z => nomatch z.1)
    obtain ⟨e1, hM⟩ := hq; cases e1
    refine wk_br C d_MD_condition_33 (P := 1 = 0) (tgt := 38) (rest := []) rfl (by decide) (fun c2 => ?_) (fun c2 => ?_)
    ·
      exact absurd c2 (by decide)
    ·
      refine wk_run C k_MD_condition_36 (pc2 := 37) (lv2 := [(0, .ref y), (1, .int p), (2, .int x), (3, .int t), (4, .int b)]) (st2 := [.int 0]) rfl ?_
      exact wk_iret C ⟨1, 0, vc (V) 0 1, by clear C hM hnm; grind [sp_condition], rfl, hM⟩ (by decide) (by decide) d_MD_condition_37
  ·
    replace c1 := bn_ c1
    refine wk_run C k_MD_condition_9 (pc2 := 11) (lv2 := [(0, .ref y), (1, .int p), (2, .int x), (3, .int t), (4, .int b)]) (st2 := [.int x, .ref y, .ref y]) rfl ?_
    refine wk_callV (cl := ("ProfileRightsModel", T_MD, 27)) (rest := [.ref y]) C (c_MD_isWho l D HB h h0 y A (V) x hM) cs_MD_107 kc_MD_isWho ki_MD hM.ob rfl rfl rfl (Nat.le_of_ble_eq_true rfl) (Nat.le_of_ble_eq_true rfl) (Nat.le_of_ble_eq_true rfl) (Nat.le_of_ble_eq_true rfl) (Nat.le_of_ble_eq_true rfl) d_MD_condition_11 (fun v h2 hq => ?_) (fun _ _ z => nomatch z.1)
    obtain ⟨e1, e2⟩ := hq; cases e1; replace e2 := e2.symm; subst e2
    show Wk _ _ _ _ _ _ _ _ _ _ _ _ _ _ _ _ _ _ _ (.int (if ho_ (V) x then (1 : Int32) else 0) :: _)
    refine wk_br C d_MD_condition_14 (P := (if ho_ (V) x then (1 : Int32) else 0) = 0) (tgt := 24) (rest := [.ref y]) rfl (by decide) (fun c3 => ?_) (fun c3 => ?_)
    ·
      replace c3 := bz_ c3
      refine wk_run C k_MD_condition_24 (pc2 := 25) (lv2 := [(0, .ref y), (1, .int p), (2, .int x), (3, .int t), (4, .int b)]) (st2 := [.int 1, .ref y]) rfl ?_
      refine wk_goto C d_MD_condition_25 (tgt := 29) (by decide) ?_
      refine wk_run C k_MD_condition_29 (pc2 := 30) (lv2 := [(0, .ref y), (1, .int p), (2, .int x), (3, .int t), (4, .int b)]) (st2 := [.int 0, .int 1, .ref y]) rfl ?_
      refine wk_callV (cl := ("ProfileRightsModel", T_MD, 27)) (rest := []) C (c_MD_f1 l D HB h h0 y A (V) hM) cs_MD_88 kc_MD_fails ki_MD hM.ob rfl rfl rfl (Nat.le_of_ble_eq_true rfl) (Nat.le_of_ble_eq_true rfl) (Nat.le_of_ble_eq_true rfl) (Nat.le_of_ble_eq_true rfl) (Nat.le_of_ble_eq_true rfl) d_MD_condition_30 (fun v h hq => ?_) (fun _ _ z => nomatch z.1)
      obtain ⟨e1, hM⟩ := hq; cases e1
      refine wk_br C d_MD_condition_33 (P := 1 = 0) (tgt := 38) (rest := []) rfl (by decide) (fun c4 => ?_) (fun c4 => ?_)
      ·
        exact absurd c4 (by decide)
      ·
        refine wk_run C k_MD_condition_36 (pc2 := 37) (lv2 := [(0, .ref y), (1, .int p), (2, .int x), (3, .int t), (4, .int b)]) (st2 := [.int 0]) rfl ?_
        exact wk_iret C ⟨1, 0, vc (V) 0 1, by clear C hM hnm; grind [sp_condition], rfl, hM⟩ (by decide) (by decide) d_MD_condition_37
    ·
      replace c3 := bn_ c3
      refine wk_run C k_MD_condition_17 (pc2 := 18) (lv2 := [(0, .ref y), (1, .int p), (2, .int x), (3, .int t), (4, .int b)]) (st2 := [.int t, .ref y]) rfl ?_
      refine wk_callS (rest := [.ref y]) C (c_MD_isTerminal l D HB h t) cs_MD_95 kc_MD_isTerminal ki_MD rfl rfl (Nat.le_of_ble_eq_true rfl) (Nat.le_of_ble_eq_true rfl) (Nat.le_of_ble_eq_true rfl) (Nat.le_of_ble_eq_true rfl) (Nat.le_of_ble_eq_true rfl) d_MD_condition_18 (fun v h2 hq => ?_) (fun _ _ z => nomatch z.1)
      obtain ⟨e1, e2⟩ := hq; cases e1; replace e2 := e2.symm; subst e2
      refine wk_br C d_MD_condition_21 (P := ¬ (if ¬ t < 0 ∧ t < 100 then (1 : Int32) else 0) = 0) (tgt := 28) (rest := [.ref y]) rfl (by decide) (fun c5 => ?_) (fun c5 => ?_)
      ·
        replace c5 := bn_ c5
        refine wk_run C k_MD_condition_28 (pc2 := 30) (lv2 := [(0, .ref y), (1, .int p), (2, .int x), (3, .int t), (4, .int b)]) (st2 := [.int 0, .int 0, .ref y]) rfl ?_
        refine wk_callV (cl := ("ProfileRightsModel", T_MD, 27)) (rest := []) C (c_MD_f0 l D HB h h0 y A (V) hM) cs_MD_88 kc_MD_fails ki_MD hM.ob rfl rfl rfl (Nat.le_of_ble_eq_true rfl) (Nat.le_of_ble_eq_true rfl) (Nat.le_of_ble_eq_true rfl) (Nat.le_of_ble_eq_true rfl) (Nat.le_of_ble_eq_true rfl) d_MD_condition_30 (fun v h hq => ?_) (fun _ _ z => nomatch z.1)
        obtain ⟨e1, hM⟩ := hq; cases e1
        refine wk_br C d_MD_condition_33 (P := 0 = 0) (tgt := 38) (rest := []) rfl (by decide) (fun c6 => ?_) (fun c6 => ?_)
        ·
          refine wk_run C k_MD_condition_38 (pc2 := 41) (lv2 := [(0, .ref y), (1, .int p), (2, .int x), (3, .int t), (4, .int b)]) (st2 := [.int x, .int p, .ref y]) rfl ?_
          refine wk_callV (cl := ("ProfileRightsModel", T_MD, 27)) (rest := []) C (c_MD_entry l D HB h h0 y A (vc (V) 0 0) p x (some k) (ok_r c1.1 c1.2 hP (by decide)) hE (hf ▸ fe_s V (nu p) x) hM) cs_MD_110 kc_MD_entry ki_MD hM.ob rfl rfl rfl (Nat.le_of_ble_eq_true rfl) (Nat.le_of_ble_eq_true rfl) (Nat.le_of_ble_eq_true rfl) (Nat.le_of_ble_eq_true rfl) (Nat.le_of_ble_eq_true rfl) d_MD_condition_41 (fun v h2 hq => ?_) (fun _ _ z => nomatch z.1)
          obtain ⟨e1, e2⟩ := hq; cases e1; replace e2 := e2.symm; subst e2
          show Wk _ _ _ _ _ _ _ _ _ _ _ _ _ _ _ _ _ _ _ (.int (nI (10 * nu p + k)) :: _)
          have hk : k < 10 := Nat.lt_of_lt_of_le (show k < nu (V 16 (nu p)) from (hf ▸ fe_s V (nu p) x : fs_ _ x _ (some k)).1) hE.2
          have hp6 : nu p ≤ 60 := (ok_r c1.1 c1.2 hP (by decide)).2
          have hkn : ¬ nI (10 * nu p + k) = -1 := nI_nm (by omega)
          refine wk_run C k_MD_condition_44 (pc2 := 49) (lv2 := [(5, .int (nI (10 * nu p + k))), (0, .ref y), (1, .int p), (2, .int x), (3, .int t), (4, .int b)]) (st2 := [.int (-1), .int (nI (10 * nu p + k))]) rfl ?_
          refine wk_br C d_MD_condition_49 (P := ¬ (nI (10 * nu p + k)) = (-1)) (tgt := 54) (rest := []) rfl (by decide) (fun c7 => ?_) (fun c7 => ?_)
          ·
            refine wk_run C k_MD_condition_54 (pc2 := 55) (lv2 := [(5, .int (nI (10 * nu p + k))), (0, .ref y), (1, .int p), (2, .int x), (3, .int t), (4, .int b)]) (st2 := [.ref y]) rfl ?_
            refine wk_get (v := .ref (A 19)) C fd_MD_56 hM.ob rfl d_MD_condition_55 ?_
            refine wk_run C k_MD_condition_58 (pc2 := 61) (lv2 := [(5, .int (nI (10 * nu p + k))), (0, .ref y), (1, .int p), (2, .int x), (3, .int t), (4, .int b)]) (st2 := [.int t, .int (nI (10 * nu p + k)), .ref (A 19)]) rfl ?_
            refine wm_st C hM 19 (j := (10 * nu p + k)) rfl (vi_k (ok_nI (m := 10 * nu p + k) (n := 609) (by omega) (by decide)) (by decide) (by decide)) (nu_nI (by omega)) d_MD_condition_61 (fun h (hM : mq D h0 h y A (vs (vc (V) 0 0) 19 (upd (V 19) (10 * nu p + k) t))) => ?_)
            refine wk_run C k_MD_condition_62 (pc2 := 63) (lv2 := [(5, .int (nI (10 * nu p + k))), (0, .ref y), (1, .int p), (2, .int x), (3, .int t), (4, .int b)]) (st2 := [.ref y]) rfl ?_
            refine wk_get (v := .ref (A 20)) C fd_MD_59 hM.ob rfl d_MD_condition_63 ?_
            refine wk_run C k_MD_condition_66 (pc2 := 70) (lv2 := [(5, .int (nI (10 * nu p + k))), (0, .ref y), (1, .int p), (2, .int x), (3, .int t), (4, .int b)]) (st2 := [.int b, .int (nI (10 * nu p + k)), .ref (A 20)]) rfl ?_
            refine wk_ldc C kk_MD_114 d_MD_condition_70 ?_
            refine wk_run C k_MD_condition_72 (pc2 := 73) (lv2 := [(5, .int (nI (10 * nu p + k))), (0, .ref y), (1, .int p), (2, .int x), (3, .int t), (4, .int b)]) (st2 := [.int (b &&& 16777215), .int (nI (10 * nu p + k)), .ref (A 20)]) rfl ?_
            refine wm_st C hM 20 (j := (10 * nu p + k)) rfl (vi_k (ok_nI (m := 10 * nu p + k) (n := 609) (by omega) (by decide)) (by decide) (by decide)) (nu_nI (by omega)) d_MD_condition_73 (fun h (hM : mq D h0 h y A (vs (vs (vc (V) 0 0) 19 (upd (V 19) (10 * nu p + k) t)) 20 (upd (V 20) (10 * nu p + k) (b &&& 16777215)))) => ?_)
            refine wk_run C k_MD_condition_74 (pc2 := 75) (lv2 := [(5, .int (nI (10 * nu p + k))), (0, .ref y), (1, .int p), (2, .int x), (3, .int t), (4, .int b)]) (st2 := [.int 1]) rfl ?_
            exact wk_iret C ⟨0, 1, vs (vs (vc (V) 0 0) 19 (upd (V 19) (10 * nu p + k) t)) 20 (upd (V 20) (10 * nu p + k) (b &&& 16777215)), by clear C hM hnm; grind [sp_condition], rfl, hM⟩ (by decide) (by decide) d_MD_condition_75
          ·
            refine wk_run C k_MD_condition_52 (pc2 := 53) (lv2 := [(5, .int (nI (10 * nu p + k))), (0, .ref y), (1, .int p), (2, .int x), (3, .int t), (4, .int b)]) (st2 := [.int 0]) rfl ?_
            exact wk_iret C ⟨0, 0, vc (V) 0 0, by clear C hM hnm; grind [sp_condition], rfl, hM⟩ (by decide) (by decide) d_MD_condition_53
        ·
          exact absurd (by decide) c6
      ·
        replace c5 := bz_ (Classical.not_not.mp c5)
        refine wk_run C k_MD_condition_24 (pc2 := 25) (lv2 := [(0, .ref y), (1, .int p), (2, .int x), (3, .int t), (4, .int b)]) (st2 := [.int 1, .ref y]) rfl ?_
        refine wk_goto C d_MD_condition_25 (tgt := 29) (by decide) ?_
        refine wk_run C k_MD_condition_29 (pc2 := 30) (lv2 := [(0, .ref y), (1, .int p), (2, .int x), (3, .int t), (4, .int b)]) (st2 := [.int 0, .int 1, .ref y]) rfl ?_
        refine wk_callV (cl := ("ProfileRightsModel", T_MD, 27)) (rest := []) C (c_MD_f1 l D HB h h0 y A (V) hM) cs_MD_88 kc_MD_fails ki_MD hM.ob rfl rfl rfl (Nat.le_of_ble_eq_true rfl) (Nat.le_of_ble_eq_true rfl) (Nat.le_of_ble_eq_true rfl) (Nat.le_of_ble_eq_true rfl) (Nat.le_of_ble_eq_true rfl) d_MD_condition_30 (fun v h hq => ?_) (fun _ _ z => nomatch z.1)
        obtain ⟨e1, hM⟩ := hq; cases e1
        refine wk_br C d_MD_condition_33 (P := 1 = 0) (tgt := 38) (rest := []) rfl (by decide) (fun c8 => ?_) (fun c8 => ?_)
        ·
          exact absurd c8 (by decide)
        ·
          refine wk_run C k_MD_condition_36 (pc2 := 37) (lv2 := [(0, .ref y), (1, .int p), (2, .int x), (3, .int t), (4, .int b)]) (st2 := [.int 0]) rfl ?_
          exact wk_iret C ⟨1, 0, vc (V) 0 1, by clear C hM hnm; grind [sp_condition], rfl, hM⟩ (by decide) (by decide) d_MD_condition_37
