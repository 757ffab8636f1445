/-- x is the number k, one of 1 .. n -/
def nb_ (x : Int32) (n k : Nat) : Prop := 1 ≤ k ∧ k ≤ n ∧ x = nI k
theorem nb_cases (x : Int32) {n : Nat} (hn : n ≤ 1000) : (∃ k, nb_ x n k) ∨ (x < 1 ∨ ¬ x ≤ nI n) := by
  by_cases h1 : x < 1
  · exact Or.inr (Or.inl h1)
  · by_cases h2 : x ≤ nI n
    · have h0 : ¬ x < 0 := fun z => h1 (by rw [Int32.lt_iff_toInt_lt] at z ⊢; have e0 : (0 : Int32).toInt = 0 := by decide
                                           have e1 : (1 : Int32).toInt = 1 := by decide
                                           rw [e0] at z; rw [e1]; omega)
      obtain ⟨k, hk, rfl⟩ := nI_of h0
      refine Or.inl ⟨k, ?_, (nI_leI hk (by omega)).mp h2, rfl⟩
      rcases Nat.eq_zero_or_pos k with z | z
      · subst z; exact absurd (by decide) h1
      · exact z
    · exact Or.inr (Or.inr h2)
theorem nb_lo {x : Int32} {n k : Nat} (h : nb_ x n k) (hn : n ≤ 1000) : ¬ x < 1 := by
  rw [h.2.2]; exact fun z => absurd z (show ¬ nI k < nI 1 from nI_nlt h.1 (by have := h.2.1; omega))
theorem nb_hi {x : Int32} {n k : Nat} (h : nb_ x n k) (hn : n ≤ 1000) : x ≤ nI n := by
  rw [h.2.2]; exact nI_le h.2.1 (by omega)
/-- the first of n places that holds x -/
def fs_ (wh : Nat → Int32) (x : Int32) (n : Nat) (r : Option Nat) : Prop := match r with
  | some k => k < n ∧ wh k = x ∧ ∀ j, j < k → wh j ≠ x
  | none => ∀ j, j < n → wh j ≠ x
theorem fs_ex (wh : Nat → Int32) (x : Int32) (n : Nat) : ∃ r, fs_ wh x n r := by
  induction n with
  | zero => exact ⟨none, fun j hj => absurd hj (Nat.not_lt_zero j)⟩
  | succ n ih =>
    obtain ⟨r, hr⟩ := ih
    cases r with
    | some k => exact ⟨some k, Nat.lt_succ_of_lt hr.1, hr.2⟩
    | none =>
      by_cases h : wh n = x
      · exact ⟨some n, Nat.lt_succ_self n, h, hr⟩
      · refine ⟨none, fun j hj => ?_⟩
        by_cases z : j = n
        · subst z; exact h
        · exact hr j (by omega)
theorem fs_un {wh : Nat → Int32} {x : Int32} {n : Nat} {r r2 : Option Nat} (h : fs_ wh x n r) (h2 : fs_ wh x n r2) : r = r2 := by
  cases r with
  | none => cases r2 with
    | none => rfl
    | some k => exact absurd h2.2.1 (h k h2.1)
  | some j => cases r2 with
    | none => exact absurd h.2.1 (h2 j h.1)
    | some k =>
      rcases Nat.lt_trichotomy j k with z | z | z
      · exact absurd h.2.1 (h2.2.2 j z)
      · rw [z]
      · exact absurd h2.2.1 (h.2.2 k z)
/-- the entries of a list -/
def en_ok (h : hp_T) (n : Nat) (eA : Nat → Nat) (wh gr pl ho : Nat → Int32) : Prop := ∀ k, k < n → h (eA k) = some (.inr (4, [.int (wh k), .int (gr k), .int (pl k), .int (ho k)]))
/-- an entry is open: for a user at the terminal tm, at the hour hr -/
def op_ (pl ho : Nat → Int32) (tm hr : Int32) (k : Nat) : Prop := (pl k = 0 ∨ pl k = tm) ∧ ¬ (ho k >>> (hr &&& 31)) &&& 1 = 0
noncomputable def oe_ (pl ho : Nat → Int32) (tm hr : Int32) (r : Option Nat) : Option Nat := match r with
  | some k => @ite _ (op_ pl ho tm hr k) (Classical.propDecidable _) (some k) none
  | none => none
theorem kx_ob {a : Nat} {fs : List Value} {h : hp_T} (k : Nat) (hk : k = 1 ∨ k = 2 ∨ k = 4 ∨ k = 5) (ha : h a = some (.inr (k, fs))) : ob_ok h a := by
  rcases hk with rfl | rfl | rfl | rfl
  · exact ⟨_, _, _, ha, rfl, kx_GR_OJ⟩
  · exact ⟨_, _, _, ha, rfl, kx_US_OJ⟩
  · exact ⟨_, _, _, ha, rfl, kx_EN_OJ⟩
  · exact ⟨_, _, _, ha, rfl, kx_PF_OJ⟩

theorem k_PF_entryOf_0 : px_dec prog_5_method_5_code [.iconst 0, .istore_n 2] 0 = true := by decide +kernel
theorem k_PF_entryOf_2 : px_dec prog_5_method_5_code [.iload_n 2, .aload_n 0] 2 = true := by decide +kernel
theorem d_PF_entryOf_4 : decode prog_5_method_5_code 4 = .ok (.getfield 28, 3) := by decide +kernel
theorem d_PF_entryOf_7 : decode prog_5_method_5_code 7 = .ok (.invokevirtual 42, 3) := by decide +kernel
theorem d_PF_entryOf_10 : decode prog_5_method_5_code 10 = .ok (.if_icmp .ge 39, 3) := by decide +kernel
theorem k_PF_entryOf_49 : px_dec prog_5_method_5_code [.aconst_null] 49 = true := by decide +kernel
theorem d_PF_entryOf_50 : decode prog_5_method_5_code 50 = .ok (.areturn, 1) := by decide +kernel
theorem k_PF_entryOf_13 : px_dec prog_5_method_5_code [.aload_n 0] 13 = true := by decide +kernel
theorem d_PF_entryOf_14 : decode prog_5_method_5_code 14 = .ok (.getfield 28, 3) := by decide +kernel
theorem k_PF_entryOf_17 : px_dec prog_5_method_5_code [.iload_n 2] 17 = true := by decide +kernel
theorem d_PF_entryOf_18 : decode prog_5_method_5_code 18 = .ok (.invokevirtual 46, 3) := by decide +kernel
theorem d_PF_entryOf_21 : decode prog_5_method_5_code 21 = .ok (.checkcast 50, 3) := by decide +kernel
theorem d_PF_entryOf_24 : decode prog_5_method_5_code 24 = .ok (.getfield 52, 3) := by decide +kernel
theorem k_PF_entryOf_27 : px_dec prog_5_method_5_code [.iload_n 1] 27 = true := by decide +kernel
theorem d_PF_entryOf_28 : decode prog_5_method_5_code 28 = .ok (.if_icmp .ne 15, 3) := by decide +kernel
theorem k_PF_entryOf_43 : px_dec prog_5_method_5_code [.iinc 2 1] 43 = true := by decide +kernel
theorem d_PF_entryOf_46 : decode prog_5_method_5_code 46 = .ok (.goto (-44), 3) := by decide +kernel
theorem k_PF_entryOf_31 : px_dec prog_5_method_5_code [.aload_n 0] 31 = true := by decide +kernel
theorem d_PF_entryOf_32 : decode prog_5_method_5_code 32 = .ok (.getfield 28, 3) := by decide +kernel
theorem k_PF_entryOf_35 : px_dec prog_5_method_5_code [.iload_n 2] 35 = true := by decide +kernel
theorem d_PF_entryOf_36 : decode prog_5_method_5_code 36 = .ok (.invokevirtual 46, 3) := by decide +kernel
theorem d_PF_entryOf_39 : decode prog_5_method_5_code 39 = .ok (.checkcast 50, 3) := by decide +kernel
theorem d_PF_entryOf_42 : decode prog_5_method_5_code 42 = .ok (.areturn, 1) := by decide +kernel
set_option maxRecDepth 100000 in
set_option maxHeartbeats 4000000 in
theorem c_PF_entryOf (l : Launch) (D : va_G) (HB : Heap) (h : hp_T) (a pn pl b n : Nat) (n0 n1 ul mk : Int32) (eA : Nat → Nat) (wh gr pc ho : Nat → Int32) (ha : h a = some (.inr (5, [.int n0, .int n1, .ref pn, .ref pl, .int ul, .int mk]))) (hL : al_ok D h pl b n eA) (hE : en_ok h n eA wh gr pc ho) (hn : n ≤ 10) (x : Int32) (r : Option Nat) (hr : fs_ wh x n r) : ct_M l y_PF_entryOf (.code y_PF_entryOf prog_5_method_5_code 3 (Option.some (Jvm.ClassFile.FieldType.object "ProfileRights$Entry"))) ({ frames := 3, cells := 0, slots := 0, locals := 64 }) D HB [.ref a, .int x] h (fun o h2 => o = .inl (some (va_rf (r.map eA))) ∧ h2 = h) := by
  refine ct_of (by decide) (Nat.le_of_ble_eq_true rfl) rfl ?_
  intro p_ e_ s_ m_ r_ b_ t_ c_ C hnm
  obtain ⟨md, hl, -⟩ := id hL
  refine wk_run C k_PF_entryOf_0 (pc2 := 2) (lv2 := [(2, .int 0), (0, .ref a), (1, .int x)]) (st2 := []) rfl ?_
  refine Wk.sub (lv2 := [(0, .ref a), (1, .int x), (2, .int 0)]) [1, 2, 0] rfl ?_
  refine wk_ind (σ := Nat) (hF := fun _ => h) (lvF := fun i => [(0, .ref a), (1, .int x), (2, .int (nI i))]) (fun i => n - i) (fun i => i ≤ n ∧ ∀ j, j < i → wh j ≠ x) (fun i hi ih => ?_) 0 ⟨Nat.zero_le n, fun j hj => absurd hj (Nat.not_lt_zero j)⟩
  show Wk _ _ _ _ _ _ _ _ _ _ _ _ _ _ _ _ _ _ [(0, .ref a), (1, .int x), (2, .int (nI i))] _
  refine wk_run C k_PF_entryOf_2 (pc2 := 4) (lv2 := [(0, .ref a), (1, .int x), (2, .int (nI i))]) (st2 := [.ref a, .int (nI i)]) rfl ?_
  refine wk_get C fd_PF_28 ha rfl d_PF_entryOf_4 ?_
  refine wk_callV (cl := ("java/util/ArrayList", T_AL, 3)) (rest := [.int (nI i)]) C (al_size l HB hL) cs_PF_42 kc_AL_size ki_AL hl rfl rfl rfl (Nat.le_of_ble_eq_true rfl) (Nat.le_of_ble_eq_true rfl) (Nat.le_of_ble_eq_true rfl) (Nat.le_of_ble_eq_true rfl) (Nat.le_of_ble_eq_true rfl) d_PF_entryOf_7 (fun v h2 hq => ?_) (fun _ _ z => nomatch z.1)
  obtain ⟨e1, e2⟩ := hq; cases e1; replace e2 := e2.symm; subst e2
  refine wk_br C d_PF_entryOf_10 (P := (nI n) ≤ (nI i)) (tgt := 49) (rest := []) rfl (by decide) (fun c1 => ?_) (fun c1 => ?_)
  ·
    have hin : n ≤ i := (nI_leI (by omega) (by omega)).mp c1
    have hr0 : r = none := fs_un hr (fun j hj => hi.2 j (by omega))
    subst hr0
    refine wk_run C k_PF_entryOf_49 (pc2 := 50) (lv2 := [(0, .ref a), (1, .int x), (2, .int (nI i))]) (st2 := [.null]) rfl ?_
    exact wk_aret C rfl (Or.inl ⟨_, rfl⟩) (Or.inl rfl) ⟨rfl, rfl⟩ (by decide) (by decide) d_PF_entryOf_50
  ·
    have hin : i < n := by rcases Nat.lt_or_ge i n with z | z; exact z; exact absurd (nI_le z (by omega)) c1
    refine wk_run C k_PF_entryOf_13 (pc2 := 14) (lv2 := [(0, .ref a), (1, .int x), (2, .int (nI i))]) (st2 := [.ref a]) rfl ?_
    refine wk_get C fd_PF_28 ha rfl d_PF_entryOf_14 ?_
    refine wk_run C k_PF_entryOf_17 (pc2 := 18) (lv2 := [(0, .ref a), (1, .int x), (2, .int (nI i))]) (st2 := [.int (nI i), .ref pl]) rfl ?_
    refine wk_callV (cl := ("java/util/ArrayList", T_AL, 3)) (rest := []) C (al_get (j := i) l HB hL hin) cs_PF_46 kc_AL_get ki_AL hl rfl rfl rfl (Nat.le_of_ble_eq_true rfl) (Nat.le_of_ble_eq_true rfl) (Nat.le_of_ble_eq_true rfl) (Nat.le_of_ble_eq_true rfl) (Nat.le_of_ble_eq_true rfl) d_PF_entryOf_18 (fun v h2 hq => ?_) (fun _ _ z => nomatch z.1)
    obtain ⟨e1, e2⟩ := hq; cases e1; replace e2 := e2.symm; subst e2
    refine wk_cast C (hE i hin) rfl cl_PF_50 d_PF_entryOf_21 ?_
    refine wk_get C fd_PF_52 (hE i hin) rfl d_PF_entryOf_24 ?_
    refine wk_run C k_PF_entryOf_27 (pc2 := 28) (lv2 := [(0, .ref a), (1, .int x), (2, .int (nI i))]) (st2 := [.int x, .int (wh i)]) rfl ?_
    refine wk_br C d_PF_entryOf_28 (P := ¬ (wh i) = x) (tgt := 43) (rest := []) rfl (by decide) (fun c2 => ?_) (fun c2 => ?_)
    ·
      refine wk_run C k_PF_entryOf_43 (pc2 := 46) (lv2 := [(2, .int ((nI i) + 1)), (0, .ref a), (1, .int x)]) (st2 := []) rfl ?_
      refine wk_goto C d_PF_entryOf_46 (tgt := 2) (by decide) ?_
      refine Wk.sub (lv2 := [(0, .ref a), (1, .int x), (2, .int ((nI i) + 1))]) [1, 2, 0] rfl ?_
      rw [nI_1]
      exact ih (i + 1) ⟨by omega, fun j hj => by by_cases z : j = i; (subst z; exact c2); exact hi.2 j (by omega)⟩ (by omega)
    ·
      have hr0 : r = some i := fs_un hr ⟨hin, Classical.not_not.mp c2, hi.2⟩
      subst hr0
      refine wk_run C k_PF_entryOf_31 (pc2 := 32) (lv2 := [(0, .ref a), (1, .int x), (2, .int (nI i))]) (st2 := [.ref a]) rfl ?_
      refine wk_get C fd_PF_28 ha rfl d_PF_entryOf_32 ?_
      refine wk_run C k_PF_entryOf_35 (pc2 := 36) (lv2 := [(0, .ref a), (1, .int x), (2, .int (nI i))]) (st2 := [.int (nI i), .ref pl]) rfl ?_
      refine wk_callV (cl := ("java/util/ArrayList", T_AL, 3)) (rest := []) C (al_get (j := i) l HB hL hin) cs_PF_46 kc_AL_get ki_AL hl rfl rfl rfl (Nat.le_of_ble_eq_true rfl) (Nat.le_of_ble_eq_true rfl) (Nat.le_of_ble_eq_true rfl) (Nat.le_of_ble_eq_true rfl) (Nat.le_of_ble_eq_true rfl) d_PF_entryOf_36 (fun v h2 hq => ?_) (fun _ _ z => nomatch z.1)
      obtain ⟨e1, e2⟩ := hq; cases e1; replace e2 := e2.symm; subst e2
      refine wk_cast C (hE i hin) rfl cl_PF_50 d_PF_entryOf_39 ?_
      exact wk_aret C rfl (Or.inl ⟨_, rfl⟩) (Or.inr ⟨_, rfl⟩) ⟨rfl, rfl⟩ (by decide) (by decide) d_PF_entryOf_42
theorem k_PF_dropEntry_0 : px_dec prog_5_method_6_code [.iconst 0, .istore_n 2] 0 = true := by decide +kernel
theorem k_PF_dropEntry_2 : px_dec prog_5_method_6_code [.iload_n 2, .aload_n 0] 2 = true := by decide +kernel
theorem d_PF_dropEntry_4 : decode prog_5_method_6_code 4 = .ok (.getfield 28, 3) := by decide +kernel
theorem d_PF_dropEntry_7 : decode prog_5_method_6_code 7 = .ok (.invokevirtual 42, 3) := by decide +kernel
theorem d_PF_dropEntry_10 : decode prog_5_method_6_code 10 = .ok (.if_icmp .ge 37, 3) := by decide +kernel
theorem d_PF_dropEntry_47 : decode prog_5_method_6_code 47 = .ok (.return_, 1) := by decide +kernel
theorem k_PF_dropEntry_13 : px_dec prog_5_method_6_code [.aload_n 0] 13 = true := by decide +kernel
theorem d_PF_dropEntry_14 : decode prog_5_method_6_code 14 = .ok (.getfield 28, 3) := by decide +kernel
theorem k_PF_dropEntry_17 : px_dec prog_5_method_6_code [.iload_n 2] 17 = true := by decide +kernel
theorem d_PF_dropEntry_18 : decode prog_5_method_6_code 18 = .ok (.invokevirtual 46, 3) := by decide +kernel
theorem d_PF_dropEntry_21 : decode prog_5_method_6_code 21 = .ok (.checkcast 50, 3) := by decide +kernel
theorem d_PF_dropEntry_24 : decode prog_5_method_6_code 24 = .ok (.getfield 52, 3) := by decide +kernel
theorem k_PF_dropEntry_27 : px_dec prog_5_method_6_code [.iload_n 1] 27 = true := by decide +kernel
theorem d_PF_dropEntry_28 : decode prog_5_method_6_code 28 = .ok (.if_icmp .ne 13, 3) := by decide +kernel
theorem k_PF_dropEntry_41 : px_dec prog_5_method_6_code [.iinc 2 1] 41 = true := by decide +kernel
theorem d_PF_dropEntry_44 : decode prog_5_method_6_code 44 = .ok (.goto (-42), 3) := by decide +kernel
theorem k_PF_dropEntry_31 : px_dec prog_5_method_6_code [.aload_n 0] 31 = true := by decide +kernel
theorem d_PF_dropEntry_32 : decode prog_5_method_6_code 32 = .ok (.getfield 28, 3) := by decide +kernel
theorem k_PF_dropEntry_35 : px_dec prog_5_method_6_code [.iload_n 2] 35 = true := by decide +kernel
theorem d_PF_dropEntry_36 : decode prog_5_method_6_code 36 = .ok (.invokevirtual 55, 3) := by decide +kernel
theorem k_PF_dropEntry_39 : px_dec prog_5_method_6_code [.pop] 39 = true := by decide +kernel
theorem d_PF_dropEntry_40 : decode prog_5_method_6_code 40 = .ok (.return_, 1) := by decide +kernel
set_option maxRecDepth 100000 in
set_option maxHeartbeats 4000000 in
theorem c_PF_dropEntry (l : Launch) (D : va_G) (HB : Heap) (h : hp_T) (a pn pl b n : Nat) (n0 n1 ul mk : Int32) (eA : Nat → Nat) (wh gr pc ho : Nat → Int32) (ha : h a = some (.inr (5, [.int n0, .int n1, .ref pn, .ref pl, .int ul, .int mk]))) (hL : al_ok D h pl b n eA) (hE : en_ok h n eA wh gr pc ho) (hn : n ≤ 10) (x : Int32) (r : Option Nat) (hr : fs_ wh x n r) : ct_M l y_PF_dropEntry (.code y_PF_dropEntry prog_5_method_6_code 3 (Option.none : Option Jvm.ClassFile.FieldType)) ({ frames := 3, cells := 0, slots := 0, locals := 106 }) D HB [.ref a, .int x] h (fun o h2 => o = .inl none ∧ match r with | some k => al_ok D h2 pl b (n - 1) (al_del eA k) ∧ al_fr h h2 pl b | none => h2 = h) := by
  refine ct_of (by decide) (Nat.le_of_ble_eq_true rfl) rfl ?_
  intro p_ e_ s_ m_ r_ b_ t_ c_ C hnm
  obtain ⟨md, hl, -⟩ := id hL
  refine wk_run C k_PF_dropEntry_0 (pc2 := 2) (lv2 := [(2, .int 0), (0, .ref a), (1, .int x)]) (st2 := []) rfl ?_
  refine Wk.sub (lv2 := [(0, .ref a), (1, .int x), (2, .int 0)]) [1, 2, 0] rfl ?_
  refine wk_ind (σ := Nat) (hF := fun _ => h) (lvF := fun i => [(0, .ref a), (1, .int x), (2, .int (nI i))]) (fun i => n - i) (fun i => i ≤ n ∧ ∀ j, j < i → wh j ≠ x) (fun i hi ih => ?_) 0 ⟨Nat.zero_le n, fun j hj => absurd hj (Nat.not_lt_zero j)⟩
  show Wk _ _ _ _ _ _ _ _ _ _ _ _ _ _ _ _ _ _ [(0, .ref a), (1, .int x), (2, .int (nI i))] _
  refine wk_run C k_PF_dropEntry_2 (pc2 := 4) (lv2 := [(0, .ref a), (1, .int x), (2, .int (nI i))]) (st2 := [.ref a, .int (nI i)]) rfl ?_
  refine wk_get C fd_PF_28 ha rfl d_PF_dropEntry_4 ?_
  refine wk_callV (cl := ("java/util/ArrayList", T_AL, 3)) (rest := [.int (nI i)]) C (al_size l HB hL) cs_PF_42 kc_AL_size ki_AL hl rfl rfl rfl (Nat.le_of_ble_eq_true rfl) (Nat.le_of_ble_eq_true rfl) (Nat.le_of_ble_eq_true rfl) (Nat.le_of_ble_eq_true rfl) (Nat.le_of_ble_eq_true rfl) d_PF_dropEntry_7 (fun v h2 hq => ?_) (fun _ _ z => nomatch z.1)
  obtain ⟨e1, e2⟩ := hq; cases e1; replace e2 := e2.symm; subst e2
  refine wk_br C d_PF_dropEntry_10 (P := (nI n) ≤ (nI i)) (tgt := 47) (rest := []) rfl (by decide) (fun c1 => ?_) (fun c1 => ?_)
  ·
    have hin : n ≤ i := (nI_leI (by omega) (by omega)).mp c1
    have hr0 : r = none := fs_un hr (fun j hj => hi.2 j (by omega))
    subst hr0
    exact wk_vret C ⟨rfl, rfl⟩ (by decide) (by decide) d_PF_dropEntry_47
  ·
    have hin : i < n := by rcases Nat.lt_or_ge i n with z | z; exact z; exact absurd (nI_le z (by omega)) c1
    refine wk_run C k_PF_dropEntry_13 (pc2 := 14) (lv2 := [(0, .ref a), (1, .int x), (2, .int (nI i))]) (st2 := [.ref a]) rfl ?_
    refine wk_get C fd_PF_28 ha rfl d_PF_dropEntry_14 ?_
    refine wk_run C k_PF_dropEntry_17 (pc2 := 18) (lv2 := [(0, .ref a), (1, .int x), (2, .int (nI i))]) (st2 := [.int (nI i), .ref pl]) rfl ?_
    refine wk_callV (cl := ("java/util/ArrayList", T_AL, 3)) (rest := []) C (al_get (j := i) l HB hL hin) cs_PF_46 kc_AL_get ki_AL hl rfl rfl rfl (Nat.le_of_ble_eq_true rfl) (Nat.le_of_ble_eq_true rfl) (Nat.le_of_ble_eq_true rfl) (Nat.le_of_ble_eq_true rfl) (Nat.le_of_ble_eq_true rfl) d_PF_dropEntry_18 (fun v h2 hq => ?_) (fun _ _ z => nomatch z.1)
    obtain ⟨e1, e2⟩ := hq; cases e1; replace e2 := e2.symm; subst e2
    refine wk_cast C (hE i hin) rfl cl_PF_50 d_PF_dropEntry_21 ?_
    refine wk_get C fd_PF_52 (hE i hin) rfl d_PF_dropEntry_24 ?_
    refine wk_run C k_PF_dropEntry_27 (pc2 := 28) (lv2 := [(0, .ref a), (1, .int x), (2, .int (nI i))]) (st2 := [.int x, .int (wh i)]) rfl ?_
    refine wk_br C d_PF_dropEntry_28 (P := ¬ (wh i) = x) (tgt := 41) (rest := []) rfl (by decide) (fun c2 => ?_) (fun c2 => ?_)
    ·
      refine wk_run C k_PF_dropEntry_41 (pc2 := 44) (lv2 := [(2, .int ((nI i) + 1)), (0, .ref a), (1, .int x)]) (st2 := []) rfl ?_
      refine wk_goto C d_PF_dropEntry_44 (tgt := 2) (by decide) ?_
      refine Wk.sub (lv2 := [(0, .ref a), (1, .int x), (2, .int ((nI i) + 1))]) [1, 2, 0] rfl ?_
      rw [nI_1]
      exact ih (i + 1) ⟨by omega, fun j hj => by by_cases z : j = i; (subst z; exact c2); exact hi.2 j (by omega)⟩ (by omega)
    ·
      have hr0 : r = some i := fs_un hr ⟨hin, Classical.not_not.mp c2, hi.2⟩
      subst hr0
      refine wk_run C k_PF_dropEntry_31 (pc2 := 32) (lv2 := [(0, .ref a), (1, .int x), (2, .int (nI i))]) (st2 := [.ref a]) rfl ?_
      refine wk_get C fd_PF_28 ha rfl d_PF_dropEntry_32 ?_
      refine wk_run C k_PF_dropEntry_35 (pc2 := 36) (lv2 := [(0, .ref a), (1, .int x), (2, .int (nI i))]) (st2 := [.int (nI i), .ref pl]) rfl ?_
      refine wk_callV (cl := ("java/util/ArrayList", T_AL, 3)) (rest := []) C (c_AL_remove l D HB h pl b n i eA hL hin (fun j hj => kx_ob 4 (by decide) (hE j hj))) cs_PF_55 kc_AL_remove ki_AL hl rfl rfl rfl (Nat.le_of_ble_eq_true rfl) (Nat.le_of_ble_eq_true rfl) (Nat.le_of_ble_eq_true rfl) (Nat.le_of_ble_eq_true rfl) (Nat.le_of_ble_eq_true rfl) d_PF_dropEntry_36 (fun v h3 hq => ?_) (fun _ _ z => nomatch z.1)
      obtain ⟨e1, k1, k2⟩ := hq; cases e1
      refine wk_run C k_PF_dropEntry_39 (pc2 := 40) (lv2 := [(0, .ref a), (1, .int x), (2, .int (nI i))]) (st2 := []) rfl ?_
      exact wk_vret C ⟨rfl, k1, k2⟩ (by decide) (by decide) d_PF_dropEntry_40
theorem k_PF_openEntryOf_0 : px_dec prog_5_method_8_code [.aload_n 0, .iload_n 1] 0 = true := by decide +kernel
theorem d_PF_openEntryOf_2 : decode prog_5_method_8_code 2 = .ok (.invokevirtual 78, 3) := by decide +kernel
theorem k_PF_openEntryOf_5 : px_dec prog_5_method_8_code [.astore 4, .aload 4] 5 = true := by decide +kernel
theorem d_PF_openEntryOf_9 : decode prog_5_method_8_code 9 = .ok (.ifnull 18, 3) := by decide +kernel
theorem k_PF_openEntryOf_27 : px_dec prog_5_method_8_code [.aconst_null] 27 = true := by decide +kernel
theorem d_PF_openEntryOf_28 : decode prog_5_method_8_code 28 = .ok (.areturn, 1) := by decide +kernel
theorem k_PF_openEntryOf_12 : px_dec prog_5_method_8_code [.aload 4, .aload_n 2, .iload_n 3] 12 = true := by decide +kernel
theorem d_PF_openEntryOf_16 : decode prog_5_method_8_code 16 = .ok (.invokevirtual 82, 3) := by decide +kernel
theorem d_PF_openEntryOf_19 : decode prog_5_method_8_code 19 = .ok (.ifCond .eq 8, 3) := by decide +kernel
theorem k_PF_openEntryOf_22 : px_dec prog_5_method_8_code [.aload 4] 22 = true := by decide +kernel
theorem d_PF_openEntryOf_24 : decode prog_5_method_8_code 24 = .ok (.goto 4, 3) := by decide +kernel
set_option maxRecDepth 100000 in
set_option maxHeartbeats 4000000 in
theorem c_PF_openEntryOf (l : Launch) (D : va_G) (HB : Heap) (h : hp_T) (a pn pl b n : Nat) (n0 n1 ul mk : Int32) (eA : Nat → Nat) (wh gr pc ho : Nat → Int32) (ha : h a = some (.inr (5, [.int n0, .int n1, .ref pn, .ref pl, .int ul, .int mk]))) (hL : al_ok D h pl b n eA) (hE : en_ok h n eA wh gr pc ho) (hn : n ≤ 10) (u ug : Nat) (u0 u2 u3 u4 : Int32) (u5 : Int64) (hu : h u = some (.inr (2, [.int u0, .ref ug, .int u2, .int u3, .int u4, .long u5]))) (x hr : Int32) (r : Option Nat) (hf : fs_ wh x n r) : ct_M l y_PF_openEntryOf (.code y_PF_openEntryOf prog_5_method_8_code 5 (Option.some (Jvm.ClassFile.FieldType.object "ProfileRights$Entry"))) ({ frames := 4, cells := 0, slots := 0, locals := 86 }) D HB [.ref a, .int x, .ref u, .int hr] h (fun o h2 => o = .inl (some (va_rf ((oe_ pc ho u2 hr r).map eA))) ∧ h2 = h) := by
  refine ct_of (by decide) (Nat.le_of_ble_eq_true rfl) rfl ?_
  intro p_ e_ s_ m_ r_ b_ t_ c_ C hnm
  refine wk_run C k_PF_openEntryOf_0 (pc2 := 2) (lv2 := [(0, .ref a), (1, .int x), (2, .ref u), (3, .int hr)]) (st2 := [.int x, .ref a]) rfl ?_
  refine wk_callV (cl := ("ProfileRights$Profile", T_PF, 6)) (rest := []) C (c_PF_entryOf l D HB h a pn pl b n n0 n1 ul mk eA wh gr pc ho ha hL hE hn x r hf) cs_PF_78 kc_PF_entryOf ki_PF ha rfl rfl rfl (Nat.le_of_ble_eq_true rfl) (Nat.le_of_ble_eq_true rfl) (Nat.le_of_ble_eq_true rfl) (Nat.le_of_ble_eq_true rfl) (Nat.le_of_ble_eq_true rfl) d_PF_openEntryOf_2 (fun v h2 hq => ?_) (fun _ _ z => nomatch z.1)
  obtain ⟨e1, e2⟩ := hq; cases e1; replace e2 := e2.symm; subst e2
  cases r with
  | none =>
    show Wk _ _ _ _ _ _ _ _ _ _ _ _ _ _ _ _ _ _ _ [.null]
    refine wk_run C k_PF_openEntryOf_5 (pc2 := 9) (lv2 := [(4, .null), (0, .ref a), (1, .int x), (2, .ref u), (3, .int hr)]) (st2 := [.null]) rfl ?_
    refine wk_nlN C d_PF_openEntryOf_9 (tgt := 27) (by decide) ?_
    refine wk_run C k_PF_openEntryOf_27 (pc2 := 28) (lv2 := [(4, .null), (0, .ref a), (1, .int x), (2, .ref u), (3, .int hr)]) (st2 := [.null]) rfl ?_
    exact wk_aret C rfl (Or.inl ⟨_, rfl⟩) (Or.inl rfl) ⟨rfl, rfl⟩ (by decide) (by decide) d_PF_openEntryOf_28
  | some k =>
    show Wk _ _ _ _ _ _ _ _ _ _ _ _ _ _ _ _ _ _ _ [.ref (eA k)]
    have hk := hf.1
    refine wk_run C k_PF_openEntryOf_5 (pc2 := 9) (lv2 := [(4, .ref (eA k)), (0, .ref a), (1, .int x), (2, .ref u), (3, .int hr)]) (st2 := [.ref (eA k)]) rfl ?_
    refine wk_nlR C d_PF_openEntryOf_9 ?_
    refine wk_run C k_PF_openEntryOf_12 (pc2 := 16) (lv2 := [(4, .ref (eA k)), (0, .ref a), (1, .int x), (2, .ref u), (3, .int hr)]) (st2 := [.int hr, .ref u, .ref (eA k)]) rfl ?_
    refine wk_callV (cl := ("ProfileRights$Entry", T_EN, 4)) (rest := []) C (c_EN_isOpen l D HB h (eA k) u ug (wh k) (gr k) (pc k) (ho k) u0 u2 u3 u4 hr u5 (hE k hk) hu) cs_PF_82 kc_EN_isOpen ki_EN (hE k hk) rfl rfl rfl (Nat.le_of_ble_eq_true rfl) (Nat.le_of_ble_eq_true rfl) (Nat.le_of_ble_eq_true rfl) (Nat.le_of_ble_eq_true rfl) (Nat.le_of_ble_eq_true rfl) d_PF_openEntryOf_16 (fun v h2 hq => ?_) (fun _ _ z => nomatch z.1)
    obtain ⟨e1, e2⟩ := hq; cases e1; replace e2 := e2.symm; subst e2
    refine wk_br C d_PF_openEntryOf_19 (P := (if (pc k = 0 ∨ pc k = u2) ∧ ¬ (ho k >>> (hr &&& 31)) &&& 1 = 0 then (1 : Int32) else 0) = 0) (tgt := 27) (rest := []) rfl (by decide) (fun c1 => ?_) (fun c1 => ?_)
    ·
      refine wk_run C k_PF_openEntryOf_27 (pc2 := 28) (lv2 := [(4, .ref (eA k)), (0, .ref a), (1, .int x), (2, .ref u), (3, .int hr)]) (st2 := [.null]) rfl ?_
      have hno : ¬ op_ pc ho u2 hr k := fun z => by unfold op_ at z; rw [if_pos z] at c1; exact absurd c1 (by decide)
      exact wk_aret C rfl (Or.inl ⟨_, rfl⟩) (Or.inl rfl) ⟨by show _ = Sum.inl (some (va_rf (Option.map eA (@ite _ (op_ pc ho u2 hr k) (Classical.propDecidable _) (some k) none)))); rw [if_neg hno]; rfl, rfl⟩ (by decide) (by decide) d_PF_openEntryOf_28
    ·
      refine wk_run C k_PF_openEntryOf_22 (pc2 := 24) (lv2 := [(4, .ref (eA k)), (0, .ref a), (1, .int x), (2, .ref u), (3, .int hr)]) (st2 := [.ref (eA k)]) rfl ?_
      refine wk_goto C d_PF_openEntryOf_24 (tgt := 28) (by decide) ?_
      have hop : op_ pc ho u2 hr k := Classical.byContradiction (fun z => by unfold op_ at z; rw [if_neg z] at c1; exact c1 rfl)
      exact wk_aret C rfl (Or.inl ⟨_, rfl⟩) (Or.inr ⟨_, rfl⟩) ⟨by show _ = Sum.inl (some (va_rf (Option.map eA (@ite _ (op_ pc ho u2 hr k) (Classical.propDecidable _) (some k) none)))); rw [if_pos hop]; rfl, rfl⟩ (by decide) (by decide) d_PF_openEntryOf_28
