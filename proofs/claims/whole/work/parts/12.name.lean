theorem k_NM_init_0 : px_dec prog_4_method_1_code [.aload_n 0] 0 = true := by decide +kernel
theorem d_NM_init_1 : decode prog_4_method_1_code 1 = .ok (.invokespecial 3, 3) := by decide +kernel
theorem k_NM_init_4 : px_dec prog_4_method_1_code [.aload_n 0, .bipush 20] 4 = true := by decide +kernel
theorem d_NM_init_7 : decode prog_4_method_1_code 7 = .ok (.newarray .int, 2) := by decide +kernel
theorem d_NM_init_9 : decode prog_4_method_1_code 9 = .ok (.putfield 9, 3) := by decide +kernel
theorem k_NM_init_12 : px_dec prog_4_method_1_code [.aload_n 0, .iconst 0] 12 = true := by decide +kernel
theorem d_NM_init_14 : decode prog_4_method_1_code 14 = .ok (.putfield 15, 3) := by decide +kernel
theorem k_NM_init_17 : px_dec prog_4_method_1_code [.aload_n 0, .iconst 0] 17 = true := by decide +kernel
theorem d_NM_init_19 : decode prog_4_method_1_code 19 = .ok (.putfield 19, 3) := by decide +kernel
theorem k_NM_init_22 : px_dec prog_4_method_1_code [.aload_n 0, .iconst 0] 22 = true := by decide +kernel
theorem d_NM_init_24 : decode prog_4_method_1_code 24 = .ok (.putfield 22, 3) := by decide +kernel
theorem d_NM_init_27 : decode prog_4_method_1_code 27 = .ok (.return_, 1) := by decide +kernel
set_option maxRecDepth 100000 in
set_option maxHeartbeats 4000000 in
theorem c_NM_init (l : Launch) (D : va_G) (HB : Heap) (h : hp_T) (a : Nat) (f1 f2 f3 : Int32) (ha : h a = some (.inr (3, [.null, .int f1, .int f2, .int f3]))) : ct_M l y_NM_init (.code y_NM_init prog_4_method_1_code 1 (Option.none : Option Jvm.ClassFile.FieldType)) ({ frames := 1, cells := 1, slots := 20, locals := 14 }) D HB [.ref a] h (fun o h2 => o = .inl none ∧ ∃ q : Nat, h q = none ∧ h2 = hp_up (hp_up h q (.inl (D.1 100, 20, .inl (fun _ => 0)))) a (.inr (3, [.ref q, .int 0, .int 0, .int 0]))) := by
  refine ct_of (by decide) (Nat.le_of_ble_eq_true rfl) rfl ?_
  intro p_ e_ s_ m_ r_ b_ t_ c_ C hnm
  refine wk_run C k_NM_init_0 (pc2 := 1) (lv2 := [(0, .ref a)]) (st2 := [.ref a]) rfl ?_
  refine wk_obj C ml_NM_3 kj_in kj_cd (by decide) (by decide) d_NM_init_1 ?_
  refine wk_run C k_NM_init_4 (pc2 := 7) (lv2 := [(0, .ref a)]) (st2 := [.int 20, .ref a]) rfl ?_
  refine wk_newi (N := 20) C ka_int rfl (by decide) (by decide) (by decide) d_NM_init_7 (fun q hq => ?_)
  refine wk_putF (fs2 := [.ref q, .int f1, .int f2, .int f3]) C ff_NM_9 hnm ((hp_un (hp_ne ha hq)).trans ha) rfl rfl (Nat.le_of_ble_eq_true rfl) rfl d_NM_init_9 ?_
  refine wk_run C k_NM_init_12 (pc2 := 14) (lv2 := [(0, .ref a)]) (st2 := [.int 0, .ref a]) rfl ?_
  refine wk_put (fs2 := [.ref q, .int 0, .int f2, .int f3]) C fd_NM_15 hp_us rfl rfl (Nat.le_of_ble_eq_true rfl) rfl d_NM_init_14 ?_
  refine Wk.he hp_uu ?_
  refine wk_run C k_NM_init_17 (pc2 := 19) (lv2 := [(0, .ref a)]) (st2 := [.int 0, .ref a]) rfl ?_
  refine wk_put (fs2 := [.ref q, .int 0, .int 0, .int f3]) C fd_NM_19 hp_us rfl rfl (Nat.le_of_ble_eq_true rfl) rfl d_NM_init_19 ?_
  refine Wk.he hp_uu ?_
  refine wk_run C k_NM_init_22 (pc2 := 24) (lv2 := [(0, .ref a)]) (st2 := [.int 0, .ref a]) rfl ?_
  refine wk_put (fs2 := [.ref q, .int 0, .int 0, .int 0]) C fd_NM_22 hp_us rfl rfl (Nat.le_of_ble_eq_true rfl) rfl d_NM_init_24 ?_
  refine Wk.he hp_uu ?_
  exact wk_vret C ⟨rfl, q, hq, rfl⟩ (by decide) (by decide) d_NM_init_27
theorem k_NM_isFull_0 : px_dec prog_4_method_2_code [.aload_n 0] 0 = true := by decide +kernel
theorem d_NM_isFull_1 : decode prog_4_method_2_code 1 = .ok (.getfield 15, 3) := by decide +kernel
theorem k_NM_isFull_4 : px_dec prog_4_method_2_code [.bipush 20] 4 = true := by decide +kernel
theorem d_NM_isFull_6 : decode prog_4_method_2_code 6 = .ok (.if_icmp .lt 7, 3) := by decide +kernel
theorem k_NM_isFull_13 : px_dec prog_4_method_2_code [.iconst 0] 13 = true := by decide +kernel
theorem d_NM_isFull_14 : decode prog_4_method_2_code 14 = .ok (.ireturn, 1) := by decide +kernel
theorem k_NM_isFull_9 : px_dec prog_4_method_2_code [.iconst 1] 9 = true := by decide +kernel
theorem d_NM_isFull_10 : decode prog_4_method_2_code 10 = .ok (.goto 4, 3) := by decide +kernel
set_option maxRecDepth 100000 in
set_option maxHeartbeats 4000000 in
theorem c_NM_isFull (l : Launch) (D : va_G) (HB : Heap) (h : hp_T) (a c : Nat) (f1 f2 f3 : Int32) (ha : h a = some (.inr (3, [.ref c, .int f1, .int f2, .int f3]))) : ct_M l y_NM_isFull (.code y_NM_isFull prog_4_method_2_code 1 (Option.some Jvm.ClassFile.FieldType.boolean)) ({ frames := 0, cells := 0, slots := 0, locals := 0 }) D HB [.ref a] h (fun o h2 => o = .inl (some (.int (if 20 ≤ f1 then (1 : Int32) else 0))) ∧ h2 = h) := by
  refine ct_of (by decide) (Nat.le_of_ble_eq_true rfl) rfl ?_
  intro p_ e_ s_ m_ r_ b_ t_ c_ C hnm
  refine wk_run C k_NM_isFull_0 (pc2 := 1) (lv2 := [(0, .ref a)]) (st2 := [.ref a]) rfl ?_
  refine wk_get C fd_NM_15 ha rfl d_NM_isFull_1 ?_
  refine wk_run C k_NM_isFull_4 (pc2 := 6) (lv2 := [(0, .ref a)]) (st2 := [.int 20, .int f1]) rfl ?_
  refine wk_br C d_NM_isFull_6 (P := f1 < 20) (tgt := 13) (rest := []) rfl (by decide) (fun c1 => ?_) (fun c1 => ?_)
  ·
    refine wk_run C k_NM_isFull_13 (pc2 := 14) (lv2 := [(0, .ref a)]) (st2 := [.int 0]) rfl ?_
    exact wk_zret C (by decide) ⟨by rw [if_neg (fun z => absurd c1 (Int32.not_lt.mpr z))], rfl⟩ (by decide) (by decide) d_NM_isFull_14
  ·
    refine wk_run C k_NM_isFull_9 (pc2 := 10) (lv2 := [(0, .ref a)]) (st2 := [.int 1]) rfl ?_
    refine wk_goto C d_NM_isFull_10 (tgt := 14) (by decide) ?_
    exact wk_zret C (by decide) ⟨by rw [if_pos (Int32.not_lt.mp c1)], rfl⟩ (by decide) (by decide) d_NM_isFull_14
theorem k_NM_isExact_0 : px_dec prog_4_method_5_code [.aload_n 0] 0 = true := by decide +kernel
theorem d_NM_isExact_1 : decode prog_4_method_5_code 1 = .ok (.getfield 19, 3) := by decide +kernel
theorem k_NM_isExact_4 : px_dec prog_4_method_5_code [.aload_n 0] 4 = true := by decide +kernel
theorem d_NM_isExact_5 : decode prog_4_method_5_code 5 = .ok (.getfield 15, 3) := by decide +kernel
theorem d_NM_isExact_8 : decode prog_4_method_5_code 8 = .ok (.if_icmp .ne 7, 3) := by decide +kernel
theorem k_NM_isExact_15 : px_dec prog_4_method_5_code [.iconst 0] 15 = true := by decide +kernel
theorem d_NM_isExact_16 : decode prog_4_method_5_code 16 = .ok (.ireturn, 1) := by decide +kernel
theorem k_NM_isExact_11 : px_dec prog_4_method_5_code [.iconst 1] 11 = true := by decide +kernel
theorem d_NM_isExact_12 : decode prog_4_method_5_code 12 = .ok (.goto 4, 3) := by decide +kernel
set_option maxRecDepth 100000 in
set_option maxHeartbeats 4000000 in
theorem c_NM_isExact (l : Launch) (D : va_G) (HB : Heap) (h : hp_T) (a c : Nat) (f1 f2 f3 : Int32) (ha : h a = some (.inr (3, [.ref c, .int f1, .int f2, .int f3]))) : ct_M l y_NM_isExact (.code y_NM_isExact prog_4_method_5_code 1 (Option.some Jvm.ClassFile.FieldType.boolean)) ({ frames := 0, cells := 0, slots := 0, locals := 0 }) D HB [.ref a] h (fun o h2 => o = .inl (some (.int (if f2 = f1 then (1 : Int32) else 0))) ∧ h2 = h) := by
  refine ct_of (by decide) (Nat.le_of_ble_eq_true rfl) rfl ?_
  intro p_ e_ s_ m_ r_ b_ t_ c_ C hnm
  refine wk_run C k_NM_isExact_0 (pc2 := 1) (lv2 := [(0, .ref a)]) (st2 := [.ref a]) rfl ?_
  refine wk_get C fd_NM_19 ha rfl d_NM_isExact_1 ?_
  refine wk_run C k_NM_isExact_4 (pc2 := 5) (lv2 := [(0, .ref a)]) (st2 := [.ref a, .int f2]) rfl ?_
  refine wk_get C fd_NM_15 ha rfl d_NM_isExact_5 ?_
  refine wk_br C d_NM_isExact_8 (P := ¬ f2 = f1) (tgt := 15) (rest := []) rfl (by decide) (fun c1 => ?_) (fun c1 => ?_)
  ·
    refine wk_run C k_NM_isExact_15 (pc2 := 16) (lv2 := [(0, .ref a)]) (st2 := [.int 0]) rfl ?_
    exact wk_zret C (by decide) ⟨by rw [if_neg c1], rfl⟩ (by decide) (by decide) d_NM_isExact_16
  ·
    refine wk_run C k_NM_isExact_11 (pc2 := 12) (lv2 := [(0, .ref a)]) (st2 := [.int 1]) rfl ?_
    refine wk_goto C d_NM_isExact_12 (tgt := 16) (by decide) ?_
    exact wk_zret C (by decide) ⟨by rw [if_pos (Classical.not_not.mp c1)], rfl⟩ (by decide) (by decide) d_NM_isExact_16
theorem k_NM_clear_0 : px_dec prog_4_method_4_code [.aload_n 0, .iconst 0] 0 = true := by decide +kernel
theorem d_NM_clear_2 : decode prog_4_method_4_code 2 = .ok (.putfield 15, 3) := by decide +kernel
theorem k_NM_clear_5 : px_dec prog_4_method_4_code [.aload_n 0, .iconst 0] 5 = true := by decide +kernel
theorem d_NM_clear_7 : decode prog_4_method_4_code 7 = .ok (.putfield 19, 3) := by decide +kernel
theorem k_NM_clear_10 : px_dec prog_4_method_4_code [.aload_n 0, .iconst 0] 10 = true := by decide +kernel
theorem d_NM_clear_12 : decode prog_4_method_4_code 12 = .ok (.putfield 22, 3) := by decide +kernel
theorem d_NM_clear_15 : decode prog_4_method_4_code 15 = .ok (.return_, 1) := by decide +kernel
set_option maxRecDepth 100000 in
set_option maxHeartbeats 4000000 in
theorem c_NM_clear (l : Launch) (D : va_G) (HB : Heap) (h : hp_T) (a c : Nat) (f1 f2 f3 : Int32) (ha : h a = some (.inr (3, [.ref c, .int f1, .int f2, .int f3]))) : ct_M l y_NM_clear (.code y_NM_clear prog_4_method_4_code 1 (Option.none : Option Jvm.ClassFile.FieldType)) ({ frames := 0, cells := 0, slots := 0, locals := 0 }) D HB [.ref a] h (fun o h2 => o = .inl none ∧ h2 = hp_up h a (.inr (3, [.ref c, .int 0, .int 0, .int 0]))) := by
  refine ct_of (by decide) (Nat.le_of_ble_eq_true rfl) rfl ?_
  intro p_ e_ s_ m_ r_ b_ t_ c_ C hnm
  refine wk_run C k_NM_clear_0 (pc2 := 2) (lv2 := [(0, .ref a)]) (st2 := [.int 0, .ref a]) rfl ?_
  refine wk_put (fs2 := [.ref c, .int 0, .int f2, .int f3]) C fd_NM_15 ha rfl rfl (Nat.le_of_ble_eq_true rfl) rfl d_NM_clear_2 ?_
  refine wk_run C k_NM_clear_5 (pc2 := 7) (lv2 := [(0, .ref a)]) (st2 := [.int 0, .ref a]) rfl ?_
  refine wk_put (fs2 := [.ref c, .int 0, .int 0, .int f3]) C fd_NM_19 hp_us rfl rfl (Nat.le_of_ble_eq_true rfl) rfl d_NM_clear_7 ?_
  refine Wk.he hp_uu ?_
  refine wk_run C k_NM_clear_10 (pc2 := 12) (lv2 := [(0, .ref a)]) (st2 := [.int 0, .ref a]) rfl ?_
  refine wk_put (fs2 := [.ref c, .int 0, .int 0, .int 0]) C fd_NM_22 hp_us rfl rfl (Nat.le_of_ble_eq_true rfl) rfl d_NM_clear_12 ?_
  refine Wk.he hp_uu ?_
  exact wk_vret C ⟨rfl, rfl⟩ (by decide) (by decide) d_NM_clear_15
theorem nm_push {D : va_G} {h : hp_T} {a c n : Nat} {f g : Nat → Int32} {k s2 a2 : Int32} {fs : List Value} (ha : h a = some (.inr (3, fs))) (hg : ∀ k, k < n → g k = f k) (hn : n < 20) (e1 : s2 = nI (nm_s (upd f n k) (n + 1))) (e2 : a2 = nI (nm_a (upd f n k) (n + 1))) (hc : h c = some (.inl (D.1 100, 20, .inl g))) :
    nm_ok D (hp_up (hp_up h c (.inl (D.1 100, 20, .inl (upd g n k)))) a (.inr (3, [.ref c, .int (nI (n + 1)), .int s2, .int a2]))) a c (n + 1) (upd f n k) := by
  have hne : c ≠ a := fun z => by rw [z, ha] at hc; cases hc
  refine ⟨by rw [e1, e2]; exact hp_us, ⟨upd g n k, by rw [hp_un hne]; exact hp_us, fun j hj => ?_⟩, by omega⟩
  by_cases z : j = n
  · subst z; rw [pk_us, pk_us]
  · rw [pk_un z, pk_un z]; exact hg j (by omega)
theorem nm_s_up {f : Nat → Int32} {n : Nat} {k : Int32} : nm_s (upd f n k) (n + 1) = nm_s f n + (if k = 37 ∨ k = 42 then 0 else 1) := by
  show nm_s (upd f n k) n + _ = _
  rw [nm_s_cg (g := f) (fun j hj => pk_un (by omega)), pk_us]
theorem nm_a_up {f : Nat → Int32} {n : Nat} {k : Int32} : nm_a (upd f n k) (n + 1) = nm_a f n + (if k = 37 ∨ k = 42 then 0 else if nm_s f n = n then 1 else 0) := by
  show nm_a (upd f n k) n + _ = _
  rw [nm_a_cg (g := f) (fun j hj => pk_un (by omega)), nm_s_cg (g := f) (fun j hj => pk_un (by omega)), pk_us]

theorem k_NM_append_0 : px_dec prog_4_method_3_code [.aload_n 0] 0 = true := by decide +kernel
theorem d_NM_append_1 : decode prog_4_method_3_code 1 = .ok (.invokevirtual 25, 3) := by decide +kernel
theorem d_NM_append_4 : decode prog_4_method_3_code 4 = .ok (.ifCond .eq 4, 3) := by decide +kernel
theorem d_NM_append_7 : decode prog_4_method_3_code 7 = .ok (.return_, 1) := by decide +kernel
theorem k_NM_append_8 : px_dec prog_4_method_3_code [.iload_n 1, .bipush 37] 8 = true := by decide +kernel
theorem d_NM_append_11 : decode prog_4_method_3_code 11 = .ok (.if_icmp .eq 40, 3) := by decide +kernel
theorem k_NM_append_51 : px_dec prog_4_method_3_code [.aload_n 0] 51 = true := by decide +kernel
theorem d_NM_append_52 : decode prog_4_method_3_code 52 = .ok (.getfield 9, 3) := by decide +kernel
theorem k_NM_append_55 : px_dec prog_4_method_3_code [.aload_n 0] 55 = true := by decide +kernel
theorem d_NM_append_56 : decode prog_4_method_3_code 56 = .ok (.getfield 15, 3) := by decide +kernel
theorem k_NM_append_59 : px_dec prog_4_method_3_code [.iload_n 1] 59 = true := by decide +kernel
theorem d_NM_append_60 : decode prog_4_method_3_code 60 = .ok (.iastore, 1) := by decide +kernel
theorem k_NM_append_61 : px_dec prog_4_method_3_code [.aload_n 0, .dup] 61 = true := by decide +kernel
theorem d_NM_append_63 : decode prog_4_method_3_code 63 = .ok (.getfield 15, 3) := by decide +kernel
theorem k_NM_append_66 : px_dec prog_4_method_3_code [.iconst 1, .iadd] 66 = true := by decide +kernel
theorem d_NM_append_68 : decode prog_4_method_3_code 68 = .ok (.putfield 15, 3) := by decide +kernel
theorem d_NM_append_71 : decode prog_4_method_3_code 71 = .ok (.return_, 1) := by decide +kernel
theorem k_NM_append_14 : px_dec prog_4_method_3_code [.iload_n 1, .bipush 42] 14 = true := by decide +kernel
theorem d_NM_append_17 : decode prog_4_method_3_code 17 = .ok (.if_icmp .eq 34, 3) := by decide +kernel
theorem k_NM_append_20 : px_dec prog_4_method_3_code [.aload_n 0, .dup] 20 = true := by decide +kernel
theorem d_NM_append_22 : decode prog_4_method_3_code 22 = .ok (.getfield 22, 3) := by decide +kernel
theorem k_NM_append_25 : px_dec prog_4_method_3_code [.aload_n 0] 25 = true := by decide +kernel
theorem d_NM_append_26 : decode prog_4_method_3_code 26 = .ok (.invokevirtual 29, 3) := by decide +kernel
theorem d_NM_append_29 : decode prog_4_method_3_code 29 = .ok (.ifCond .eq 7, 3) := by decide +kernel
theorem k_NM_append_32 : px_dec prog_4_method_3_code [.iconst 1] 32 = true := by decide +kernel
theorem d_NM_append_33 : decode prog_4_method_3_code 33 = .ok (.goto 4, 3) := by decide +kernel
theorem k_NM_append_37 : px_dec prog_4_method_3_code [.iadd] 37 = true := by decide +kernel
theorem d_NM_append_38 : decode prog_4_method_3_code 38 = .ok (.putfield 22, 3) := by decide +kernel
theorem k_NM_append_41 : px_dec prog_4_method_3_code [.aload_n 0, .dup] 41 = true := by decide +kernel
theorem d_NM_append_43 : decode prog_4_method_3_code 43 = .ok (.getfield 19, 3) := by decide +kernel
theorem k_NM_append_46 : px_dec prog_4_method_3_code [.iconst 1, .iadd] 46 = true := by decide +kernel
theorem d_NM_append_48 : decode prog_4_method_3_code 48 = .ok (.putfield 19, 3) := by decide +kernel
theorem k_NM_append_36 : px_dec prog_4_method_3_code [.iconst 0, .iadd] 36 = true := by decide +kernel
set_option maxRecDepth 100000 in
set_option maxHeartbeats 4000000 in
theorem c_NM_append (l : Launch) (D : va_G) (HB : Heap) (h : hp_T) (a c n : Nat) (f : Nat → Int32) (k : Int32) (hN : nm_ok D h a c n f) : ct_M l y_NM_append (.code y_NM_append prog_4_method_3_code 2 (Option.none : Option Jvm.ClassFile.FieldType)) ({ frames := 1, cells := 0, slots := 0, locals := 20 }) D HB [.ref a, .int k] h (fun o h2 => o = .inl none ∧ (n < 20 → nm_ok D h2 a c (n + 1) (upd f n k)) ∧ (¬ n < 20 → h2 = h) ∧ al_fr h h2 a c) := by
  refine ct_of (by decide) (Nat.le_of_ble_eq_true rfl) rfl ?_
  intro p_ e_ s_ m_ r_ b_ t_ c_ C hnm
  obtain ⟨ha, ⟨g, hc, hg⟩, hn⟩ := hN
  have hs := nm_s_le f n
  have hh := nm_a_le f n
  have hca : a ≠ c := fun z => by rw [← z, ha] at hc; cases hc
  refine wk_run C k_NM_append_0 (pc2 := 1) (lv2 := [(0, .ref a), (1, .int k)]) (st2 := [.ref a]) rfl ?_
  refine wk_callV (cl := ("ProfileRights$Name", T_NM, 4)) (rest := []) C (c_NM_isFull l D HB h a c _ _ _ ha) cs_NM_25 kc_NM_isFull ki_NM ha rfl rfl rfl (Nat.le_of_ble_eq_true rfl) (Nat.le_of_ble_eq_true rfl) (Nat.le_of_ble_eq_true rfl) (Nat.le_of_ble_eq_true rfl) (Nat.le_of_ble_eq_true rfl) d_NM_append_1 (fun v h2 hq => ?_) (fun _ _ z => nomatch z.1)
  obtain ⟨e1, e2⟩ := hq; cases e1; replace e2 := e2.symm; subst e2
  refine wk_br C d_NM_append_4 (P := (if 20 ≤ nI n then (1 : Int32) else 0) = 0) (tgt := 8) (rest := []) rfl (by decide) (fun c1 => ?_) (fun c1 => ?_)
  rotate_left
  ·
    have h20 : ¬ n < 20 := fun z => c1 (by rw [if_neg (show ¬ (20 : Int32) ≤ nI n from nI_ge z (by decide))])
    exact wk_vret C ⟨rfl, fun z => absurd z h20, fun _ => rfl, fun _ _ _ _ z => z⟩ (by decide) (by decide) d_NM_append_7
  ·
    have h20 : n < 20 := by rcases Nat.lt_or_ge n 20 with z | z; exact z; exact absurd c1 (by rw [if_pos (show (20 : Int32) ≤ nI n from nI_le z (by omega))]; decide)
    refine wk_run C k_NM_append_8 (pc2 := 11) (lv2 := [(0, .ref a), (1, .int k)]) (st2 := [.int 37, .int k]) rfl ?_
    refine wk_br C d_NM_append_11 (P := k = 37) (tgt := 51) (rest := []) rfl (by decide) (fun d1 => ?_) (fun d1 => ?_)
    ·
      refine wk_run C k_NM_append_51 (pc2 := 52) (lv2 := [(0, .ref a), (1, .int k)]) (st2 := [.ref a]) rfl ?_
      refine wk_get C fd_NM_9 ha rfl d_NM_append_52 ?_
      refine wk_run C k_NM_append_55 (pc2 := 56) (lv2 := [(0, .ref a), (1, .int k)]) (st2 := [.ref a, .ref c]) rfl ?_
      refine wk_get C fd_NM_15 ha rfl d_NM_append_56 ?_
      refine wk_run C k_NM_append_59 (pc2 := 60) (lv2 := [(0, .ref a), (1, .int k)]) (st2 := [.int k, .int (nI n), .ref c]) rfl ?_
      refine wk_iast C hc (vp_in_nI h20 (by omega)) d_NM_append_60 ?_
      rw [nI_clamp (by omega)]
      refine wk_run C k_NM_append_61 (pc2 := 63) (lv2 := [(0, .ref a), (1, .int k)]) (st2 := [.ref a, .ref a]) rfl ?_
      refine wk_get C fd_NM_15 ((hp_un hca).trans ha) rfl d_NM_append_63 ?_
      refine wk_run C k_NM_append_66 (pc2 := 68) (lv2 := [(0, .ref a), (1, .int k)]) (st2 := [.int ((nI n) + 1), .ref a]) rfl ?_
      refine wk_put (fs2 := [.ref c, .int (nI n + 1), .int (nI (nm_s f n)), .int (nI (nm_a f n))]) C fd_NM_15 ((hp_un hca).trans ha) rfl rfl (Nat.le_of_ble_eq_true rfl) rfl d_NM_append_68 ?_
      refine wk_vret C ⟨rfl, fun _ => ?_, fun z => absurd h20 z, ?_⟩ (by decide) (by decide) d_NM_append_71
      · rw [nI_1 n]; exact nm_push ha hg h20 (by rw [nm_s_up, if_pos (Or.inl d1)]; rfl) (by rw [nm_a_up, if_pos (Or.inl d1)]; rfl) hc
      · intro q x q1 q2 hq; rw [hp_un q1, hp_un q2]; exact hq
    ·
      refine wk_run C k_NM_append_14 (pc2 := 17) (lv2 := [(0, .ref a), (1, .int k)]) (st2 := [.int 42, .int k]) rfl ?_
      refine wk_br C d_NM_append_17 (P := k = 42) (tgt := 51) (rest := []) rfl (by decide) (fun d2 => ?_) (fun d2 => ?_)
      ·
        refine wk_run C k_NM_append_51 (pc2 := 52) (lv2 := [(0, .ref a), (1, .int k)]) (st2 := [.ref a]) rfl ?_
        refine wk_get C fd_NM_9 ha rfl d_NM_append_52 ?_
        refine wk_run C k_NM_append_55 (pc2 := 56) (lv2 := [(0, .ref a), (1, .int k)]) (st2 := [.ref a, .ref c]) rfl ?_
        refine wk_get C fd_NM_15 ha rfl d_NM_append_56 ?_
        refine wk_run C k_NM_append_59 (pc2 := 60) (lv2 := [(0, .ref a), (1, .int k)]) (st2 := [.int k, .int (nI n), .ref c]) rfl ?_
        refine wk_iast C hc (vp_in_nI h20 (by omega)) d_NM_append_60 ?_
        rw [nI_clamp (by omega)]
        refine wk_run C k_NM_append_61 (pc2 := 63) (lv2 := [(0, .ref a), (1, .int k)]) (st2 := [.ref a, .ref a]) rfl ?_
        refine wk_get C fd_NM_15 ((hp_un hca).trans ha) rfl d_NM_append_63 ?_
        refine wk_run C k_NM_append_66 (pc2 := 68) (lv2 := [(0, .ref a), (1, .int k)]) (st2 := [.int ((nI n) + 1), .ref a]) rfl ?_
        refine wk_put (fs2 := [.ref c, .int (nI n + 1), .int (nI (nm_s f n)), .int (nI (nm_a f n))]) C fd_NM_15 ((hp_un hca).trans ha) rfl rfl (Nat.le_of_ble_eq_true rfl) rfl d_NM_append_68 ?_
        refine wk_vret C ⟨rfl, fun _ => ?_, fun z => absurd h20 z, ?_⟩ (by decide) (by decide) d_NM_append_71
        · rw [nI_1 n]; exact nm_push ha hg h20 (by rw [nm_s_up, if_pos (Or.inr d2)]; rfl) (by rw [nm_a_up, if_pos (Or.inr d2)]; rfl) hc
        · intro q x q1 q2 hq; rw [hp_un q1, hp_un q2]; exact hq
      ·
        have hw : ¬ (k = 37 ∨ k = 42) := fun z => z.elim d1 d2
        refine wk_run C k_NM_append_20 (pc2 := 22) (lv2 := [(0, .ref a), (1, .int k)]) (st2 := [.ref a, .ref a]) rfl ?_
        refine wk_get C fd_NM_22 ha rfl d_NM_append_22 ?_
        refine wk_run C k_NM_append_25 (pc2 := 26) (lv2 := [(0, .ref a), (1, .int k)]) (st2 := [.ref a, .int (nI (nm_a f n)), .ref a]) rfl ?_
        refine wk_callV (cl := ("ProfileRights$Name", T_NM, 4)) (rest := [.int (nI (nm_a f n)), .ref a]) C (c_NM_isExact l D HB h a c _ _ _ ha) cs_NM_29 kc_NM_isExact ki_NM ha rfl rfl rfl (Nat.le_of_ble_eq_true rfl) (Nat.le_of_ble_eq_true rfl) (Nat.le_of_ble_eq_true rfl) (Nat.le_of_ble_eq_true rfl) (Nat.le_of_ble_eq_true rfl) d_NM_append_26 (fun v h3 hq => ?_) (fun _ _ z => nomatch z.1)
        obtain ⟨e1, e2⟩ := hq; cases e1; replace e2 := e2.symm; subst e2
        refine wk_br C d_NM_append_29 (P := (if nI (nm_s f n) = nI n then (1 : Int32) else 0) = 0) (tgt := 36) (rest := [.int (nI (nm_a f n)), .ref a]) rfl (by decide) (fun d3 => ?_) (fun d3 => ?_)
        rotate_left
        ·
          have hx : nm_s f n = n := Classical.byContradiction (fun z => d3 (if_neg (fun y => z ((nI_eq (by omega) (by omega)).mp y))))
          refine wk_run C k_NM_append_32 (pc2 := 33) (lv2 := [(0, .ref a), (1, .int k)]) (st2 := [.int 1, .int (nI (nm_a f n)), .ref a]) rfl ?_
          refine wk_goto C d_NM_append_33 (tgt := 37) (by decide) ?_
          refine wk_run C k_NM_append_37 (pc2 := 38) (lv2 := [(0, .ref a), (1, .int k)]) (st2 := [.int ((nI (nm_a f n)) + 1), .ref a]) rfl ?_
          refine wk_put (fs2 := [.ref c, .int (nI n), .int (nI (nm_s f n)), .int (nI (nm_a f n) + 1)]) C fd_NM_22 ha rfl rfl (Nat.le_of_ble_eq_true rfl) rfl d_NM_append_38 ?_
          refine wk_run C k_NM_append_41 (pc2 := 43) (lv2 := [(0, .ref a), (1, .int k)]) (st2 := [.ref a, .ref a]) rfl ?_
          refine wk_get C fd_NM_19 hp_us rfl d_NM_append_43 ?_
          refine wk_run C k_NM_append_46 (pc2 := 48) (lv2 := [(0, .ref a), (1, .int k)]) (st2 := [.int ((nI (nm_s f n)) + 1), .ref a]) rfl ?_
          refine wk_put (fs2 := [.ref c, .int (nI n), .int (nI (nm_s f n) + 1), .int (nI (nm_a f n) + 1)]) C fd_NM_19 hp_us rfl rfl (Nat.le_of_ble_eq_true rfl) rfl d_NM_append_48 ?_
          refine Wk.he hp_uu ?_
          refine wk_run C k_NM_append_51 (pc2 := 52) (lv2 := [(0, .ref a), (1, .int k)]) (st2 := [.ref a]) rfl ?_
          refine wk_get C fd_NM_9 hp_us rfl d_NM_append_52 ?_
          refine wk_run C k_NM_append_55 (pc2 := 56) (lv2 := [(0, .ref a), (1, .int k)]) (st2 := [.ref a, .ref c]) rfl ?_
          refine wk_get C fd_NM_15 hp_us rfl d_NM_append_56 ?_
          refine wk_run C k_NM_append_59 (pc2 := 60) (lv2 := [(0, .ref a), (1, .int k)]) (st2 := [.int k, .int (nI n), .ref c]) rfl ?_
          refine wk_iast C ((hp_un (Ne.symm hca)).trans hc) (vp_in_nI h20 (by omega)) d_NM_append_60 ?_
          rw [nI_clamp (by omega)]
          refine wk_run C k_NM_append_61 (pc2 := 63) (lv2 := [(0, .ref a), (1, .int k)]) (st2 := [.ref a, .ref a]) rfl ?_
          refine wk_get C fd_NM_15 ((hp_un hca).trans hp_us) rfl d_NM_append_63 ?_
          refine wk_run C k_NM_append_66 (pc2 := 68) (lv2 := [(0, .ref a), (1, .int k)]) (st2 := [.int ((nI n) + 1), .ref a]) rfl ?_
          refine wk_put (fs2 := [.ref c, .int (nI n + 1), .int (nI (nm_s f n) + 1), .int (nI (nm_a f n) + 1)]) C fd_NM_15 ((hp_un hca).trans hp_us) rfl rfl (Nat.le_of_ble_eq_true rfl) rfl d_NM_append_68 ?_
          refine wk_vret C ⟨rfl, fun _ => ?_, fun z => absurd h20 z, ?_⟩ (by decide) (by decide) d_NM_append_71
          · rw [nI_1 n]; exact nm_push hp_us hg h20 (by rw [nm_s_up, if_neg hw]; exact nI_1 _) (by rw [nm_a_up, if_neg hw, if_pos hx]; exact nI_1 _) ((hp_un (Ne.symm hca)).trans hc)
          · intro q x q1 q2 hq; rw [hp_un q1, hp_un q2, hp_un q1]; exact hq
        ·
          have hx : ¬ nm_s f n = n := fun z => absurd d3 (by rw [if_pos (by rw [z])]; decide)
          refine wk_run C k_NM_append_36 (pc2 := 38) (lv2 := [(0, .ref a), (1, .int k)]) (st2 := [.int ((nI (nm_a f n)) + 0), .ref a]) rfl ?_
          refine wk_put (fs2 := [.ref c, .int (nI n), .int (nI (nm_s f n)), .int (nI (nm_a f n) + 0)]) C fd_NM_22 ha rfl rfl (Nat.le_of_ble_eq_true rfl) rfl d_NM_append_38 ?_
          refine wk_run C k_NM_append_41 (pc2 := 43) (lv2 := [(0, .ref a), (1, .int k)]) (st2 := [.ref a, .ref a]) rfl ?_
          refine wk_get C fd_NM_19 hp_us rfl d_NM_append_43 ?_
          refine wk_run C k_NM_append_46 (pc2 := 48) (lv2 := [(0, .ref a), (1, .int k)]) (st2 := [.int ((nI (nm_s f n)) + 1), .ref a]) rfl ?_
          refine wk_put (fs2 := [.ref c, .int (nI n), .int (nI (nm_s f n) + 1), .int (nI (nm_a f n) + 0)]) C fd_NM_19 hp_us rfl rfl (Nat.le_of_ble_eq_true rfl) rfl d_NM_append_48 ?_
          refine Wk.he hp_uu ?_
          refine wk_run C k_NM_append_51 (pc2 := 52) (lv2 := [(0, .ref a), (1, .int k)]) (st2 := [.ref a]) rfl ?_
          refine wk_get C fd_NM_9 hp_us rfl d_NM_append_52 ?_
          refine wk_run C k_NM_append_55 (pc2 := 56) (lv2 := [(0, .ref a), (1, .int k)]) (st2 := [.ref a, .ref c]) rfl ?_
          refine wk_get C fd_NM_15 hp_us rfl d_NM_append_56 ?_
          refine wk_run C k_NM_append_59 (pc2 := 60) (lv2 := [(0, .ref a), (1, .int k)]) (st2 := [.int k, .int (nI n), .ref c]) rfl ?_
          refine wk_iast C ((hp_un (Ne.symm hca)).trans hc) (vp_in_nI h20 (by omega)) d_NM_append_60 ?_
          rw [nI_clamp (by omega)]
          refine wk_run C k_NM_append_61 (pc2 := 63) (lv2 := [(0, .ref a), (1, .int k)]) (st2 := [.ref a, .ref a]) rfl ?_
          refine wk_get C fd_NM_15 ((hp_un hca).trans hp_us) rfl d_NM_append_63 ?_
          refine wk_run C k_NM_append_66 (pc2 := 68) (lv2 := [(0, .ref a), (1, .int k)]) (st2 := [.int ((nI n) + 1), .ref a]) rfl ?_
          refine wk_put (fs2 := [.ref c, .int (nI n + 1), .int (nI (nm_s f n) + 1), .int (nI (nm_a f n) + 0)]) C fd_NM_15 ((hp_un hca).trans hp_us) rfl rfl (Nat.le_of_ble_eq_true rfl) rfl d_NM_append_68 ?_
          refine wk_vret C ⟨rfl, fun _ => ?_, fun z => absurd h20 z, ?_⟩ (by decide) (by decide) d_NM_append_71
          · rw [nI_1 n]; exact nm_push hp_us hg h20 (by rw [nm_s_up, if_neg hw]; exact nI_1 _) (by rw [nm_a_up, if_neg hw, if_neg hx]; show nI (nm_a f n) + nI 0 = _; exact nI_add _ _) ((hp_un (Ne.symm hca)).trans hc)
          · intro q x q1 q2 hq; rw [hp_un q1, hp_un q2, hp_un q1]; exact hq
