theorem km_max : Cond.code Lib.Math.max.name Lib.Math.max.code 2 (some .int) ∈ kw_L := kw_in 321 (by decide +kernel) (by decide +kernel)
theorem km_maxs : Cond.static Lib.Math.max.name ∈ kw_L := kw_in 320 (by decide +kernel) (by decide +kernel)
theorem km_AS_194 : Cond.methodLink "jdk/internal/util/ArraysSupport" 194 Lib.Math.max.name ∈ kw_L := kw_in 319 (by decide +kernel) (by decide +kernel)
theorem km_AL_79 : Cond.methodLink "java/util/ArrayList" 79 Lib.Math.max.name ∈ kw_L := kw_in 356 (by decide +kernel) (by decide +kernel)
theorem wk_mmax {p : Program} {l : Launch} {e : Env} {R : Room} {s : State} {m : MethodId} {args : Array Value} {below : List Frame} {meth : Method} {c : Code} {Q : State → Prop} {cc : ByteArray} {own : String} {nL : Nat} {ret : Option FieldType} {hh : List (Nat × Nat × Nat × Nat)} {D : va_G} {HB : Heap} {h : hp_T} {cells slots pc : Nat} {lv : List (Nat × Value)} {rest : List Value} (C : wk_C p s m args meth c cc own nL ret hh D HB) {index : Nat} {x y : Int32} (hk : Cond.methodLink own index Lib.Math.max.name ∈ kw_L) (hf : 1 ≤ R.frames) (hlo : (rest.map fun v => v.category).sum + 13 ≤ R.locals) (hc : cells ≤ R.cells) (hs : slots ≤ R.slots) (hd : decode cc pc = .ok (.invokestatic index, 3))
    (kk : Wk p l e R s m args below meth c nL D HB Q h cells slots (pc + 3) lv (.int (if x < y then y else x) :: rest)) : Wk p l e R s m args below meth c nL D HB Q h cells slots pc lv (.int y :: .int x :: rest) :=
  fun H locs ls hP hS hl => va_mmax C.1 C.2.1 (C.2.2.1.trans hl.1.symm) C.ow (C.hts _ hk) (C.hts _ km_maxs) (C.hts _ ki_MA) (C.hts _ km_max) hf hlo hc hs hd (kk H locs ls hP hS hl)
theorem km_min : Cond.code Lib.Math.min.name Lib.Math.min.code 2 (some .int) ∈ kw_L := kw_in 352 (by decide +kernel) (by decide +kernel)
theorem km_mins : Cond.static Lib.Math.min.name ∈ kw_L := kw_in 351 (by decide +kernel) (by decide +kernel)
theorem km_AR_304 : Cond.methodLink "java/util/Arrays" 304 Lib.Math.min.name ∈ kw_L := kw_in 350 (by decide +kernel) (by decide +kernel)
theorem wk_mmin {p : Program} {l : Launch} {e : Env} {R : Room} {s : State} {m : MethodId} {args : Array Value} {below : List Frame} {meth : Method} {c : Code} {Q : State → Prop} {cc : ByteArray} {own : String} {nL : Nat} {ret : Option FieldType} {hh : List (Nat × Nat × Nat × Nat)} {D : va_G} {HB : Heap} {h : hp_T} {cells slots pc : Nat} {lv : List (Nat × Value)} {rest : List Value} (C : wk_C p s m args meth c cc own nL ret hh D HB) {index : Nat} {x y : Int32} (hk : Cond.methodLink own index Lib.Math.min.name ∈ kw_L) (hf : 1 ≤ R.frames) (hlo : (rest.map fun v => v.category).sum + 13 ≤ R.locals) (hc : cells ≤ R.cells) (hs : slots ≤ R.slots) (hd : decode cc pc = .ok (.invokestatic index, 3))
    (kk : Wk p l e R s m args below meth c nL D HB Q h cells slots (pc + 3) lv (.int (if y < x then y else x) :: rest)) : Wk p l e R s m args below meth c nL D HB Q h cells slots pc lv (.int y :: .int x :: rest) :=
  fun H locs ls hP hS hl => va_mmin C.1 C.2.1 (C.2.2.1.trans hl.1.symm) C.ow (C.hts _ hk) (C.hts _ km_mins) (C.hts _ ki_MA) (C.hts _ km_min) hf hlo hc hs hd (kk H locs ls hP hS hl)
theorem k_BC_init_0 : px_dec prog_21_method_1_code [.aload_n 0] 0 = true := by decide +kernel
theorem d_BC_init_1 : decode prog_21_method_1_code 1 = .ok (.invokespecial 1, 3) := by decide +kernel
theorem d_BC_init_4 : decode prog_21_method_1_code 4 = .ok (.return_, 1) := by decide +kernel
set_option maxRecDepth 100000 in
set_option maxHeartbeats 4000000 in
theorem c_BC_init (l : Launch) (D : va_G) (HB : Heap) (h : hp_T) (a : Nat) : ct_M l y_BC_init (.code y_BC_init prog_21_method_1_code 1 (Option.none : Option Jvm.ClassFile.FieldType)) ({ frames := 1, cells := 0, slots := 0, locals := 12 }) D HB [.ref a] h (fun o h2 => o = .inl none ∧ h2 = h) := by
  refine ct_of (by decide) (Nat.le_of_ble_eq_true rfl) rfl ?_
  intro p e s m args below meth c C hnm
  refine wk_run C k_BC_init_0 (pc2 := 1) (lv2 := [(0, .ref a)]) (st2 := [.ref a]) rfl ?_
  refine wk_obj C ml_BC_1 kj_in kj_cd (by decide) (by decide) d_BC_init_1 ?_
  exact wk_vret C ⟨rfl, rfl⟩ (by decide) (by decide) d_BC_init_4
theorem k_BL_init_0 : px_dec prog_22_method_1_code [.aload_n 0] 0 = true := by decide +kernel
theorem d_BL_init_1 : decode prog_22_method_1_code 1 = .ok (.invokespecial 1, 3) := by decide +kernel
theorem k_BL_init_4 : px_dec prog_22_method_1_code [.aload_n 0, .iconst 0] 4 = true := by decide +kernel
theorem d_BL_init_6 : decode prog_22_method_1_code 6 = .ok (.putfield 7, 3) := by decide +kernel
theorem d_BL_init_9 : decode prog_22_method_1_code 9 = .ok (.return_, 1) := by decide +kernel
set_option maxRecDepth 100000 in
set_option maxHeartbeats 4000000 in
theorem c_BL_init (l : Launch) (D : va_G) (HB : Heap) (h : hp_T) (a : Nat) (f0 f2 : Int32) (v1 : Value) (ha : h a = some (.inr (7, [.int f0, v1, .int f2]))) : ct_M l y_BL_init (.code y_BL_init prog_22_method_1_code 1 (Option.none : Option Jvm.ClassFile.FieldType)) ({ frames := 2, cells := 0, slots := 0, locals := 32 }) D HB [.ref a] h (fun o h2 => o = .inl none ∧ h2 = hp_up h a (.inr (7, [.int 0, v1, .int f2]))) := by
  refine ct_of (by decide) (Nat.le_of_ble_eq_true rfl) rfl ?_
  intro p e s m args below meth c C hnm
  refine wk_run C k_BL_init_0 (pc2 := 1) (lv2 := [(0, .ref a)]) (st2 := [.ref a]) rfl ?_
  refine wk_callI (rest := []) C (c_BC_init l D HB h a) cs_BL_1 kc_BC_init ki_BC rfl rfl (Nat.le_of_ble_eq_true rfl) (Nat.le_of_ble_eq_true rfl) (Nat.le_of_ble_eq_true rfl) (Nat.le_of_ble_eq_true rfl) (Nat.le_of_ble_eq_true rfl) d_BL_init_1 (fun v h2 hq => ?_) (fun _ _ z => nomatch z.1)
  obtain ⟨e1, e2⟩ := hq; cases e1; subst e2
  refine wk_run C k_BL_init_4 (pc2 := 6) (lv2 := [(0, .ref a)]) (st2 := [.int 0, .ref a]) rfl ?_
  refine wk_put (fs2 := [.int 0, v1, .int f2]) C fd_BL_7 ha rfl rfl (Nat.le_of_ble_eq_true rfl) rfl d_BL_init_6 ?_
  exact wk_vret C ⟨rfl, rfl⟩ (by decide) (by decide) d_BL_init_9
theorem fs_AL_39 : Cond.fieldLink "java/util/ArrayList" 39 "java/util/ArrayList" "DEFAULTCAPACITY_EMPTY_ELEMENTDATA" "[Ljava/lang/Object;" ∈ kw_L := kw_in 43 (by decide +kernel) (by decide +kernel)
theorem k_AL_init_0 : px_dec prog_23_method_2_code [.aload_n 0] 0 = true := by decide +kernel
theorem d_AL_init_1 : decode prog_23_method_2_code 1 = .ok (.invokespecial 1, 3) := by decide +kernel
theorem k_AL_init_4 : px_dec prog_23_method_2_code [.aload_n 0] 4 = true := by decide +kernel
theorem d_AL_init_5 : decode prog_23_method_2_code 5 = .ok (.getstatic 39, 3) := by decide +kernel
theorem d_AL_init_8 : decode prog_23_method_2_code 8 = .ok (.putfield 9, 3) := by decide +kernel
theorem d_AL_init_11 : decode prog_23_method_2_code 11 = .ok (.return_, 1) := by decide +kernel
set_option maxRecDepth 100000 in
set_option maxHeartbeats 4000000 in
theorem c_AL_init (l : Launch) (D : va_G) (HB : Heap) (h : hp_T) (a : Nat) (f0 f2 : Int32) (v1 : Value) (ha : h a = some (.inr (7, [.int f0, v1, .int f2]))) : ct_M l y_AL_init (.code y_AL_init prog_23_method_2_code 1 (Option.none : Option Jvm.ClassFile.FieldType)) ({ frames := 3, cells := 0, slots := 0, locals := 52 }) D HB [.ref a] h (fun o h2 => o = .inl none ∧ h2 = hp_up h a (.inr (7, [.int 0, .ref (D.2 200 0), .int f2]))) := by
  refine ct_of (by decide) (Nat.le_of_ble_eq_true rfl) rfl ?_
  intro p e s m args below meth c C hnm
  refine wk_run C k_AL_init_0 (pc2 := 1) (lv2 := [(0, .ref a)]) (st2 := [.ref a]) rfl ?_
  refine wk_callI (rest := []) C (c_BL_init l D HB h a f0 f2 v1 ha) cs_AL_1 kc_BL_init ki_BL rfl rfl (Nat.le_of_ble_eq_true rfl) (Nat.le_of_ble_eq_true rfl) (Nat.le_of_ble_eq_true rfl) (Nat.le_of_ble_eq_true rfl) (Nat.le_of_ble_eq_true rfl) d_AL_init_1 (fun v h2 hq => ?_) (fun _ _ z => nomatch z.1)
  obtain ⟨e1, e2⟩ := hq; cases e1; subst e2
  refine wk_run C k_AL_init_4 (pc2 := 5) (lv2 := [(0, .ref a)]) (st2 := [.ref a]) rfl ?_
  refine wk_gets C C.ev.2.2.2.2.1 fs_AL_39 d_AL_init_5 ?_
  refine wk_put (fs2 := [.int 0, .ref (D.2 200 0), .int f2]) C fd_AL_9 hp_us rfl rfl (Nat.le_of_ble_eq_true rfl) rfl d_AL_init_8 ?_
  refine Wk.he hp_uu ?_
  exact wk_vret C ⟨rfl, rfl⟩ (by decide) (by decide) d_AL_init_11
theorem k_AL_size_0 : px_dec prog_23_method_8_code [.aload_n 0] 0 = true := by decide +kernel
theorem d_AL_size_1 : decode prog_23_method_8_code 1 = .ok (.getfield 48, 3) := by decide +kernel
theorem d_AL_size_4 : decode prog_23_method_8_code 4 = .ok (.ireturn, 1) := by decide +kernel
set_option maxRecDepth 100000 in
set_option maxHeartbeats 4000000 in
theorem c_AL_size (l : Launch) (D : va_G) (HB : Heap) (h : hp_T) (a : Nat) (f0 f2 : Int32) (v1 : Value) (ha : h a = some (.inr (7, [.int f0, v1, .int f2]))) : ct_M l y_AL_size (.code y_AL_size prog_23_method_8_code 1 (Option.some Jvm.ClassFile.FieldType.int)) ({ frames := 0, cells := 0, slots := 0, locals := 0 }) D HB [.ref a] h (fun o h2 => o = .inl (some (.int f2)) ∧ h2 = h) := by
  refine ct_of (by decide) (Nat.le_of_ble_eq_true rfl) rfl ?_
  intro p e s m args below meth c C hnm
  refine wk_run C k_AL_size_0 (pc2 := 1) (lv2 := [(0, .ref a)]) (st2 := [.ref a]) rfl ?_
  refine wk_get C fd_AL_48 ha rfl d_AL_size_1 ?_
  exact wk_iret C ⟨rfl, rfl⟩ (by decide) (by decide) d_AL_size_4
theorem k_PC_checkIndex_0 : px_dec prog_31_method_11_code [.iload_n 0] 0 = true := by decide +kernel
theorem d_PC_checkIndex_1 : decode prog_31_method_11_code 1 = .ok (.ifCond .lt 8, 3) := by decide +kernel
theorem k_PC_checkIndex_4 : px_dec prog_31_method_11_code [.iload_n 0, .iload_n 1] 4 = true := by decide +kernel
theorem d_PC_checkIndex_6 : decode prog_31_method_11_code 6 = .ok (.if_icmp .lt 10, 3) := by decide +kernel
theorem k_PC_checkIndex_16 : px_dec prog_31_method_11_code [.iload_n 0] 16 = true := by decide +kernel
theorem d_PC_checkIndex_17 : decode prog_31_method_11_code 17 = .ok (.ireturn, 1) := by decide +kernel
set_option maxRecDepth 100000 in
set_option maxHeartbeats 4000000 in
theorem c_PC_checkIndex (l : Launch) (D : va_G) (HB : Heap) (h : hp_T) (i n : Int32) (h0 : ¬ i < 0) (h1 : i < n) : ct_M l y_PC_checkIndex (.code y_PC_checkIndex prog_31_method_11_code 3 (Option.some Jvm.ClassFile.FieldType.int)) ({ frames := 0, cells := 0, slots := 0, locals := 0 }) D HB [.int i, .int n, .null] h (fun o h2 => o = .inl (some (.int i)) ∧ h2 = h) := by
  refine ct_of (by decide) (Nat.le_of_ble_eq_true rfl) rfl ?_
  intro p e s m args below meth c C hnm
  refine wk_run C k_PC_checkIndex_0 (pc2 := 1) (lv2 := [(0, .int i), (1, .int n), (2, .null)]) (st2 := [.int i]) rfl ?_
  refine wk_br C d_PC_checkIndex_1 (P := i < 0) (tgt := 9) (rest := []) rfl (by decide) (fun c1 => ?_) (fun c1 => ?_)
  · exact absurd c1 h0
  ·
    refine wk_run C k_PC_checkIndex_4 (pc2 := 6) (lv2 := [(0, .int i), (1, .int n), (2, .null)]) (st2 := [.int n, .int i]) rfl ?_
    refine wk_br C d_PC_checkIndex_6 (P := i < n) (tgt := 16) (rest := []) rfl (by decide) (fun c2 => ?_) (fun c2 => ?_)
    ·
      refine wk_run C k_PC_checkIndex_16 (pc2 := 17) (lv2 := [(0, .int i), (1, .int n), (2, .null)]) (st2 := [.int i]) rfl ?_
      exact wk_iret C ⟨rfl, rfl⟩ (by decide) (by decide) d_PC_checkIndex_17
    · exact absurd h1 c2
theorem k_OB_checkIndex_0 : px_dec prog_27_method_17_code [.iload_n 0, .iload_n 1, .aconst_null] 0 = true := by decide +kernel
theorem d_OB_checkIndex_3 : decode prog_27_method_17_code 3 = .ok (.invokestatic 105, 3) := by decide +kernel
theorem d_OB_checkIndex_6 : decode prog_27_method_17_code 6 = .ok (.ireturn, 1) := by decide +kernel
set_option maxRecDepth 100000 in
set_option maxHeartbeats 4000000 in
theorem c_OB_checkIndex (l : Launch) (D : va_G) (HB : Heap) (h : hp_T) (i n : Int32) (h0 : ¬ i < 0) (h1 : i < n) : ct_M l y_OB_checkIndex (.code y_OB_checkIndex prog_27_method_17_code 2 (Option.some Jvm.ClassFile.FieldType.int)) ({ frames := 1, cells := 0, slots := 0, locals := 22 }) D HB [.int i, .int n] h (fun o h2 => o = .inl (some (.int i)) ∧ h2 = h) := by
  refine ct_of (by decide) (Nat.le_of_ble_eq_true rfl) rfl ?_
  intro p e s m args below meth c C hnm
  refine wk_run C k_OB_checkIndex_0 (pc2 := 3) (lv2 := [(0, .int i), (1, .int n)]) (st2 := [.null, .int n, .int i]) rfl ?_
  refine wk_callS (rest := []) C (c_PC_checkIndex l D HB h i n h0 h1) cs_OB_105 kc_PC_checkIndex ki_PC rfl rfl (Nat.le_of_ble_eq_true rfl) (Nat.le_of_ble_eq_true rfl) (Nat.le_of_ble_eq_true rfl) (Nat.le_of_ble_eq_true rfl) (Nat.le_of_ble_eq_true rfl) d_OB_checkIndex_3 (fun v h2 hq => ?_) (fun _ _ z => nomatch z.1)
  obtain ⟨e1, e2⟩ := hq; cases e1; subst e2
  exact wk_iret C ⟨rfl, rfl⟩ (by decide) (by decide) d_OB_checkIndex_6
theorem k_AL_elementData_0 : px_dec prog_23_method_18_code [.aload_n 0] 0 = true := by decide +kernel
theorem d_AL_elementData_1 : decode prog_23_method_18_code 1 = .ok (.getfield 9, 3) := by decide +kernel
theorem k_AL_elementData_4 : px_dec prog_23_method_18_code [.iload_n 1] 4 = true := by decide +kernel
theorem d_AL_elementData_5 : decode prog_23_method_18_code 5 = .ok (.aaload, 1) := by decide +kernel
theorem d_AL_elementData_6 : decode prog_23_method_18_code 6 = .ok (.areturn, 1) := by decide +kernel
set_option maxRecDepth 100000 in
set_option maxHeartbeats 4000000 in
theorem c_AL_elementData (l : Launch) (D : va_G) (HB : Heap) (h : hp_T) (a b cap y : Nat) (f0 f2 i : Int32) (g : Nat → Option Nat) (ha : h a = some (.inr (7, [.int f0, .ref b, .int f2]))) (hb : h b = some (.inl (D.1 102, cap, .inr (.inr (.inr (.inr g)))))) (hi : vp_in i cap) (hy : g i.toNatClampNeg = some y) : ct_M l y_AL_elementData (.code y_AL_elementData prog_23_method_18_code 2 (Option.some (Jvm.ClassFile.FieldType.object "java/lang/Object"))) ({ frames := 0, cells := 0, slots := 0, locals := 0 }) D HB [.ref a, .int i] h (fun o h2 => o = .inl (some (.ref y)) ∧ h2 = h) := by
  refine ct_of (by decide) (Nat.le_of_ble_eq_true rfl) rfl ?_
  intro p e s m args below meth c C hnm
  refine wk_run C k_AL_elementData_0 (pc2 := 1) (lv2 := [(0, .ref a), (1, .int i)]) (st2 := [.ref a]) rfl ?_
  refine wk_get C fd_AL_9 ha rfl d_AL_elementData_1 ?_
  refine wk_run C k_AL_elementData_4 (pc2 := 5) (lv2 := [(0, .ref a), (1, .int i)]) (st2 := [.int i, .ref b]) rfl ?_
  refine wk_aald C hb hi hy d_AL_elementData_5 ?_
  exact wk_aret C rfl (Or.inl ⟨_, rfl⟩) (Or.inr ⟨_, rfl⟩) ⟨rfl, rfl⟩ (by decide) (by decide) d_AL_elementData_6
theorem k_AL_get_0 : px_dec prog_23_method_20_code [.iload_n 1, .aload_n 0] 0 = true := by decide +kernel
theorem d_AL_get_2 : decode prog_23_method_20_code 2 = .ok (.getfield 48, 3) := by decide +kernel
theorem d_AL_get_5 : decode prog_23_method_20_code 5 = .ok (.invokestatic 118, 3) := by decide +kernel
theorem k_AL_get_8 : px_dec prog_23_method_20_code [.pop, .aload_n 0, .iload_n 1] 8 = true := by decide +kernel
theorem d_AL_get_11 : decode prog_23_method_20_code 11 = .ok (.invokevirtual 123, 3) := by decide +kernel
theorem d_AL_get_14 : decode prog_23_method_20_code 14 = .ok (.areturn, 1) := by decide +kernel
set_option maxRecDepth 100000 in
set_option maxHeartbeats 4000000 in
theorem c_AL_get (l : Launch) (D : va_G) (HB : Heap) (h : hp_T) (a b cap y : Nat) (f0 f2 i : Int32) (g : Nat → Option Nat) (ha : h a = some (.inr (7, [.int f0, .ref b, .int f2]))) (hb : h b = some (.inl (D.1 102, cap, .inr (.inr (.inr (.inr g)))))) (hi : vp_in i cap) (hy : g i.toNatClampNeg = some y) (h0 : ¬ i < 0) (h1 : i < f2) : ct_M l y_AL_get (.code y_AL_get prog_23_method_20_code 2 (Option.some (Jvm.ClassFile.FieldType.object "java/lang/Object"))) ({ frames := 2, cells := 0, slots := 0, locals := 43 }) D HB [.ref a, .int i] h (fun o h2 => o = .inl (some (.ref y)) ∧ h2 = h) := by
  refine ct_of (by decide) (Nat.le_of_ble_eq_true rfl) rfl ?_
  intro p e s m args below meth c C hnm
  refine wk_run C k_AL_get_0 (pc2 := 2) (lv2 := [(0, .ref a), (1, .int i)]) (st2 := [.ref a, .int i]) rfl ?_
  refine wk_get C fd_AL_48 ha rfl d_AL_get_2 ?_
  refine wk_callS (rest := []) C (c_OB_checkIndex l D HB h i f2 h0 h1) cs_AL_118 kc_OB_checkIndex ki_OB rfl rfl (Nat.le_of_ble_eq_true rfl) (Nat.le_of_ble_eq_true rfl) (Nat.le_of_ble_eq_true rfl) (Nat.le_of_ble_eq_true rfl) (Nat.le_of_ble_eq_true rfl) d_AL_get_5 (fun v h2 hq => ?_) (fun _ _ z => nomatch z.1)
  obtain ⟨e1, e2⟩ := hq; cases e1; subst e2
  refine wk_run C k_AL_get_8 (pc2 := 11) (lv2 := [(0, .ref a), (1, .int i)]) (st2 := [.int i, .ref a]) rfl ?_
  refine wk_callV (cl := ("java/util/ArrayList", T_AL, 3)) (rest := []) C (c_AL_elementData l D HB h2 a b cap y f0 f2 i g ha hb hi hy) cs_AL_123 kc_AL_elementData ki_AL ha rfl rfl rfl (Nat.le_of_ble_eq_true rfl) (Nat.le_of_ble_eq_true rfl) (Nat.le_of_ble_eq_true rfl) (Nat.le_of_ble_eq_true rfl) (Nat.le_of_ble_eq_true rfl) d_AL_get_11 (fun v h2 hq => ?_) (fun _ _ z => nomatch z.1)
  obtain ⟨e1, e2⟩ := hq; cases e1; subst e2
  exact wk_aret C rfl (Or.inl ⟨_, rfl⟩) (Or.inr ⟨_, rfl⟩) ⟨rfl, rfl⟩ (by decide) (by decide) d_AL_get_14
