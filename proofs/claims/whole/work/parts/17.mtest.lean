theorem bz_ {P : Prop} [Decidable P] (h : (if P then (1 : Int32) else 0) = 0) : ¬ P := fun z => by rw [if_pos z] at h; exact absurd h (by decide)
theorem bn_ {P : Prop} [Decidable P] (h : ¬ (if P then (1 : Int32) else 0) = 0) : P := Classical.byContradiction (fun z => h (if_neg z))
theorem nb_z {x : Int32} (h : x = 0 ∨ x = 1) : narrow .boolean (.int x) = .int x := by rcases h with rfl | rfl <;> rfl
theorem nb_i {P : Prop} [Decidable P] : narrow .boolean (.int (if P then (1 : Int32) else 0)) = .int (if P then (1 : Int32) else 0) := by split <;> rfl
theorem vn_z {x : Int32} (h : x = 0 ∨ x = 1) : vp_nar .boolean x = x := by rcases h with rfl | rfl <;> rfl

theorem k_MD_isGroup_0 : px_dec prog_9_method_4_code [.iload_n 1, .iconst 1] 0 = true := by decide +kernel
theorem d_MD_isGroup_2 : decode prog_9_method_4_code 2 = .ok (.if_icmp .lt 15, 3) := by decide +kernel
theorem k_MD_isGroup_17 : px_dec prog_9_method_4_code [.iconst 0] 17 = true := by decide +kernel
theorem d_MD_isGroup_18 : decode prog_9_method_4_code 18 = .ok (.ireturn, 1) := by decide +kernel
theorem k_MD_isGroup_5 : px_dec prog_9_method_4_code [.iload_n 1, .aload_n 0] 5 = true := by decide +kernel
theorem d_MD_isGroup_7 : decode prog_9_method_4_code 7 = .ok (.getfield 75, 3) := by decide +kernel
theorem d_MD_isGroup_10 : decode prog_9_method_4_code 10 = .ok (.if_icmp .gt 7, 3) := by decide +kernel
theorem k_MD_isGroup_13 : px_dec prog_9_method_4_code [.iconst 1] 13 = true := by decide +kernel
theorem d_MD_isGroup_14 : decode prog_9_method_4_code 14 = .ok (.goto 4, 3) := by decide +kernel
set_option maxRecDepth 100000 in
set_option maxHeartbeats 4000000 in
theorem c_MD_isGroup (l : Launch) (D : va_G) (HB : Heap) (h : hp_T) (h0 : hp_T) (y : Nat) (A : Nat → Nat) (V : vT) (x : Int32) (hM : mq D h0 h y A V) : ct_M l y_MD_isGroup (.code y_MD_isGroup prog_9_method_4_code 2 (Option.some Jvm.ClassFile.FieldType.boolean)) ({ frames := 0, cells := 0, slots := 0, locals := 0 }) D HB [.ref y, .int x] h (fun o h2 => o = .inl (some (.int (if ¬ x < 1 ∧ x ≤ V 7 0 then (1 : Int32) else 0))) ∧ h2 = h) := by
  refine ct_of (by decide) (Nat.le_of_ble_eq_true rfl) rfl ?_
  intro p_ e_ s_ m_ r_ b_ t_ c_ C hnm
  refine wk_run C k_MD_isGroup_0 (pc2 := 2) (lv2 := [(0, .ref y), (1, .int x)]) (st2 := [.int 1, .int x]) rfl ?_
  refine wk_br C d_MD_isGroup_2 (P := x < 1) (tgt := 17) (rest := []) rfl (by decide) (fun c1 => ?_) (fun c1 => ?_)
  ·
    refine wk_run C k_MD_isGroup_17 (pc2 := 18) (lv2 := [(0, .ref y), (1, .int x)]) (st2 := [.int 0]) rfl ?_
    exact wk_zret C rfl ⟨by rw [if_neg (by grind)], rfl⟩ (by decide) (by decide) d_MD_isGroup_18
  ·
    refine wk_run C k_MD_isGroup_5 (pc2 := 7) (lv2 := [(0, .ref y), (1, .int x)]) (st2 := [.ref y, .int x]) rfl ?_
    refine wk_get (v := .int (V 7 0)) C fd_MD_75 hM.ob rfl d_MD_isGroup_7 ?_
    refine wk_br C d_MD_isGroup_10 (P := (V 7 0) < x) (tgt := 17) (rest := []) rfl (by decide) (fun c2 => ?_) (fun c2 => ?_)
    ·
      refine wk_run C k_MD_isGroup_17 (pc2 := 18) (lv2 := [(0, .ref y), (1, .int x)]) (st2 := [.int 0]) rfl ?_
      exact wk_zret C rfl ⟨by rw [if_neg (by grind)], rfl⟩ (by decide) (by decide) d_MD_isGroup_18
    ·
      refine wk_run C k_MD_isGroup_13 (pc2 := 14) (lv2 := [(0, .ref y), (1, .int x)]) (st2 := [.int 1]) rfl ?_
      refine wk_goto C d_MD_isGroup_14 (tgt := 18) (by decide) ?_
      exact wk_zret C rfl ⟨by rw [if_pos (by grind)], rfl⟩ (by decide) (by decide) d_MD_isGroup_18
theorem k_MD_isUser_0 : px_dec prog_9_method_5_code [.iload_n 1, .iconst 1] 0 = true := by decide +kernel
theorem d_MD_isUser_2 : decode prog_9_method_5_code 2 = .ok (.if_icmp .lt 15, 3) := by decide +kernel
theorem k_MD_isUser_17 : px_dec prog_9_method_5_code [.iconst 0] 17 = true := by decide +kernel
theorem d_MD_isUser_18 : decode prog_9_method_5_code 18 = .ok (.ireturn, 1) := by decide +kernel
theorem k_MD_isUser_5 : px_dec prog_9_method_5_code [.iload_n 1, .aload_n 0] 5 = true := by decide +kernel
theorem d_MD_isUser_7 : decode prog_9_method_5_code 7 = .ok (.getfield 78, 3) := by decide +kernel
theorem d_MD_isUser_10 : decode prog_9_method_5_code 10 = .ok (.if_icmp .gt 7, 3) := by decide +kernel
theorem k_MD_isUser_13 : px_dec prog_9_method_5_code [.iconst 1] 13 = true := by decide +kernel
theorem d_MD_isUser_14 : decode prog_9_method_5_code 14 = .ok (.goto 4, 3) := by decide +kernel
set_option maxRecDepth 100000 in
set_option maxHeartbeats 4000000 in
theorem c_MD_isUser (l : Launch) (D : va_G) (HB : Heap) (h : hp_T) (h0 : hp_T) (y : Nat) (A : Nat → Nat) (V : vT) (x : Int32) (hM : mq D h0 h y A V) : ct_M l y_MD_isUser (.code y_MD_isUser prog_9_method_5_code 2 (Option.some Jvm.ClassFile.FieldType.boolean)) ({ frames := 0, cells := 0, slots := 0, locals := 0 }) D HB [.ref y, .int x] h (fun o h2 => o = .inl (some (.int (if ¬ x < 1 ∧ x ≤ V 8 0 then (1 : Int32) else 0))) ∧ h2 = h) := by
  refine ct_of (by decide) (Nat.le_of_ble_eq_true rfl) rfl ?_
  intro p_ e_ s_ m_ r_ b_ t_ c_ C hnm
  refine wk_run C k_MD_isUser_0 (pc2 := 2) (lv2 := [(0, .ref y), (1, .int x)]) (st2 := [.int 1, .int x]) rfl ?_
  refine wk_br C d_MD_isUser_2 (P := x < 1) (tgt := 17) (rest := []) rfl (by decide) (fun c1 => ?_) (fun c1 => ?_)
  ·
    refine wk_run C k_MD_isUser_17 (pc2 := 18) (lv2 := [(0, .ref y), (1, .int x)]) (st2 := [.int 0]) rfl ?_
    exact wk_zret C rfl ⟨by rw [if_neg (by grind)], rfl⟩ (by decide) (by decide) d_MD_isUser_18
  ·
    refine wk_run C k_MD_isUser_5 (pc2 := 7) (lv2 := [(0, .ref y), (1, .int x)]) (st2 := [.ref y, .int x]) rfl ?_
    refine wk_get (v := .int (V 8 0)) C fd_MD_78 hM.ob rfl d_MD_isUser_7 ?_
    refine wk_br C d_MD_isUser_10 (P := (V 8 0) < x) (tgt := 17) (rest := []) rfl (by decide) (fun c2 => ?_) (fun c2 => ?_)
    ·
      refine wk_run C k_MD_isUser_17 (pc2 := 18) (lv2 := [(0, .ref y), (1, .int x)]) (st2 := [.int 0]) rfl ?_
      exact wk_zret C rfl ⟨by rw [if_neg (by grind)], rfl⟩ (by decide) (by decide) d_MD_isUser_18
    ·
      refine wk_run C k_MD_isUser_13 (pc2 := 14) (lv2 := [(0, .ref y), (1, .int x)]) (st2 := [.int 1]) rfl ?_
      refine wk_goto C d_MD_isUser_14 (tgt := 18) (by decide) ?_
      exact wk_zret C rfl ⟨by rw [if_pos (by grind)], rfl⟩ (by decide) (by decide) d_MD_isUser_18
theorem k_MD_isProfile_0 : px_dec prog_9_method_6_code [.iload_n 1, .iconst 1] 0 = true := by decide +kernel
theorem d_MD_isProfile_2 : decode prog_9_method_6_code 2 = .ok (.if_icmp .lt 15, 3) := by decide +kernel
theorem k_MD_isProfile_17 : px_dec prog_9_method_6_code [.iconst 0] 17 = true := by decide +kernel
theorem d_MD_isProfile_18 : decode prog_9_method_6_code 18 = .ok (.ireturn, 1) := by decide +kernel
theorem k_MD_isProfile_5 : px_dec prog_9_method_6_code [.iload_n 1, .aload_n 0] 5 = true := by decide +kernel
theorem d_MD_isProfile_7 : decode prog_9_method_6_code 7 = .ok (.getfield 81, 3) := by decide +kernel
theorem d_MD_isProfile_10 : decode prog_9_method_6_code 10 = .ok (.if_icmp .gt 7, 3) := by decide +kernel
theorem k_MD_isProfile_13 : px_dec prog_9_method_6_code [.iconst 1] 13 = true := by decide +kernel
theorem d_MD_isProfile_14 : decode prog_9_method_6_code 14 = .ok (.goto 4, 3) := by decide +kernel
set_option maxRecDepth 100000 in
set_option maxHeartbeats 4000000 in
theorem c_MD_isProfile (l : Launch) (D : va_G) (HB : Heap) (h : hp_T) (h0 : hp_T) (y : Nat) (A : Nat → Nat) (V : vT) (x : Int32) (hM : mq D h0 h y A V) : ct_M l y_MD_isProfile (.code y_MD_isProfile prog_9_method_6_code 2 (Option.some Jvm.ClassFile.FieldType.boolean)) ({ frames := 0, cells := 0, slots := 0, locals := 0 }) D HB [.ref y, .int x] h (fun o h2 => o = .inl (some (.int (if ¬ x < 1 ∧ x ≤ V 9 0 then (1 : Int32) else 0))) ∧ h2 = h) := by
  refine ct_of (by decide) (Nat.le_of_ble_eq_true rfl) rfl ?_
  intro p_ e_ s_ m_ r_ b_ t_ c_ C hnm
  refine wk_run C k_MD_isProfile_0 (pc2 := 2) (lv2 := [(0, .ref y), (1, .int x)]) (st2 := [.int 1, .int x]) rfl ?_
  refine wk_br C d_MD_isProfile_2 (P := x < 1) (tgt := 17) (rest := []) rfl (by decide) (fun c1 => ?_) (fun c1 => ?_)
  ·
    refine wk_run C k_MD_isProfile_17 (pc2 := 18) (lv2 := [(0, .ref y), (1, .int x)]) (st2 := [.int 0]) rfl ?_
    exact wk_zret C rfl ⟨by rw [if_neg (by grind)], rfl⟩ (by decide) (by decide) d_MD_isProfile_18
  ·
    refine wk_run C k_MD_isProfile_5 (pc2 := 7) (lv2 := [(0, .ref y), (1, .int x)]) (st2 := [.ref y, .int x]) rfl ?_
    refine wk_get (v := .int (V 9 0)) C fd_MD_81 hM.ob rfl d_MD_isProfile_7 ?_
    refine wk_br C d_MD_isProfile_10 (P := (V 9 0) < x) (tgt := 17) (rest := []) rfl (by decide) (fun c2 => ?_) (fun c2 => ?_)
    ·
      refine wk_run C k_MD_isProfile_17 (pc2 := 18) (lv2 := [(0, .ref y), (1, .int x)]) (st2 := [.int 0]) rfl ?_
      exact wk_zret C rfl ⟨by rw [if_neg (by grind)], rfl⟩ (by decide) (by decide) d_MD_isProfile_18
    ·
      refine wk_run C k_MD_isProfile_13 (pc2 := 14) (lv2 := [(0, .ref y), (1, .int x)]) (st2 := [.int 1]) rfl ?_
      refine wk_goto C d_MD_isProfile_14 (tgt := 18) (by decide) ?_
      exact wk_zret C rfl ⟨by rw [if_pos (by grind)], rfl⟩ (by decide) (by decide) d_MD_isProfile_18
theorem k_MD_isClass_0 : px_dec prog_9_method_7_code [.iload_n 0] 0 = true := by decide +kernel
theorem d_MD_isClass_1 : decode prog_9_method_7_code 1 = .ok (.ifCond .lt 13, 3) := by decide +kernel
theorem k_MD_isClass_14 : px_dec prog_9_method_7_code [.iconst 0] 14 = true := by decide +kernel
theorem d_MD_isClass_15 : decode prog_9_method_7_code 15 = .ok (.ireturn, 1) := by decide +kernel
theorem k_MD_isClass_4 : px_dec prog_9_method_7_code [.iload_n 0, .bipush 8] 4 = true := by decide +kernel
theorem d_MD_isClass_7 : decode prog_9_method_7_code 7 = .ok (.if_icmp .ge 7, 3) := by decide +kernel
theorem k_MD_isClass_10 : px_dec prog_9_method_7_code [.iconst 1] 10 = true := by decide +kernel
theorem d_MD_isClass_11 : decode prog_9_method_7_code 11 = .ok (.goto 4, 3) := by decide +kernel
set_option maxRecDepth 100000 in
set_option maxHeartbeats 4000000 in
theorem c_MD_isClass (l : Launch) (D : va_G) (HB : Heap) (h : hp_T) (x : Int32) : ct_M l y_MD_isClass (.code y_MD_isClass prog_9_method_7_code 1 (Option.some Jvm.ClassFile.FieldType.boolean)) ({ frames := 0, cells := 0, slots := 0, locals := 0 }) D HB [.int x] h (fun o h2 => o = .inl (some (.int (if ¬ x < 0 ∧ x < 8 then (1 : Int32) else 0))) ∧ h2 = h) := by
  refine ct_of (by decide) (Nat.le_of_ble_eq_true rfl) rfl ?_
  intro p_ e_ s_ m_ r_ b_ t_ c_ C hnm
  refine wk_run C k_MD_isClass_0 (pc2 := 1) (lv2 := [(0, .int x)]) (st2 := [.int x]) rfl ?_
  refine wk_br C d_MD_isClass_1 (P := x < 0) (tgt := 14) (rest := []) rfl (by decide) (fun c1 => ?_) (fun c1 => ?_)
  ·
    refine wk_run C k_MD_isClass_14 (pc2 := 15) (lv2 := [(0, .int x)]) (st2 := [.int 0]) rfl ?_
    exact wk_zret C rfl ⟨by rw [if_neg (by grind)], rfl⟩ (by decide) (by decide) d_MD_isClass_15
  ·
    refine wk_run C k_MD_isClass_4 (pc2 := 7) (lv2 := [(0, .int x)]) (st2 := [.int 8, .int x]) rfl ?_
    refine wk_br C d_MD_isClass_7 (P := 8 ≤ x) (tgt := 14) (rest := []) rfl (by decide) (fun c2 => ?_) (fun c2 => ?_)
    ·
      refine wk_run C k_MD_isClass_14 (pc2 := 15) (lv2 := [(0, .int x)]) (st2 := [.int 0]) rfl ?_
      exact wk_zret C rfl ⟨by rw [if_neg (by grind)], rfl⟩ (by decide) (by decide) d_MD_isClass_15
    ·
      refine wk_run C k_MD_isClass_10 (pc2 := 11) (lv2 := [(0, .int x)]) (st2 := [.int 1]) rfl ?_
      refine wk_goto C d_MD_isClass_11 (tgt := 15) (by decide) ?_
      exact wk_zret C rfl ⟨by rw [if_pos (by grind)], rfl⟩ (by decide) (by decide) d_MD_isClass_15
theorem k_MD_isSign_0 : px_dec prog_9_method_8_code [.iload_n 0, .bipush 33] 0 = true := by decide +kernel
theorem d_MD_isSign_3 : decode prog_9_method_8_code 3 = .ok (.if_icmp .lt 13, 3) := by decide +kernel
theorem k_MD_isSign_16 : px_dec prog_9_method_8_code [.iconst 0] 16 = true := by decide +kernel
theorem d_MD_isSign_17 : decode prog_9_method_8_code 17 = .ok (.ireturn, 1) := by decide +kernel
theorem k_MD_isSign_6 : px_dec prog_9_method_8_code [.iload_n 0, .bipush 126] 6 = true := by decide +kernel
theorem d_MD_isSign_9 : decode prog_9_method_8_code 9 = .ok (.if_icmp .gt 7, 3) := by decide +kernel
theorem k_MD_isSign_12 : px_dec prog_9_method_8_code [.iconst 1] 12 = true := by decide +kernel
theorem d_MD_isSign_13 : decode prog_9_method_8_code 13 = .ok (.goto 4, 3) := by decide +kernel
set_option maxRecDepth 100000 in
set_option maxHeartbeats 4000000 in
theorem c_MD_isSign (l : Launch) (D : va_G) (HB : Heap) (h : hp_T) (x : Int32) : ct_M l y_MD_isSign (.code y_MD_isSign prog_9_method_8_code 1 (Option.some Jvm.ClassFile.FieldType.boolean)) ({ frames := 0, cells := 0, slots := 0, locals := 0 }) D HB [.int x] h (fun o h2 => o = .inl (some (.int (if ¬ x < 33 ∧ ¬ 126 < x then (1 : Int32) else 0))) ∧ h2 = h) := by
  refine ct_of (by decide) (Nat.le_of_ble_eq_true rfl) rfl ?_
  intro p_ e_ s_ m_ r_ b_ t_ c_ C hnm
  refine wk_run C k_MD_isSign_0 (pc2 := 3) (lv2 := [(0, .int x)]) (st2 := [.int 33, .int x]) rfl ?_
  refine wk_br C d_MD_isSign_3 (P := x < 33) (tgt := 16) (rest := []) rfl (by decide) (fun c1 => ?_) (fun c1 => ?_)
  ·
    refine wk_run C k_MD_isSign_16 (pc2 := 17) (lv2 := [(0, .int x)]) (st2 := [.int 0]) rfl ?_
    exact wk_zret C rfl ⟨by rw [if_neg (by grind)], rfl⟩ (by decide) (by decide) d_MD_isSign_17
  ·
    refine wk_run C k_MD_isSign_6 (pc2 := 9) (lv2 := [(0, .int x)]) (st2 := [.int 126, .int x]) rfl ?_
    refine wk_br C d_MD_isSign_9 (P := 126 < x) (tgt := 16) (rest := []) rfl (by decide) (fun c2 => ?_) (fun c2 => ?_)
    ·
      refine wk_run C k_MD_isSign_16 (pc2 := 17) (lv2 := [(0, .int x)]) (st2 := [.int 0]) rfl ?_
      exact wk_zret C rfl ⟨by rw [if_neg (by grind)], rfl⟩ (by decide) (by decide) d_MD_isSign_17
    ·
      refine wk_run C k_MD_isSign_12 (pc2 := 13) (lv2 := [(0, .int x)]) (st2 := [.int 1]) rfl ?_
      refine wk_goto C d_MD_isSign_13 (tgt := 17) (by decide) ?_
      exact wk_zret C rfl ⟨by rw [if_pos (by grind)], rfl⟩ (by decide) (by decide) d_MD_isSign_17
theorem k_MD_isTerminal_0 : px_dec prog_9_method_9_code [.iload_n 0] 0 = true := by decide +kernel
theorem d_MD_isTerminal_1 : decode prog_9_method_9_code 1 = .ok (.ifCond .lt 13, 3) := by decide +kernel
theorem k_MD_isTerminal_14 : px_dec prog_9_method_9_code [.iconst 0] 14 = true := by decide +kernel
theorem d_MD_isTerminal_15 : decode prog_9_method_9_code 15 = .ok (.ireturn, 1) := by decide +kernel
theorem k_MD_isTerminal_4 : px_dec prog_9_method_9_code [.iload_n 0, .bipush 100] 4 = true := by decide +kernel
theorem d_MD_isTerminal_7 : decode prog_9_method_9_code 7 = .ok (.if_icmp .ge 7, 3) := by decide +kernel
theorem k_MD_isTerminal_10 : px_dec prog_9_method_9_code [.iconst 1] 10 = true := by decide +kernel
theorem d_MD_isTerminal_11 : decode prog_9_method_9_code 11 = .ok (.goto 4, 3) := by decide +kernel
set_option maxRecDepth 100000 in
set_option maxHeartbeats 4000000 in
theorem c_MD_isTerminal (l : Launch) (D : va_G) (HB : Heap) (h : hp_T) (x : Int32) : ct_M l y_MD_isTerminal (.code y_MD_isTerminal prog_9_method_9_code 1 (Option.some Jvm.ClassFile.FieldType.boolean)) ({ frames := 0, cells := 0, slots := 0, locals := 0 }) D HB [.int x] h (fun o h2 => o = .inl (some (.int (if ¬ x < 0 ∧ x < 100 then (1 : Int32) else 0))) ∧ h2 = h) := by
  refine ct_of (by decide) (Nat.le_of_ble_eq_true rfl) rfl ?_
  intro p_ e_ s_ m_ r_ b_ t_ c_ C hnm
  refine wk_run C k_MD_isTerminal_0 (pc2 := 1) (lv2 := [(0, .int x)]) (st2 := [.int x]) rfl ?_
  refine wk_br C d_MD_isTerminal_1 (P := x < 0) (tgt := 14) (rest := []) rfl (by decide) (fun c1 => ?_) (fun c1 => ?_)
  ·
    refine wk_run C k_MD_isTerminal_14 (pc2 := 15) (lv2 := [(0, .int x)]) (st2 := [.int 0]) rfl ?_
    exact wk_zret C rfl ⟨by rw [if_neg (by grind)], rfl⟩ (by decide) (by decide) d_MD_isTerminal_15
  ·
    refine wk_run C k_MD_isTerminal_4 (pc2 := 7) (lv2 := [(0, .int x)]) (st2 := [.int 100, .int x]) rfl ?_
    refine wk_br C d_MD_isTerminal_7 (P := 100 ≤ x) (tgt := 14) (rest := []) rfl (by decide) (fun c2 => ?_) (fun c2 => ?_)
    ·
      refine wk_run C k_MD_isTerminal_14 (pc2 := 15) (lv2 := [(0, .int x)]) (st2 := [.int 0]) rfl ?_
      exact wk_zret C rfl ⟨by rw [if_neg (by grind)], rfl⟩ (by decide) (by decide) d_MD_isTerminal_15
    ·
      refine wk_run C k_MD_isTerminal_10 (pc2 := 11) (lv2 := [(0, .int x)]) (st2 := [.int 1]) rfl ?_
      refine wk_goto C d_MD_isTerminal_11 (tgt := 15) (by decide) ?_
      exact wk_zret C rfl ⟨by rw [if_pos (by grind)], rfl⟩ (by decide) (by decide) d_MD_isTerminal_15
theorem k_MD_isWild_0 : px_dec prog_9_method_29_code [.iload_n 0, .bipush 37] 0 = true := by decide +kernel
theorem d_MD_isWild_3 : decode prog_9_method_29_code 3 = .ok (.if_icmp .eq 9, 3) := by decide +kernel
theorem k_MD_isWild_12 : px_dec prog_9_method_29_code [.iconst 1] 12 = true := by decide +kernel
theorem d_MD_isWild_13 : decode prog_9_method_29_code 13 = .ok (.goto 4, 3) := by decide +kernel
theorem d_MD_isWild_17 : decode prog_9_method_29_code 17 = .ok (.ireturn, 1) := by decide +kernel
theorem k_MD_isWild_6 : px_dec prog_9_method_29_code [.iload_n 0, .bipush 42] 6 = true := by decide +kernel
theorem d_MD_isWild_9 : decode prog_9_method_29_code 9 = .ok (.if_icmp .ne 7, 3) := by decide +kernel
theorem k_MD_isWild_16 : px_dec prog_9_method_29_code [.iconst 0] 16 = true := by decide +kernel
set_option maxRecDepth 100000 in
set_option maxHeartbeats 4000000 in
theorem c_MD_isWild (l : Launch) (D : va_G) (HB : Heap) (h : hp_T) (x : Int32) : ct_M l y_MD_isWild (.code y_MD_isWild prog_9_method_29_code 1 (Option.some Jvm.ClassFile.FieldType.boolean)) ({ frames := 0, cells := 0, slots := 0, locals := 0 }) D HB [.int x] h (fun o h2 => o = .inl (some (.int (if x = 37 ∨ x = 42 then (1 : Int32) else 0))) ∧ h2 = h) := by
  refine ct_of (by decide) (Nat.le_of_ble_eq_true rfl) rfl ?_
  intro p_ e_ s_ m_ r_ b_ t_ c_ C hnm
  refine wk_run C k_MD_isWild_0 (pc2 := 3) (lv2 := [(0, .int x)]) (st2 := [.int 37, .int x]) rfl ?_
  refine wk_br C d_MD_isWild_3 (P := x = 37) (tgt := 12) (rest := []) rfl (by decide) (fun c1 => ?_) (fun c1 => ?_)
  ·
    refine wk_run C k_MD_isWild_12 (pc2 := 13) (lv2 := [(0, .int x)]) (st2 := [.int 1]) rfl ?_
    refine wk_goto C d_MD_isWild_13 (tgt := 17) (by decide) ?_
    exact wk_zret C rfl ⟨by rw [if_pos (by grind)], rfl⟩ (by decide) (by decide) d_MD_isWild_17
  ·
    refine wk_run C k_MD_isWild_6 (pc2 := 9) (lv2 := [(0, .int x)]) (st2 := [.int 42, .int x]) rfl ?_
    refine wk_br C d_MD_isWild_9 (P := ¬ x = 42) (tgt := 16) (rest := []) rfl (by decide) (fun c2 => ?_) (fun c2 => ?_)
    ·
      refine wk_run C k_MD_isWild_16 (pc2 := 17) (lv2 := [(0, .int x)]) (st2 := [.int 0]) rfl ?_
      exact wk_zret C rfl ⟨by rw [if_neg (by grind)], rfl⟩ (by decide) (by decide) d_MD_isWild_17
    ·
      refine wk_run C k_MD_isWild_12 (pc2 := 13) (lv2 := [(0, .int x)]) (st2 := [.int 1]) rfl ?_
      refine wk_goto C d_MD_isWild_13 (tgt := 17) (by decide) ?_
      exact wk_zret C rfl ⟨by rw [if_pos (by grind)], rfl⟩ (by decide) (by decide) d_MD_isWild_17
/-- a holder: a user above 0, else a group -/
abbrev ho_ (V : vT) (x : Int32) : Prop := (0 < x ∧ ¬ x < 1 ∧ x ≤ V 8 0) ∨ (¬ 0 < x ∧ ¬ 0 - x < 1 ∧ 0 - x ≤ V 7 0)
theorem k_MD_isWho_0 : px_dec prog_9_method_22_code [.iload_n 1] 0 = true := by decide +kernel
theorem d_MD_isWho_1 : decode prog_9_method_22_code 1 = .ok (.ifCond .le 11, 3) := by decide +kernel
theorem k_MD_isWho_12 : px_dec prog_9_method_22_code [.aload_n 0, .iconst 0, .iload_n 1, .isub] 12 = true := by decide +kernel
theorem d_MD_isWho_16 : decode prog_9_method_22_code 16 = .ok (.invokevirtual 84, 3) := by decide +kernel
theorem d_MD_isWho_19 : decode prog_9_method_22_code 19 = .ok (.ireturn, 1) := by decide +kernel
theorem k_MD_isWho_4 : px_dec prog_9_method_22_code [.aload_n 0, .iload_n 1] 4 = true := by decide +kernel
theorem d_MD_isWho_6 : decode prog_9_method_22_code 6 = .ok (.invokevirtual 92, 3) := by decide +kernel
theorem d_MD_isWho_9 : decode prog_9_method_22_code 9 = .ok (.goto 10, 3) := by decide +kernel
set_option maxRecDepth 100000 in
set_option maxHeartbeats 4000000 in
theorem c_MD_isWho (l : Launch) (D : va_G) (HB : Heap) (h : hp_T) (h0 : hp_T) (y : Nat) (A : Nat → Nat) (V : vT) (x : Int32) (hM : mq D h0 h y A V) : ct_M l y_MD_isWho (.code y_MD_isWho prog_9_method_22_code 2 (Option.some Jvm.ClassFile.FieldType.boolean)) ({ frames := 1, cells := 0, slots := 0, locals := 24 }) D HB [.ref y, .int x] h (fun o h2 => o = .inl (some (.int (if ho_ V x then (1 : Int32) else 0))) ∧ h2 = h) := by
  refine ct_of (by decide) (Nat.le_of_ble_eq_true rfl) rfl ?_
  intro p_ e_ s_ m_ r_ b_ t_ c_ C hnm
  refine wk_run C k_MD_isWho_0 (pc2 := 1) (lv2 := [(0, .ref y), (1, .int x)]) (st2 := [.int x]) rfl ?_
  refine wk_br C d_MD_isWho_1 (P := x ≤ 0) (tgt := 12) (rest := []) rfl (by decide) (fun c1 => ?_) (fun c1 => ?_)
  ·
    refine wk_run C k_MD_isWho_12 (pc2 := 16) (lv2 := [(0, .ref y), (1, .int x)]) (st2 := [.int (0 - x), .ref y]) rfl ?_
    refine wk_callV (cl := ("ProfileRightsModel", T_MD, 27)) (rest := []) C (c_MD_isGroup l D HB h h0 y A (V) (0 - x) hM) cs_MD_84 kc_MD_isGroup ki_MD hM.ob rfl rfl rfl (Nat.le_of_ble_eq_true rfl) (Nat.le_of_ble_eq_true rfl) (Nat.le_of_ble_eq_true rfl) (Nat.le_of_ble_eq_true rfl) (Nat.le_of_ble_eq_true rfl) d_MD_isWho_16 (fun v h2 hq => ?_) (fun _ _ z => nomatch z.1)
    obtain ⟨e1, e2⟩ := hq; cases e1; replace e2 := e2.symm; subst e2
    show Wk _ _ _ _ _ _ _ _ _ _ _ _ _ _ _ _ _ _ _ (.int (if ¬ (0 - x) < 1 ∧ (0 - x) ≤ V 7 0 then (1 : Int32) else 0) :: _)
    exact wk_zret C nb_i ⟨by congr 3; grind, rfl⟩ (by decide) (by decide) d_MD_isWho_19
  ·
    refine wk_run C k_MD_isWho_4 (pc2 := 6) (lv2 := [(0, .ref y), (1, .int x)]) (st2 := [.int x, .ref y]) rfl ?_
    refine wk_callV (cl := ("ProfileRightsModel", T_MD, 27)) (rest := []) C (c_MD_isUser l D HB h h0 y A (V) x hM) cs_MD_92 kc_MD_isUser ki_MD hM.ob rfl rfl rfl (Nat.le_of_ble_eq_true rfl) (Nat.le_of_ble_eq_true rfl) (Nat.le_of_ble_eq_true rfl) (Nat.le_of_ble_eq_true rfl) (Nat.le_of_ble_eq_true rfl) d_MD_isWho_6 (fun v h2 hq => ?_) (fun _ _ z => nomatch z.1)
    obtain ⟨e1, e2⟩ := hq; cases e1; replace e2 := e2.symm; subst e2
    show Wk _ _ _ _ _ _ _ _ _ _ _ _ _ _ _ _ _ _ _ (.int (if ¬ x < 1 ∧ x ≤ V 8 0 then (1 : Int32) else 0) :: _)
    refine wk_goto C d_MD_isWho_9 (tgt := 19) (by decide) ?_
    exact wk_zret C nb_i ⟨by congr 3; grind, rfl⟩ (by decide) (by decide) d_MD_isWho_19
theorem fl_ {D : va_G} {h0 h : hp_T} {y : Nat} {A : Nat → Nat} {V : vT} {x z : Int32} (hM : mq D h0 h y A (vc V 0 x)) (e : z = x) : mq D h0 h y A (vc V 0 z) := e ▸ hM
theorem k_MD_fails_0 : px_dec prog_9_method_3_code [.aload_n 0, .iload_n 1] 0 = true := by decide +kernel
theorem d_MD_fails_2 : decode prog_9_method_3_code 2 = .ok (.ifCond .eq 7, 3) := by decide +kernel
theorem k_MD_fails_9 : px_dec prog_9_method_3_code [.iload_n 2] 9 = true := by decide +kernel
theorem d_MD_fails_10 : decode prog_9_method_3_code 10 = .ok (.ifCond .eq 7, 3) := by decide +kernel
theorem k_MD_fails_17 : px_dec prog_9_method_3_code [.iconst 0] 17 = true := by decide +kernel
theorem d_MD_fails_18 : decode prog_9_method_3_code 18 = .ok (.putfield 71, 3) := by decide +kernel
theorem k_MD_fails_21 : px_dec prog_9_method_3_code [.aload_n 0] 21 = true := by decide +kernel
theorem d_MD_fails_22 : decode prog_9_method_3_code 22 = .ok (.getfield 71, 3) := by decide +kernel
theorem d_MD_fails_25 : decode prog_9_method_3_code 25 = .ok (.ifCond .le 7, 3) := by decide +kernel
theorem k_MD_fails_32 : px_dec prog_9_method_3_code [.iconst 0] 32 = true := by decide +kernel
theorem d_MD_fails_33 : decode prog_9_method_3_code 33 = .ok (.ireturn, 1) := by decide +kernel
theorem k_MD_fails_13 : px_dec prog_9_method_3_code [.iconst 2] 13 = true := by decide +kernel
theorem d_MD_fails_14 : decode prog_9_method_3_code 14 = .ok (.goto 4, 3) := by decide +kernel
theorem k_MD_fails_28 : px_dec prog_9_method_3_code [.iconst 1] 28 = true := by decide +kernel
theorem d_MD_fails_29 : decode prog_9_method_3_code 29 = .ok (.goto 4, 3) := by decide +kernel
theorem k_MD_fails_5 : px_dec prog_9_method_3_code [.iconst 1] 5 = true := by decide +kernel
theorem d_MD_fails_6 : decode prog_9_method_3_code 6 = .ok (.goto 12, 3) := by decide +kernel
set_option maxRecDepth 100000 in
set_option maxHeartbeats 4000000 in
theorem c_MD_fails (l : Launch) (D : va_G) (HB : Heap) (h : hp_T) (h0 : hp_T) (y : Nat) (A : Nat → Nat) (V : vT) (a b : Int32) (hM : mq D h0 h y A V) : ct_M l y_MD_fails (.code y_MD_fails prog_9_method_3_code 3 (Option.some Jvm.ClassFile.FieldType.boolean)) ({ frames := 0, cells := 0, slots := 0, locals := 0 }) D HB [.ref y, .int a, .int b] h (fun o h2 => o = .inl (some (.int (if a = 0 ∧ b = 0 then (0 : Int32) else 1))) ∧ mq D h0 h2 y A (vc V 0 (if a = 0 then if b = 0 then 0 else 2 else 1))) := by
  refine ct_of (by decide) (Nat.le_of_ble_eq_true rfl) rfl ?_
  intro p_ e_ s_ m_ r_ b_ t_ c_ C hnm
  refine wk_run C k_MD_fails_0 (pc2 := 2) (lv2 := [(0, .ref y), (1, .int a), (2, .int b)]) (st2 := [.int a, .ref y]) rfl ?_
  refine wk_br C d_MD_fails_2 (P := a = 0) (tgt := 9) (rest := [.ref y]) rfl (by decide) (fun c1 => ?_) (fun c1 => ?_)
  ·
    refine wk_run C k_MD_fails_9 (pc2 := 10) (lv2 := [(0, .ref y), (1, .int a), (2, .int b)]) (st2 := [.int b, .ref y]) rfl ?_
    refine wk_br C d_MD_fails_10 (P := b = 0) (tgt := 17) (rest := [.ref y]) rfl (by decide) (fun c2 => ?_) (fun c2 => ?_)
    ·
      refine wk_run C k_MD_fails_17 (pc2 := 18) (lv2 := [(0, .ref y), (1, .int a), (2, .int b)]) (st2 := [.int 0, .ref y]) rfl ?_
      refine wm_put C hM 0 (by simp [sc_]) fd_MD_71 rfl d_MD_fails_18 (fun h (hM : mq D h0 h y A (vc (V) 0 0)) => ?_)
      refine wk_run C k_MD_fails_21 (pc2 := 22) (lv2 := [(0, .ref y), (1, .int a), (2, .int b)]) (st2 := [.ref y]) rfl ?_
      refine wk_get (v := .int (0)) C fd_MD_71 hM.ob rfl d_MD_fails_22 ?_
      refine wk_br C d_MD_fails_25 (P := (0) ≤ 0) (tgt := 32) (rest := []) rfl (by decide) (fun c3 => ?_) (fun c3 => ?_)
      ·
        refine wk_run C k_MD_fails_32 (pc2 := 33) (lv2 := [(0, .ref y), (1, .int a), (2, .int b)]) (st2 := [.int 0]) rfl ?_
        exact wk_zret C rfl ⟨by first | (rw [if_pos (by grind)]) | (rw [if_neg (by grind)]), fl_ hM (by grind)⟩ (by decide) (by decide) d_MD_fails_33
      ·
        exact absurd (by decide) c3
    ·
      refine wk_run C k_MD_fails_13 (pc2 := 14) (lv2 := [(0, .ref y), (1, .int a), (2, .int b)]) (st2 := [.int 2, .ref y]) rfl ?_
      refine wk_goto C d_MD_fails_14 (tgt := 18) (by decide) ?_
      refine wm_put C hM 0 (by simp [sc_]) fd_MD_71 rfl d_MD_fails_18 (fun h (hM : mq D h0 h y A (vc (V) 0 2)) => ?_)
      refine wk_run C k_MD_fails_21 (pc2 := 22) (lv2 := [(0, .ref y), (1, .int a), (2, .int b)]) (st2 := [.ref y]) rfl ?_
      refine wk_get (v := .int (2)) C fd_MD_71 hM.ob rfl d_MD_fails_22 ?_
      refine wk_br C d_MD_fails_25 (P := (2) ≤ 0) (tgt := 32) (rest := []) rfl (by decide) (fun c4 => ?_) (fun c4 => ?_)
      ·
        exact absurd c4 (by decide)
      ·
        refine wk_run C k_MD_fails_28 (pc2 := 29) (lv2 := [(0, .ref y), (1, .int a), (2, .int b)]) (st2 := [.int 1]) rfl ?_
        refine wk_goto C d_MD_fails_29 (tgt := 33) (by decide) ?_
        exact wk_zret C rfl ⟨by first | (rw [if_pos (by grind)]) | (rw [if_neg (by grind)]), fl_ hM (by grind)⟩ (by decide) (by decide) d_MD_fails_33
  ·
    refine wk_run C k_MD_fails_5 (pc2 := 6) (lv2 := [(0, .ref y), (1, .int a), (2, .int b)]) (st2 := [.int 1, .ref y]) rfl ?_
    refine wk_goto C d_MD_fails_6 (tgt := 18) (by decide) ?_
    refine wm_put C hM 0 (by simp [sc_]) fd_MD_71 rfl d_MD_fails_18 (fun h (hM : mq D h0 h y A (vc (V) 0 1)) => ?_)
    refine wk_run C k_MD_fails_21 (pc2 := 22) (lv2 := [(0, .ref y), (1, .int a), (2, .int b)]) (st2 := [.ref y]) rfl ?_
    refine wk_get (v := .int (1)) C fd_MD_71 hM.ob rfl d_MD_fails_22 ?_
    refine wk_br C d_MD_fails_25 (P := (1) ≤ 0) (tgt := 32) (rest := []) rfl (by decide) (fun c5 => ?_) (fun c5 => ?_)
    ·
      exact absurd c5 (by decide)
    ·
      refine wk_run C k_MD_fails_28 (pc2 := 29) (lv2 := [(0, .ref y), (1, .int a), (2, .int b)]) (st2 := [.int 1]) rfl ?_
      refine wk_goto C d_MD_fails_29 (tgt := 33) (by decide) ?_
      exact wk_zret C rfl ⟨by first | (rw [if_pos (by grind)]) | (rw [if_neg (by grind)]), fl_ hM (by grind)⟩ (by decide) (by decide) d_MD_fails_33
theorem c_MD_f0 (l : Launch) (D : va_G) (HB : Heap) (h h0 : hp_T) (y : Nat) (A : Nat → Nat) (V : vT) (hM : mq D h0 h y A V) : ct_M l y_MD_fails (.code y_MD_fails prog_9_method_3_code 3 (some .boolean)) { frames := 0, cells := 0, slots := 0, locals := 0 } D HB [.ref y, .int 0, .int 0] h (fun o h2 => o = .inl (some (.int 0)) ∧ mq D h0 h2 y A (vc V 0 0)) := c_MD_fails l D HB h h0 y A V 0 0 hM
theorem c_MD_f1 (l : Launch) (D : va_G) (HB : Heap) (h h0 : hp_T) (y : Nat) (A : Nat → Nat) (V : vT) (hM : mq D h0 h y A V) : ct_M l y_MD_fails (.code y_MD_fails prog_9_method_3_code 3 (some .boolean)) { frames := 0, cells := 0, slots := 0, locals := 0 } D HB [.ref y, .int 1, .int 0] h (fun o h2 => o = .inl (some (.int 1)) ∧ mq D h0 h2 y A (vc V 0 1)) := c_MD_fails l D HB h h0 y A V 1 0 hM
theorem c_MD_f2 (l : Launch) (D : va_G) (HB : Heap) (h h0 : hp_T) (y : Nat) (A : Nat → Nat) (V : vT) (hM : mq D h0 h y A V) : ct_M l y_MD_fails (.code y_MD_fails prog_9_method_3_code 3 (some .boolean)) { frames := 0, cells := 0, slots := 0, locals := 0 } D HB [.ref y, .int 0, .int 1] h (fun o h2 => o = .inl (some (.int 1)) ∧ mq D h0 h2 y A (vc V 0 2)) := c_MD_fails l D HB h h0 y A V 0 1 hM
abbrev rT : Type := Int32 × Int32 × vT
def sp_group (V : vT) (x : Int32) : rT := if ¬ x = 0 ∧ ¬ (¬ x < 1 ∧ x ≤ V 7 0) then (1, 0, vc V 0 1) else if V 7 0 = 20 then (2, 0, vc V 0 2) else (0, V 7 0 + 1, vs (vc (vc V 0 0) 7 (V 7 0 + 1)) 1 (upd (V 1) (nu (V 7 0 + 1)) x))
def sp_user (V : vT) (x : Int32) : rT := if ¬ (¬ x < 1 ∧ x ≤ V 7 0) then (1, 0, vc V 0 1) else if V 8 0 = 40 then (2, 0, vc V 0 2) else (0, V 8 0 + 1, vs (vs (vc (vc V 0 0) 8 (V 8 0 + 1)) 2 (upd (V 2) (nu (V 8 0 + 1)) x)) 4 (upd (V 4) (nu (V 8 0 + 1)) 3))
def sp_terminal (V : vT) (u t : Int32) : rT := if ¬ ((¬ u < 1 ∧ u ≤ V 8 0) ∧ ¬ t < 0 ∧ t < 100) then (1, 0, vc V 0 1) else (0, V 3 (nu u), vs (vc V 0 0) 3 (upd (V 3) (nu u) t))
def sp_revoke (V : vT) (u b : Int32) : rT := if ¬ (¬ u < 1 ∧ u ≤ V 8 0) then (1, 0, vc V 0 1) else if V 5 (nu u) = b then (0, 0, vc V 0 0) else (0, 1, vs (vs (vc V 0 0) 5 (upd (V 5) (nu u) b)) 4 (upd (V 4) (nu u) (if b = 0 then 3 else V 4 (nu u))))
def sp_pass (V : vT) (u b : Int32) : rT := if ¬ (¬ u < 1 ∧ u ≤ V 8 0) then (1, 0, vc V 0 1) else if ¬ V 5 (nu u) = 0 then (0, -1, vc V 0 0) else
  (0, if b = 0 then V 4 (nu u) - 1 else 3, vs (vs (vc V 0 0) 4 (upd (V 4) (nu u) (if b = 0 then V 4 (nu u) - 1 else 3))) 5 (upd (V 5) (nu u) (if (if b = 0 then V 4 (nu u) - 1 else 3) = 0 then 1 else 0)))
def sp_acts (V : vT) (u w : Int32) : rT := if ¬ ((¬ u < 1 ∧ u ≤ V 8 0) ∧ ¬ w < 1 ∧ w ≤ V 8 0) then (1, 0, vc V 0 1) else (0, if u = w ∨ ¬ V 6 (41 * nu u + nu w) = 0 then 1 else 0, vc V 0 0)
def sp_surrogate (V : vT) (u w b : Int32) : rT := if ¬ ((¬ u < 1 ∧ u ≤ V 8 0) ∧ ¬ w < 1 ∧ w ≤ V 8 0) then (1, 0, vc V 0 1) else if u = w ∨ V 6 (41 * nu u + nu w) = b then (0, 0, vc V 0 0) else (0, 1, vs (vc V 0 0) 6 (upd (V 6) (41 * nu u + nu w) b))
def sp_mode (V : vT) (c m : Int32) : rT := if ¬ ((¬ c < 0 ∧ c < 8) ∧ ¬ m < 0 ∧ m ≤ 2) then (1, 0, vc V 0 1) else (0, V 10 (nu c), vs (vc V 0 0) 10 (upd (V 10) (nu c) m))
def sp_profile (V : vT) (c u : Int32) : rT := if ¬ ((¬ c < 0 ∧ c < 8) ∧ ¬ u < 1 ∧ u ≤ V 8 0) then (1, 0, vc V 0 1) else if V 9 0 = 60 then (2, 0, vc V 0 2) else (0, V 9 0 + 1, vs (vc (vc V 0 0) 9 (V 9 0 + 1)) 11 (upd (V 11) (nu (V 9 0 + 1)) c))
def sp_name (V : vT) (p c : Int32) : rT := if ¬ ((¬ p < 1 ∧ p ≤ V 9 0) ∧ ¬ c < 33 ∧ ¬ 126 < c) then (1, 0, vc V 0 1) else if V 13 (nu p) = 20 then (2, 0, vc V 0 2) else (0, V 13 (nu p) + 1, vs (vs (vc V 0 0) 12 (upd (V 12) (20 * nu p + nu (V 13 (nu p))) c)) 13 (upd (V 13) (nu p) (V 13 (nu p) + 1)))
def sp_universal (V : vT) (p a m : Int32) : rT := if ¬ ((¬ p < 1 ∧ p ≤ V 9 0) ∧ (¬ a < 0 ∧ a ≤ 4) ∧ ¬ m < 0 ∧ m ≤ 7) then (1, 0, vc V 0 1) else (0, 8 * V 14 (nu p) + V 15 (nu p), vs (vs (vc V 0 0) 14 (upd (V 14) (nu p) a)) 15 (upd (V 15) (nu p) m))
def sp_who (V : vT) (p i : Int32) : rT := if ¬ (¬ p < 1 ∧ p ≤ V 9 0) then (1, 0, vc V 0 1) else (0, if i < 0 ∨ V 16 (nu p) ≤ i then 0 else V 17 (10 * nu p + nu i), vc V 0 0)
def sp_ask (V : vT) (c : Int32) : rT := if ¬ (¬ c < 33 ∧ ¬ 126 < c) then (0, 0, vc (vc V 0 0) 22 0) else if V 22 0 < 20 then (0, V 22 0 + 1, vc (vs (vc V 0 0) 21 (upd (V 21) (nu (V 22 0)) c)) 22 (V 22 0 + 1)) else (0, V 22 0, vc V 0 0)
def sp_matched (V : vT) : rT := (0, V 23 0, vc V 0 0)
def sp_audit (V : vT) (i w : Int32) : rT := (0, if ¬ i < 0 ∧ i < V 25 0 ∧ i < 200 ∧ ¬ w < 0 ∧ w ≤ 4 then V 24 (5 * nu i + nu w) else -1, vc V 0 0)
theorem upd_s {f : Nat → Int32} {j : Nat} {x : Int32} : upd f j x j = x := if_pos rfl
/-- numbers: a product and a sum -/
theorem nx_ {a b : Int32} {k m n N : Nat} (ha : ok_ a m) (hb : ok_ b n) (hN : k * m + n < N) (hN2 : N < 2 ^ 31) : vp_in (nI k * a + b) N ∧ nu (nI k * a + b) = k * nu a + nu b := by
  have e : nI k * a + b = nI (k * nu a + nu b) := by
    rw [ha.1, hb.1]; unfold nI nu
    rw [← Int32.ofNat_mul, ← Int32.ofNat_add]
    rw [show (Int32.ofNat (Int32.toNatClampNeg a)) = a from ha.1.symm, show (Int32.ofNat (Int32.toNatClampNeg b)) = b from hb.1.symm]
  have h1 : k * nu a ≤ k * m := Nat.mul_le_mul_left k ha.2
  have h2 := hb.2
  rw [e]
  exact ⟨nI_in (by omega) hN2, nu_nI (by omega)⟩
theorem ok_r {x y : Int32} {N : Nat} (h1 : ¬ x < 1) (h2 : x ≤ y) (hy : ok_ y N) (hN : N < 2 ^ 31) : ok_ x N := by
  have e1 := ok_int hy (by omega)
  have e2 := hy.2
  have h0 : ¬ x < 0 := fun z => h1 (by rw [Int32.lt_iff_toInt_lt] at z ⊢; have e0 : (0 : Int32).toInt = 0 := by decide
                                       have e1 : (1 : Int32).toInt = 1 := by decide
                                       rw [e0] at z; rw [e1]; omega)
  obtain ⟨k, hk, rfl⟩ := nI_of h0
  rw [Int32.le_iff_toInt_le, e1, nI_toInt hk] at h2
  exact ok_nI (by omega) (by omega)
theorem ok_c {x y : Int32} {N : Nat} (h1 : ¬ x < 0) (h2 : x < y) (hy : y = nI (N + 1)) (hN : N + 1 < 2 ^ 31) : ok_ x N := by
  obtain ⟨k, hk, rfl⟩ := nI_of h1
  subst hy
  rw [nI_ltI hk (by omega)] at h2
  exact ok_nI (by omega) (by omega)
theorem ok_p {x : Int32} {n : Nat} (h : ok_ x n) (hne : ¬ x = nI n) (hn : n < 2 ^ 31) : ok_ (x + 1) n ∧ nu (x + 1) = nu x + 1 := by
  have hlt : nu x < n := Nat.lt_of_le_of_ne h.2 (fun z => hne (by rw [h.1, z]))
  have e : x + 1 = nI (nu x + 1) := by rw [← nI_1, ← h.1]
  rw [e]; exact ⟨ok_nI hlt hn, nu_nI (by omega)⟩
theorem ok_lt {x : Int32} (h : ok_ x 20) (h2 : x < 20) : ok_ x 19 := by
  refine ⟨h.1, ?_⟩
  rw [h.1] at h2
  have := (nI_ltI (a := nu x) (b := 20) (by have := h.2; omega) (by decide)).mp h2
  omega
theorem ok_m {x : Int32} {m n : Nat} (h : ok_ x m) (hm : m ≤ n) : ok_ x n := ⟨h.1, Nat.le_trans h.2 hm⟩

theorem k_MD_thrown_0 : px_dec prog_9_method_2_code [.aload_n 0] 0 = true := by decide +kernel
theorem d_MD_thrown_1 : decode prog_9_method_2_code 1 = .ok (.getfield 71, 3) := by decide +kernel
theorem d_MD_thrown_4 : decode prog_9_method_2_code 4 = .ok (.ireturn, 1) := by decide +kernel
set_option maxRecDepth 100000 in
set_option maxHeartbeats 4000000 in
theorem c_MD_thrown (l : Launch) (D : va_G) (HB : Heap) (h : hp_T) (h0 : hp_T) (y : Nat) (A : Nat → Nat) (V : vT)  (hM : mq D h0 h y A V) : ct_M l y_MD_thrown (.code y_MD_thrown prog_9_method_2_code 1 (Option.some Jvm.ClassFile.FieldType.int)) ({ frames := 0, cells := 0, slots := 0, locals := 0 }) D HB [.ref y] h (fun o h2 => ∃ (cd r : Int32) (V2 : vT), (fun V : vT => ((0 : Int32), V 0 0, V)) V  = (cd, r, V2) ∧ o = .inl (some (.int r)) ∧ mq D h0 h2 y A V2) := by
  refine ct_of (by decide) (Nat.le_of_ble_eq_true rfl) rfl ?_
  intro p_ e_ s_ m_ r_ b_ t_ c_ C hnm
  refine wk_run C k_MD_thrown_0 (pc2 := 1) (lv2 := [(0, .ref y)]) (st2 := [.ref y]) rfl ?_
  refine wk_get (v := .int (V 0 0)) C fd_MD_71 hM.ob rfl d_MD_thrown_1 ?_
  exact wk_iret C ⟨0, (V 0 0), V, rfl, rfl, hM⟩ (by decide) (by decide) d_MD_thrown_4
theorem k_MD_group_0 : px_dec prog_9_method_10_code [.iload_n 1] 0 = true := by decide +kernel
theorem d_MD_group_1 : decode prog_9_method_10_code 1 = .ok (.ifCond .eq 15, 3) := by decide +kernel
theorem k_MD_group_16 : px_dec prog_9_method_10_code [.iconst 0, .istore_n 2, .aload_n 0, .iload_n 2, .iload_n 2] 16 = true := by decide +kernel
theorem d_MD_group_21 : decode prog_9_method_10_code 21 = .ok (.ifCond .ne 16, 3) := by decide +kernel
theorem k_MD_group_24 : px_dec prog_9_method_10_code [.aload_n 0] 24 = true := by decide +kernel
theorem d_MD_group_25 : decode prog_9_method_10_code 25 = .ok (.getfield 75, 3) := by decide +kernel
theorem k_MD_group_28 : px_dec prog_9_method_10_code [.bipush 20] 28 = true := by decide +kernel
theorem d_MD_group_30 : decode prog_9_method_10_code 30 = .ok (.if_icmp .ne 7, 3) := by decide +kernel
theorem k_MD_group_37 : px_dec prog_9_method_10_code [.iconst 0] 37 = true := by decide +kernel
theorem d_MD_group_38 : decode prog_9_method_10_code 38 = .ok (.invokevirtual 88, 3) := by decide +kernel
theorem d_MD_group_41 : decode prog_9_method_10_code 41 = .ok (.ifCond .eq 5, 3) := by decide +kernel
theorem k_MD_group_46 : px_dec prog_9_method_10_code [.aload_n 0, .dup] 46 = true := by decide +kernel
theorem d_MD_group_48 : decode prog_9_method_10_code 48 = .ok (.getfield 75, 3) := by decide +kernel
theorem k_MD_group_51 : px_dec prog_9_method_10_code [.iconst 1, .iadd] 51 = true := by decide +kernel
theorem d_MD_group_53 : decode prog_9_method_10_code 53 = .ok (.putfield 75, 3) := by decide +kernel
theorem k_MD_group_56 : px_dec prog_9_method_10_code [.aload_n 0] 56 = true := by decide +kernel
theorem d_MD_group_57 : decode prog_9_method_10_code 57 = .ok (.getfield 7, 3) := by decide +kernel
theorem k_MD_group_60 : px_dec prog_9_method_10_code [.aload_n 0] 60 = true := by decide +kernel
theorem d_MD_group_61 : decode prog_9_method_10_code 61 = .ok (.getfield 75, 3) := by decide +kernel
theorem k_MD_group_64 : px_dec prog_9_method_10_code [.iload_n 1] 64 = true := by decide +kernel
theorem d_MD_group_65 : decode prog_9_method_10_code 65 = .ok (.iastore, 1) := by decide +kernel
theorem k_MD_group_66 : px_dec prog_9_method_10_code [.aload_n 0] 66 = true := by decide +kernel
theorem d_MD_group_67 : decode prog_9_method_10_code 67 = .ok (.getfield 75, 3) := by decide +kernel
theorem d_MD_group_70 : decode prog_9_method_10_code 70 = .ok (.ireturn, 1) := by decide +kernel
theorem k_MD_group_33 : px_dec prog_9_method_10_code [.iconst 1] 33 = true := by decide +kernel
theorem d_MD_group_34 : decode prog_9_method_10_code 34 = .ok (.goto 4, 3) := by decide +kernel
theorem k_MD_group_44 : px_dec prog_9_method_10_code [.iconst 0] 44 = true := by decide +kernel
theorem d_MD_group_45 : decode prog_9_method_10_code 45 = .ok (.ireturn, 1) := by decide +kernel
theorem k_MD_group_4 : px_dec prog_9_method_10_code [.aload_n 0, .iload_n 1] 4 = true := by decide +kernel
theorem d_MD_group_6 : decode prog_9_method_10_code 6 = .ok (.invokevirtual 84, 3) := by decide +kernel
theorem d_MD_group_9 : decode prog_9_method_10_code 9 = .ok (.ifCond .ne 7, 3) := by decide +kernel
theorem k_MD_group_12 : px_dec prog_9_method_10_code [.iconst 1] 12 = true := by decide +kernel
theorem d_MD_group_13 : decode prog_9_method_10_code 13 = .ok (.goto 4, 3) := by decide +kernel
theorem k_MD_group_17 : px_dec prog_9_method_10_code [.istore_n 2, .aload_n 0, .iload_n 2, .iload_n 2] 17 = true := by decide +kernel
set_option maxRecDepth 100000 in
set_option maxHeartbeats 4000000 in
theorem c_MD_group (l : Launch) (D : va_G) (HB : Heap) (h : hp_T) (h0 : hp_T) (y : Nat) (A : Nat → Nat) (V : vT) (x : Int32) (hG : ok_ (V 7 0) 20) (hM : mq D h0 h y A V) : ct_M l y_MD_group (.code y_MD_group prog_9_method_10_code 3 (Option.some Jvm.ClassFile.FieldType.int)) ({ frames := 1, cells := 0, slots := 0, locals := 30 }) D HB [.ref y, .int x] h (fun o h2 => ∃ (cd r : Int32) (V2 : vT), sp_group V x = (cd, r, V2) ∧ o = .inl (some (.int r)) ∧ mq D h0 h2 y A V2) := by
  refine ct_of (by decide) (Nat.le_of_ble_eq_true rfl) rfl ?_
  intro p_ e_ s_ m_ r_ b_ t_ c_ C hnm
  refine wk_run C k_MD_group_0 (pc2 := 1) (lv2 := [(0, .ref y), (1, .int x)]) (st2 := [.int x]) rfl ?_
  refine wk_br C d_MD_group_1 (P := x = 0) (tgt := 16) (rest := []) rfl (by decide) (fun c1 => ?_) (fun c1 => ?_)
  ·
    refine wk_run C k_MD_group_16 (pc2 := 21) (lv2 := [(2, .int 0), (0, .ref y), (1, .int x)]) (st2 := [.int 0, .int 0, .ref y]) rfl ?_
    refine wk_br C d_MD_group_21 (P := ¬ 0 = 0) (tgt := 37) (rest := [.int 0, .ref y]) rfl (by decide) (fun c2 => ?_) (fun c2 => ?_)
    ·
      exact absurd c2 (by decide)
    ·
      refine wk_run C k_MD_group_24 (pc2 := 25) (lv2 := [(2, .int 0), (0, .ref y), (1, .int x)]) (st2 := [.ref y, .int 0, .ref y]) rfl ?_
      refine wk_get (v := .int (V 7 0)) C fd_MD_75 hM.ob rfl d_MD_group_25 ?_
      refine wk_run C k_MD_group_28 (pc2 := 30) (lv2 := [(2, .int 0), (0, .ref y), (1, .int x)]) (st2 := [.int 20, .int (V 7 0), .int 0, .ref y]) rfl ?_
      refine wk_br C d_MD_group_30 (P := ¬ (V 7 0) = 20) (tgt := 37) (rest := [.int 0, .ref y]) rfl (by decide) (fun c3 => ?_) (fun c3 => ?_)
      ·
        refine wk_run C k_MD_group_37 (pc2 := 38) (lv2 := [(2, .int 0), (0, .ref y), (1, .int x)]) (st2 := [.int 0, .int 0, .ref y]) rfl ?_
        refine wk_callV (cl := ("ProfileRightsModel", T_MD, 27)) (rest := []) C (c_MD_f0 l D HB h h0 y A (V) hM) cs_MD_88 kc_MD_fails ki_MD hM.ob rfl rfl rfl (Nat.le_of_ble_eq_true rfl) (Nat.le_of_ble_eq_true rfl) (Nat.le_of_ble_eq_true rfl) (Nat.le_of_ble_eq_true rfl) (Nat.le_of_ble_eq_true rfl) d_MD_group_38 (fun v h hq => ?_) (fun _ _ z => nomatch z.1)
        obtain ⟨e1, hM⟩ := hq; cases e1
        refine wk_br C d_MD_group_41 (P := 0 = 0) (tgt := 46) (rest := []) rfl (by decide) (fun c4 => ?_) (fun c4 => ?_)
        ·
          refine wk_run C k_MD_group_46 (pc2 := 48) (lv2 := [(2, .int 0), (0, .ref y), (1, .int x)]) (st2 := [.ref y, .ref y]) rfl ?_
          refine wk_get (v := .int (V 7 0)) C fd_MD_75 hM.ob rfl d_MD_group_48 ?_
          refine wk_run C k_MD_group_51 (pc2 := 53) (lv2 := [(2, .int 0), (0, .ref y), (1, .int x)]) (st2 := [.int ((V 7 0) + 1), .ref y]) rfl ?_
          refine wm_put C hM 7 (by simp [sc_]) fd_MD_75 rfl d_MD_group_53 (fun h (hM : mq D h0 h y A (vc (vc (V) 0 0) 7 ((V 7 0) + 1))) => ?_)
          refine wk_run C k_MD_group_56 (pc2 := 57) (lv2 := [(2, .int 0), (0, .ref y), (1, .int x)]) (st2 := [.ref y]) rfl ?_
          refine wk_get (v := .ref (A 1)) C fd_MD_7 hM.ob rfl d_MD_group_57 ?_
          refine wk_run C k_MD_group_60 (pc2 := 61) (lv2 := [(2, .int 0), (0, .ref y), (1, .int x)]) (st2 := [.ref y, .ref (A 1)]) rfl ?_
          refine wk_get (v := .int (((V 7 0) + 1))) C fd_MD_75 hM.ob rfl d_MD_group_61 ?_
          refine wk_run C k_MD_group_64 (pc2 := 65) (lv2 := [(2, .int 0), (0, .ref y), (1, .int x)]) (st2 := [.int x, .int (((V 7 0) + 1)), .ref (A 1)]) rfl ?_
          refine wm_st C hM 1 (j := (nu (V 7 0 + 1))) rfl (vi_k (ok_p hG c3 (by decide)).1 (by decide) (by decide)) rfl d_MD_group_65 (fun h (hM : mq D h0 h y A (vs (vc (vc (V) 0 0) 7 ((V 7 0) + 1)) 1 (upd (V 1) (nu (V 7 0 + 1)) x))) => ?_)
          refine wk_run C k_MD_group_66 (pc2 := 67) (lv2 := [(2, .int 0), (0, .ref y), (1, .int x)]) (st2 := [.ref y]) rfl ?_
          refine wk_get (v := .int (((V 7 0) + 1))) C fd_MD_75 hM.ob rfl d_MD_group_67 ?_
          exact wk_iret C ⟨0, (((V 7 0) + 1)), vs (vc (vc (V) 0 0) 7 ((V 7 0) + 1)) 1 (upd (V 1) (nu (V 7 0 + 1)) x), by clear C hM hnm; grind [sp_group], rfl, hM⟩ (by decide) (by decide) d_MD_group_70
        ·
          exact absurd (by decide) c4
      ·
        refine wk_run C k_MD_group_33 (pc2 := 34) (lv2 := [(2, .int 0), (0, .ref y), (1, .int x)]) (st2 := [.int 1, .int 0, .ref y]) rfl ?_
        refine wk_goto C d_MD_group_34 (tgt := 38) (by decide) ?_
        refine wk_callV (cl := ("ProfileRightsModel", T_MD, 27)) (rest := []) C (c_MD_f2 l D HB h h0 y A (V) hM) cs_MD_88 kc_MD_fails ki_MD hM.ob rfl rfl rfl (Nat.le_of_ble_eq_true rfl) (Nat.le_of_ble_eq_true rfl) (Nat.le_of_ble_eq_true rfl) (Nat.le_of_ble_eq_true rfl) (Nat.le_of_ble_eq_true rfl) d_MD_group_38 (fun v h hq => ?_) (fun _ _ z => nomatch z.1)
        obtain ⟨e1, hM⟩ := hq; cases e1
        refine wk_br C d_MD_group_41 (P := 1 = 0) (tgt := 46) (rest := []) rfl (by decide) (fun c5 => ?_) (fun c5 => ?_)
        ·
          exact absurd c5 (by decide)
        ·
          refine wk_run C k_MD_group_44 (pc2 := 45) (lv2 := [(2, .int 0), (0, .ref y), (1, .int x)]) (st2 := [.int 0]) rfl ?_
          exact wk_iret C ⟨2, 0, vc (V) 0 2, by clear C hM hnm; grind [sp_group], rfl, hM⟩ (by decide) (by decide) d_MD_group_45
  ·
    refine wk_run C k_MD_group_4 (pc2 := 6) (lv2 := [(0, .ref y), (1, .int x)]) (st2 := [.int x, .ref y]) rfl ?_
    refine wk_callV (cl := ("ProfileRightsModel", T_MD, 27)) (rest := []) C (c_MD_isGroup l D HB h h0 y A (V) x hM) cs_MD_84 kc_MD_isGroup ki_MD hM.ob rfl rfl rfl (Nat.le_of_ble_eq_true rfl) (Nat.le_of_ble_eq_true rfl) (Nat.le_of_ble_eq_true rfl) (Nat.le_of_ble_eq_true rfl) (Nat.le_of_ble_eq_true rfl) d_MD_group_6 (fun v h2 hq => ?_) (fun _ _ z => nomatch z.1)
    obtain ⟨e1, e2⟩ := hq; cases e1; replace e2 := e2.symm; subst e2
    show Wk _ _ _ _ _ _ _ _ _ _ _ _ _ _ _ _ _ _ _ (.int (if ¬ x < 1 ∧ x ≤ V 7 0 then (1 : Int32) else 0) :: _)
    refine wk_br C d_MD_group_9 (P := ¬ (if ¬ x < 1 ∧ x ≤ V 7 0 then (1 : Int32) else 0) = 0) (tgt := 16) (rest := []) rfl (by decide) (fun c6 => ?_) (fun c6 => ?_)
    ·
      replace c6 := bn_ c6
      refine wk_run C k_MD_group_16 (pc2 := 21) (lv2 := [(2, .int 0), (0, .ref y), (1, .int x)]) (st2 := [.int 0, .int 0, .ref y]) rfl ?_
      refine wk_br C d_MD_group_21 (P := ¬ 0 = 0) (tgt := 37) (rest := [.int 0, .ref y]) rfl (by decide) (fun c7 => ?_) (fun c7 => ?_)
      ·
        exact absurd c7 (by decide)
      ·
        refine wk_run C k_MD_group_24 (pc2 := 25) (lv2 := [(2, .int 0), (0, .ref y), (1, .int x)]) (st2 := [.ref y, .int 0, .ref y]) rfl ?_
        refine wk_get (v := .int (V 7 0)) C fd_MD_75 hM.ob rfl d_MD_group_25 ?_
        refine wk_run C k_MD_group_28 (pc2 := 30) (lv2 := [(2, .int 0), (0, .ref y), (1, .int x)]) (st2 := [.int 20, .int (V 7 0), .int 0, .ref y]) rfl ?_
        refine wk_br C d_MD_group_30 (P := ¬ (V 7 0) = 20) (tgt := 37) (rest := [.int 0, .ref y]) rfl (by decide) (fun c8 => ?_) (fun c8 => ?_)
        ·
          refine wk_run C k_MD_group_37 (pc2 := 38) (lv2 := [(2, .int 0), (0, .ref y), (1, .int x)]) (st2 := [.int 0, .int 0, .ref y]) rfl ?_
          refine wk_callV (cl := ("ProfileRightsModel", T_MD, 27)) (rest := []) C (c_MD_f0 l D HB h h0 y A (V) hM) cs_MD_88 kc_MD_fails ki_MD hM.ob rfl rfl rfl (Nat.le_of_ble_eq_true rfl) (Nat.le_of_ble_eq_true rfl) (Nat.le_of_ble_eq_true rfl) (Nat.le_of_ble_eq_true rfl) (Nat.le_of_ble_eq_true rfl) d_MD_group_38 (fun v h hq => ?_) (fun _ _ z => nomatch z.1)
          obtain ⟨e1, hM⟩ := hq; cases e1
          refine wk_br C d_MD_group_41 (P := 0 = 0) (tgt := 46) (rest := []) rfl (by decide) (fun c9 => ?_) (fun c9 => ?_)
          ·
            refine wk_run C k_MD_group_46 (pc2 := 48) (lv2 := [(2, .int 0), (0, .ref y), (1, .int x)]) (st2 := [.ref y, .ref y]) rfl ?_
            refine wk_get (v := .int (V 7 0)) C fd_MD_75 hM.ob rfl d_MD_group_48 ?_
            refine wk_run C k_MD_group_51 (pc2 := 53) (lv2 := [(2, .int 0), (0, .ref y), (1, .int x)]) (st2 := [.int ((V 7 0) + 1), .ref y]) rfl ?_
            refine wm_put C hM 7 (by simp [sc_]) fd_MD_75 rfl d_MD_group_53 (fun h (hM : mq D h0 h y A (vc (vc (V) 0 0) 7 ((V 7 0) + 1))) => ?_)
            refine wk_run C k_MD_group_56 (pc2 := 57) (lv2 := [(2, .int 0), (0, .ref y), (1, .int x)]) (st2 := [.ref y]) rfl ?_
            refine wk_get (v := .ref (A 1)) C fd_MD_7 hM.ob rfl d_MD_group_57 ?_
            refine wk_run C k_MD_group_60 (pc2 := 61) (lv2 := [(2, .int 0), (0, .ref y), (1, .int x)]) (st2 := [.ref y, .ref (A 1)]) rfl ?_
            refine wk_get (v := .int (((V 7 0) + 1))) C fd_MD_75 hM.ob rfl d_MD_group_61 ?_
            refine wk_run C k_MD_group_64 (pc2 := 65) (lv2 := [(2, .int 0), (0, .ref y), (1, .int x)]) (st2 := [.int x, .int (((V 7 0) + 1)), .ref (A 1)]) rfl ?_
            refine wm_st C hM 1 (j := (nu (V 7 0 + 1))) rfl (vi_k (ok_p hG c8 (by decide)).1 (by decide) (by decide)) rfl d_MD_group_65 (fun h (hM : mq D h0 h y A (vs (vc (vc (V) 0 0) 7 ((V 7 0) + 1)) 1 (upd (V 1) (nu (V 7 0 + 1)) x))) => ?_)
            refine wk_run C k_MD_group_66 (pc2 := 67) (lv2 := [(2, .int 0), (0, .ref y), (1, .int x)]) (st2 := [.ref y]) rfl ?_
            refine wk_get (v := .int (((V 7 0) + 1))) C fd_MD_75 hM.ob rfl d_MD_group_67 ?_
            exact wk_iret C ⟨0, (((V 7 0) + 1)), vs (vc (vc (V) 0 0) 7 ((V 7 0) + 1)) 1 (upd (V 1) (nu (V 7 0 + 1)) x), by clear C hM hnm; grind [sp_group], rfl, hM⟩ (by decide) (by decide) d_MD_group_70
          ·
            exact absurd (by decide) c9
        ·
          refine wk_run C k_MD_group_33 (pc2 := 34) (lv2 := [(2, .int 0), (0, .ref y), (1, .int x)]) (st2 := [.int 1, .int 0, .ref y]) rfl ?_
          refine wk_goto C d_MD_group_34 (tgt := 38) (by decide) ?_
          refine wk_callV (cl := ("ProfileRightsModel", T_MD, 27)) (rest := []) C (c_MD_f2 l D HB h h0 y A (V) hM) cs_MD_88 kc_MD_fails ki_MD hM.ob rfl rfl rfl (Nat.le_of_ble_eq_true rfl) (Nat.le_of_ble_eq_true rfl) (Nat.le_of_ble_eq_true rfl) (Nat.le_of_ble_eq_true rfl) (Nat.le_of_ble_eq_true rfl) d_MD_group_38 (fun v h hq => ?_) (fun _ _ z => nomatch z.1)
          obtain ⟨e1, hM⟩ := hq; cases e1
          refine wk_br C d_MD_group_41 (P := 1 = 0) (tgt := 46) (rest := []) rfl (by decide) (fun c10 => ?_) (fun c10 => ?_)
          ·
            exact absurd c10 (by decide)
          ·
            refine wk_run C k_MD_group_44 (pc2 := 45) (lv2 := [(2, .int 0), (0, .ref y), (1, .int x)]) (st2 := [.int 0]) rfl ?_
            exact wk_iret C ⟨2, 0, vc (V) 0 2, by clear C hM hnm; grind [sp_group], rfl, hM⟩ (by decide) (by decide) d_MD_group_45
    ·
      replace c6 := bz_ (Classical.not_not.mp c6)
      refine wk_run C k_MD_group_12 (pc2 := 13) (lv2 := [(0, .ref y), (1, .int x)]) (st2 := [.int 1]) rfl ?_
      refine wk_goto C d_MD_group_13 (tgt := 17) (by decide) ?_
      refine wk_run C k_MD_group_17 (pc2 := 21) (lv2 := [(2, .int 1), (0, .ref y), (1, .int x)]) (st2 := [.int 1, .int 1, .ref y]) rfl ?_
      refine wk_br C d_MD_group_21 (P := ¬ 1 = 0) (tgt := 37) (rest := [.int 1, .ref y]) rfl (by decide) (fun c11 => ?_) (fun c11 => ?_)
      ·
        refine wk_run C k_MD_group_37 (pc2 := 38) (lv2 := [(2, .int 1), (0, .ref y), (1, .int x)]) (st2 := [.int 0, .int 1, .ref y]) rfl ?_
        refine wk_callV (cl := ("ProfileRightsModel", T_MD, 27)) (rest := []) C (c_MD_f1 l D HB h h0 y A (V) hM) cs_MD_88 kc_MD_fails ki_MD hM.ob rfl rfl rfl (Nat.le_of_ble_eq_true rfl) (Nat.le_of_ble_eq_true rfl) (Nat.le_of_ble_eq_true rfl) (Nat.le_of_ble_eq_true rfl) (Nat.le_of_ble_eq_true rfl) d_MD_group_38 (fun v h hq => ?_) (fun _ _ z => nomatch z.1)
        obtain ⟨e1, hM⟩ := hq; cases e1
        refine wk_br C d_MD_group_41 (P := 1 = 0) (tgt := 46) (rest := []) rfl (by decide) (fun c12 => ?_) (fun c12 => ?_)
        ·
          exact absurd c12 (by decide)
        ·
          refine wk_run C k_MD_group_44 (pc2 := 45) (lv2 := [(2, .int 1), (0, .ref y), (1, .int x)]) (st2 := [.int 0]) rfl ?_
          exact wk_iret C ⟨1, 0, vc (V) 0 1, by clear C hM hnm; grind [sp_group], rfl, hM⟩ (by decide) (by decide) d_MD_group_45
      ·
        exact absurd (by decide) c11
theorem k_MD_user_0 : px_dec prog_9_method_12_code [.aload_n 0, .iload_n 1] 0 = true := by decide +kernel
theorem d_MD_user_2 : decode prog_9_method_12_code 2 = .ok (.invokevirtual 84, 3) := by decide +kernel
theorem d_MD_user_5 : decode prog_9_method_12_code 5 = .ok (.ifCond .ne 7, 3) := by decide +kernel
theorem k_MD_user_12 : px_dec prog_9_method_12_code [.iconst 0, .istore_n 2, .aload_n 0, .iload_n 2, .iload_n 2] 12 = true := by decide +kernel
theorem d_MD_user_17 : decode prog_9_method_12_code 17 = .ok (.ifCond .ne 16, 3) := by decide +kernel
theorem k_MD_user_20 : px_dec prog_9_method_12_code [.aload_n 0] 20 = true := by decide +kernel
theorem d_MD_user_21 : decode prog_9_method_12_code 21 = .ok (.getfield 78, 3) := by decide +kernel
theorem k_MD_user_24 : px_dec prog_9_method_12_code [.bipush 40] 24 = true := by decide +kernel
theorem d_MD_user_26 : decode prog_9_method_12_code 26 = .ok (.if_icmp .ne 7, 3) := by decide +kernel
theorem k_MD_user_33 : px_dec prog_9_method_12_code [.iconst 0] 33 = true := by decide +kernel
theorem d_MD_user_34 : decode prog_9_method_12_code 34 = .ok (.invokevirtual 88, 3) := by decide +kernel
theorem d_MD_user_37 : decode prog_9_method_12_code 37 = .ok (.ifCond .eq 5, 3) := by decide +kernel
theorem k_MD_user_42 : px_dec prog_9_method_12_code [.aload_n 0, .dup] 42 = true := by decide +kernel
theorem d_MD_user_44 : decode prog_9_method_12_code 44 = .ok (.getfield 78, 3) := by decide +kernel
theorem k_MD_user_47 : px_dec prog_9_method_12_code [.iconst 1, .iadd] 47 = true := by decide +kernel
theorem d_MD_user_49 : decode prog_9_method_12_code 49 = .ok (.putfield 78, 3) := by decide +kernel
theorem k_MD_user_52 : px_dec prog_9_method_12_code [.aload_n 0] 52 = true := by decide +kernel
theorem d_MD_user_53 : decode prog_9_method_12_code 53 = .ok (.getfield 13, 3) := by decide +kernel
theorem k_MD_user_56 : px_dec prog_9_method_12_code [.aload_n 0] 56 = true := by decide +kernel
theorem d_MD_user_57 : decode prog_9_method_12_code 57 = .ok (.getfield 78, 3) := by decide +kernel
theorem k_MD_user_60 : px_dec prog_9_method_12_code [.iload_n 1] 60 = true := by decide +kernel
theorem d_MD_user_61 : decode prog_9_method_12_code 61 = .ok (.iastore, 1) := by decide +kernel
theorem k_MD_user_62 : px_dec prog_9_method_12_code [.aload_n 0] 62 = true := by decide +kernel
theorem d_MD_user_63 : decode prog_9_method_12_code 63 = .ok (.getfield 19, 3) := by decide +kernel
theorem k_MD_user_66 : px_dec prog_9_method_12_code [.aload_n 0] 66 = true := by decide +kernel
theorem d_MD_user_67 : decode prog_9_method_12_code 67 = .ok (.getfield 78, 3) := by decide +kernel
theorem k_MD_user_70 : px_dec prog_9_method_12_code [.iconst 3] 70 = true := by decide +kernel
theorem d_MD_user_71 : decode prog_9_method_12_code 71 = .ok (.iastore, 1) := by decide +kernel
theorem k_MD_user_72 : px_dec prog_9_method_12_code [.aload_n 0] 72 = true := by decide +kernel
theorem d_MD_user_73 : decode prog_9_method_12_code 73 = .ok (.getfield 78, 3) := by decide +kernel
theorem d_MD_user_76 : decode prog_9_method_12_code 76 = .ok (.ireturn, 1) := by decide +kernel
theorem k_MD_user_29 : px_dec prog_9_method_12_code [.iconst 1] 29 = true := by decide +kernel
theorem d_MD_user_30 : decode prog_9_method_12_code 30 = .ok (.goto 4, 3) := by decide +kernel
theorem k_MD_user_40 : px_dec prog_9_method_12_code [.iconst 0] 40 = true := by decide +kernel
theorem d_MD_user_41 : decode prog_9_method_12_code 41 = .ok (.ireturn, 1) := by decide +kernel
theorem k_MD_user_8 : px_dec prog_9_method_12_code [.iconst 1] 8 = true := by decide +kernel
theorem d_MD_user_9 : decode prog_9_method_12_code 9 = .ok (.goto 4, 3) := by decide +kernel
theorem k_MD_user_13 : px_dec prog_9_method_12_code [.istore_n 2, .aload_n 0, .iload_n 2, .iload_n 2] 13 = true := by decide +kernel
set_option maxRecDepth 100000 in
set_option maxHeartbeats 4000000 in
theorem c_MD_user (l : Launch) (D : va_G) (HB : Heap) (h : hp_T) (h0 : hp_T) (y : Nat) (A : Nat → Nat) (V : vT) (x : Int32) (hU : ok_ (V 8 0) 40) (hM : mq D h0 h y A V) : ct_M l y_MD_user (.code y_MD_user prog_9_method_12_code 3 (Option.some Jvm.ClassFile.FieldType.int)) ({ frames := 1, cells := 0, slots := 0, locals := 30 }) D HB [.ref y, .int x] h (fun o h2 => ∃ (cd r : Int32) (V2 : vT), sp_user V x = (cd, r, V2) ∧ o = .inl (some (.int r)) ∧ mq D h0 h2 y A V2) := by
  refine ct_of (by decide) (Nat.le_of_ble_eq_true rfl) rfl ?_
  intro p_ e_ s_ m_ r_ b_ t_ c_ C hnm
  refine wk_run C k_MD_user_0 (pc2 := 2) (lv2 := [(0, .ref y), (1, .int x)]) (st2 := [.int x, .ref y]) rfl ?_
  refine wk_callV (cl := ("ProfileRightsModel", T_MD, 27)) (rest := []) C (c_MD_isGroup l D HB h h0 y A (V) x hM) cs_MD_84 kc_MD_isGroup ki_MD hM.ob rfl rfl rfl (Nat.le_of_ble_eq_true rfl) (Nat.le_of_ble_eq_true rfl) (Nat.le_of_ble_eq_true rfl) (Nat.le_of_ble_eq_true rfl) (Nat.le_of_ble_eq_true rfl) d_MD_user_2 (fun v h2 hq => ?_) (fun _ _ z => nomatch z.1)
  obtain ⟨e1, e2⟩ := hq; cases e1; replace e2 := e2.symm; subst e2
  show Wk _ _ _ _ _ _ _ _ _ _ _ _ _ _ _ _ _ _ _ (.int (if ¬ x < 1 ∧ x ≤ V 7 0 then (1 : Int32) else 0) :: _)
  refine wk_br C d_MD_user_5 (P := ¬ (if ¬ x < 1 ∧ x ≤ V 7 0 then (1 : Int32) else 0) = 0) (tgt := 12) (rest := []) rfl (by decide) (fun c1 => ?_) (fun c1 => ?_)
  ·
    replace c1 := bn_ c1
    refine wk_run C k_MD_user_12 (pc2 := 17) (lv2 := [(2, .int 0), (0, .ref y), (1, .int x)]) (st2 := [.int 0, .int 0, .ref y]) rfl ?_
    refine wk_br C d_MD_user_17 (P := ¬ 0 = 0) (tgt := 33) (rest := [.int 0, .ref y]) rfl (by decide) (fun c2 => ?_) (fun c2 => ?_)
    ·
      exact absurd c2 (by decide)
    ·
      refine wk_run C k_MD_user_20 (pc2 := 21) (lv2 := [(2, .int 0), (0, .ref y), (1, .int x)]) (st2 := [.ref y, .int 0, .ref y]) rfl ?_
      refine wk_get (v := .int (V 8 0)) C fd_MD_78 hM.ob rfl d_MD_user_21 ?_
      refine wk_run C k_MD_user_24 (pc2 := 26) (lv2 := [(2, .int 0), (0, .ref y), (1, .int x)]) (st2 := [.int 40, .int (V 8 0), .int 0, .ref y]) rfl ?_
      refine wk_br C d_MD_user_26 (P := ¬ (V 8 0) = 40) (tgt := 33) (rest := [.int 0, .ref y]) rfl (by decide) (fun c3 => ?_) (fun c3 => ?_)
      ·
        refine wk_run C k_MD_user_33 (pc2 := 34) (lv2 := [(2, .int 0), (0, .ref y), (1, .int x)]) (st2 := [.int 0, .int 0, .ref y]) rfl ?_
        refine wk_callV (cl := ("ProfileRightsModel", T_MD, 27)) (rest := []) C (c_MD_f0 l D HB h h0 y A (V) hM) cs_MD_88 kc_MD_fails ki_MD hM.ob rfl rfl rfl (Nat.le_of_ble_eq_true rfl) (Nat.le_of_ble_eq_true rfl) (Nat.le_of_ble_eq_true rfl) (Nat.le_of_ble_eq_true rfl) (Nat.le_of_ble_eq_true rfl) d_MD_user_34 (fun v h hq => ?_) (fun _ _ z => nomatch z.1)
        obtain ⟨e1, hM⟩ := hq; cases e1
        refine wk_br C d_MD_user_37 (P := 0 = 0) (tgt := 42) (rest := []) rfl (by decide) (fun c4 => ?_) (fun c4 => ?_)
        ·
          refine wk_run C k_MD_user_42 (pc2 := 44) (lv2 := [(2, .int 0), (0, .ref y), (1, .int x)]) (st2 := [.ref y, .ref y]) rfl ?_
          refine wk_get (v := .int (V 8 0)) C fd_MD_78 hM.ob rfl d_MD_user_44 ?_
          refine wk_run C k_MD_user_47 (pc2 := 49) (lv2 := [(2, .int 0), (0, .ref y), (1, .int x)]) (st2 := [.int ((V 8 0) + 1), .ref y]) rfl ?_
          refine wm_put C hM 8 (by simp [sc_]) fd_MD_78 rfl d_MD_user_49 (fun h (hM : mq D h0 h y A (vc (vc (V) 0 0) 8 ((V 8 0) + 1))) => ?_)
          refine wk_run C k_MD_user_52 (pc2 := 53) (lv2 := [(2, .int 0), (0, .ref y), (1, .int x)]) (st2 := [.ref y]) rfl ?_
          refine wk_get (v := .ref (A 2)) C fd_MD_13 hM.ob rfl d_MD_user_53 ?_
          refine wk_run C k_MD_user_56 (pc2 := 57) (lv2 := [(2, .int 0), (0, .ref y), (1, .int x)]) (st2 := [.ref y, .ref (A 2)]) rfl ?_
          refine wk_get (v := .int (((V 8 0) + 1))) C fd_MD_78 hM.ob rfl d_MD_user_57 ?_
          refine wk_run C k_MD_user_60 (pc2 := 61) (lv2 := [(2, .int 0), (0, .ref y), (1, .int x)]) (st2 := [.int x, .int (((V 8 0) + 1)), .ref (A 2)]) rfl ?_
          refine wm_st C hM 2 (j := (nu (V 8 0 + 1))) rfl (vi_k (ok_p hU c3 (by decide)).1 (by decide) (by decide)) rfl d_MD_user_61 (fun h (hM : mq D h0 h y A (vs (vc (vc (V) 0 0) 8 ((V 8 0) + 1)) 2 (upd (V 2) (nu (V 8 0 + 1)) x))) => ?_)
          refine wk_run C k_MD_user_62 (pc2 := 63) (lv2 := [(2, .int 0), (0, .ref y), (1, .int x)]) (st2 := [.ref y]) rfl ?_
          refine wk_get (v := .ref (A 4)) C fd_MD_19 hM.ob rfl d_MD_user_63 ?_
          refine wk_run C k_MD_user_66 (pc2 := 67) (lv2 := [(2, .int 0), (0, .ref y), (1, .int x)]) (st2 := [.ref y, .ref (A 4)]) rfl ?_
          refine wk_get (v := .int (((V 8 0) + 1))) C fd_MD_78 hM.ob rfl d_MD_user_67 ?_
          refine wk_run C k_MD_user_70 (pc2 := 71) (lv2 := [(2, .int 0), (0, .ref y), (1, .int x)]) (st2 := [.int 3, .int (((V 8 0) + 1)), .ref (A 4)]) rfl ?_
          refine wm_st C hM 4 (j := (nu (V 8 0 + 1))) rfl (vi_k (ok_p hU c3 (by decide)).1 (by decide) (by decide)) rfl d_MD_user_71 (fun h (hM : mq D h0 h y A (vs (vs (vc (vc (V) 0 0) 8 ((V 8 0) + 1)) 2 (upd (V 2) (nu (V 8 0 + 1)) x)) 4 (upd (V 4) (nu (V 8 0 + 1)) 3))) => ?_)
          refine wk_run C k_MD_user_72 (pc2 := 73) (lv2 := [(2, .int 0), (0, .ref y), (1, .int x)]) (st2 := [.ref y]) rfl ?_
          refine wk_get (v := .int (((V 8 0) + 1))) C fd_MD_78 hM.ob rfl d_MD_user_73 ?_
          exact wk_iret C ⟨0, (((V 8 0) + 1)), vs (vs (vc (vc (V) 0 0) 8 ((V 8 0) + 1)) 2 (upd (V 2) (nu (V 8 0 + 1)) x)) 4 (upd (V 4) (nu (V 8 0 + 1)) 3), by clear C hM hnm; grind [sp_user], rfl, hM⟩ (by decide) (by decide) d_MD_user_76
        ·
          exact absurd (by decide) c4
      ·
        refine wk_run C k_MD_user_29 (pc2 := 30) (lv2 := [(2, .int 0), (0, .ref y), (1, .int x)]) (st2 := [.int 1, .int 0, .ref y]) rfl ?_
        refine wk_goto C d_MD_user_30 (tgt := 34) (by decide) ?_
        refine wk_callV (cl := ("ProfileRightsModel", T_MD, 27)) (rest := []) C (c_MD_f2 l D HB h h0 y A (V) hM) cs_MD_88 kc_MD_fails ki_MD hM.ob rfl rfl rfl (Nat.le_of_ble_eq_true rfl) (Nat.le_of_ble_eq_true rfl) (Nat.le_of_ble_eq_true rfl) (Nat.le_of_ble_eq_true rfl) (Nat.le_of_ble_eq_true rfl) d_MD_user_34 (fun v h hq => ?_) (fun _ _ z => nomatch z.1)
        obtain ⟨e1, hM⟩ := hq; cases e1
        refine wk_br C d_MD_user_37 (P := 1 = 0) (tgt := 42) (rest := []) rfl (by decide) (fun c5 => ?_) (fun c5 => ?_)
        ·
          exact absurd c5 (by decide)
        ·
          refine wk_run C k_MD_user_40 (pc2 := 41) (lv2 := [(2, .int 0), (0, .ref y), (1, .int x)]) (st2 := [.int 0]) rfl ?_
          exact wk_iret C ⟨2, 0, vc (V) 0 2, by clear C hM hnm; grind [sp_user], rfl, hM⟩ (by decide) (by decide) d_MD_user_41
  ·
    replace c1 := bz_ (Classical.not_not.mp c1)
    refine wk_run C k_MD_user_8 (pc2 := 9) (lv2 := [(0, .ref y), (1, .int x)]) (st2 := [.int 1]) rfl ?_
    refine wk_goto C d_MD_user_9 (tgt := 13) (by decide) ?_
    refine wk_run C k_MD_user_13 (pc2 := 17) (lv2 := [(2, .int 1), (0, .ref y), (1, .int x)]) (st2 := [.int 1, .int 1, .ref y]) rfl ?_
    refine wk_br C d_MD_user_17 (P := ¬ 1 = 0) (tgt := 33) (rest := [.int 1, .ref y]) rfl (by decide) (fun c6 => ?_) (fun c6 => ?_)
    ·
      refine wk_run C k_MD_user_33 (pc2 := 34) (lv2 := [(2, .int 1), (0, .ref y), (1, .int x)]) (st2 := [.int 0, .int 1, .ref y]) rfl ?_
      refine wk_callV (cl := ("ProfileRightsModel", T_MD, 27)) (rest := []) C (c_MD_f1 l D HB h h0 y A (V) hM) cs_MD_88 kc_MD_fails ki_MD hM.ob rfl rfl rfl (Nat.le_of_ble_eq_true rfl) (Nat.le_of_ble_eq_true rfl) (Nat.le_of_ble_eq_true rfl) (Nat.le_of_ble_eq_true rfl) (Nat.le_of_ble_eq_true rfl) d_MD_user_34 (fun v h hq => ?_) (fun _ _ z => nomatch z.1)
      obtain ⟨e1, hM⟩ := hq; cases e1
      refine wk_br C d_MD_user_37 (P := 1 = 0) (tgt := 42) (rest := []) rfl (by decide) (fun c7 => ?_) (fun c7 => ?_)
      ·
        exact absurd c7 (by decide)
      ·
        refine wk_run C k_MD_user_40 (pc2 := 41) (lv2 := [(2, .int 1), (0, .ref y), (1, .int x)]) (st2 := [.int 0]) rfl ?_
        exact wk_iret C ⟨1, 0, vc (V) 0 1, by clear C hM hnm; grind [sp_user], rfl, hM⟩ (by decide) (by decide) d_MD_user_41
    ·
      exact absurd (by decide) c6
theorem k_MD_terminal_0 : px_dec prog_9_method_13_code [.aload_n 0, .aload_n 0, .iload_n 1] 0 = true := by decide +kernel
theorem d_MD_terminal_3 : decode prog_9_method_13_code 3 = .ok (.invokevirtual 92, 3) := by decide +kernel
theorem d_MD_terminal_6 : decode prog_9_method_13_code 6 = .ok (.ifCond .eq 10, 3) := by decide +kernel
theorem k_MD_terminal_16 : px_dec prog_9_method_13_code [.iconst 1] 16 = true := by decide +kernel
theorem d_MD_terminal_17 : decode prog_9_method_13_code 17 = .ok (.goto 4, 3) := by decide +kernel
theorem k_MD_terminal_21 : px_dec prog_9_method_13_code [.iconst 0] 21 = true := by decide +kernel
theorem d_MD_terminal_22 : decode prog_9_method_13_code 22 = .ok (.invokevirtual 88, 3) := by decide +kernel
theorem d_MD_terminal_25 : decode prog_9_method_13_code 25 = .ok (.ifCond .eq 5, 3) := by decide +kernel
theorem k_MD_terminal_28 : px_dec prog_9_method_13_code [.iconst 0] 28 = true := by decide +kernel
theorem d_MD_terminal_29 : decode prog_9_method_13_code 29 = .ok (.ireturn, 1) := by decide +kernel
theorem k_MD_terminal_9 : px_dec prog_9_method_13_code [.iload_n 2] 9 = true := by decide +kernel
theorem d_MD_terminal_10 : decode prog_9_method_13_code 10 = .ok (.invokestatic 95, 3) := by decide +kernel
theorem d_MD_terminal_13 : decode prog_9_method_13_code 13 = .ok (.ifCond .ne 7, 3) := by decide +kernel
theorem k_MD_terminal_20 : px_dec prog_9_method_13_code [.iconst 0, .iconst 0] 20 = true := by decide +kernel
theorem k_MD_terminal_30 : px_dec prog_9_method_13_code [.aload_n 0] 30 = true := by decide +kernel
theorem d_MD_terminal_31 : decode prog_9_method_13_code 31 = .ok (.getfield 16, 3) := by decide +kernel
theorem k_MD_terminal_34 : px_dec prog_9_method_13_code [.iload_n 1] 34 = true := by decide +kernel
theorem d_MD_terminal_35 : decode prog_9_method_13_code 35 = .ok (.iaload, 1) := by decide +kernel
theorem k_MD_terminal_36 : px_dec prog_9_method_13_code [.istore_n 3, .aload_n 0] 36 = true := by decide +kernel
theorem d_MD_terminal_38 : decode prog_9_method_13_code 38 = .ok (.getfield 16, 3) := by decide +kernel
theorem k_MD_terminal_41 : px_dec prog_9_method_13_code [.iload_n 1, .iload_n 2] 41 = true := by decide +kernel
theorem d_MD_terminal_43 : decode prog_9_method_13_code 43 = .ok (.iastore, 1) := by decide +kernel
theorem k_MD_terminal_44 : px_dec prog_9_method_13_code [.iload_n 3] 44 = true := by decide +kernel
theorem d_MD_terminal_45 : decode prog_9_method_13_code 45 = .ok (.ireturn, 1) := by decide +kernel
set_option maxRecDepth 100000 in
set_option maxHeartbeats 4000000 in
theorem c_MD_terminal (l : Launch) (D : va_G) (HB : Heap) (h : hp_T) (h0 : hp_T) (y : Nat) (A : Nat → Nat) (V : vT) (u : Int32) (t : Int32) (hU : ok_ (V 8 0) 40) (hM : mq D h0 h y A V) : ct_M l y_MD_terminal (.code y_MD_terminal prog_9_method_13_code 4 (Option.some Jvm.ClassFile.FieldType.int)) ({ frames := 1, cells := 0, slots := 0, locals := 30 }) D HB [.ref y, .int u, .int t] h (fun o h2 => ∃ (cd r : Int32) (V2 : vT), sp_terminal V u t = (cd, r, V2) ∧ o = .inl (some (.int r)) ∧ mq D h0 h2 y A V2) := by
  refine ct_of (by decide) (Nat.le_of_ble_eq_true rfl) rfl ?_
  intro p_ e_ s_ m_ r_ b_ t_ c_ C hnm
  refine wk_run C k_MD_terminal_0 (pc2 := 3) (lv2 := [(0, .ref y), (1, .int u), (2, .int t)]) (st2 := [.int u, .ref y, .ref y]) rfl ?_
  refine wk_callV (cl := ("ProfileRightsModel", T_MD, 27)) (rest := [.ref y]) C (c_MD_isUser l D HB h h0 y A (V) u hM) cs_MD_92 kc_MD_isUser ki_MD hM.ob rfl rfl rfl (Nat.le_of_ble_eq_true rfl) (Nat.le_of_ble_eq_true rfl) (Nat.le_of_ble_eq_true rfl) (Nat.le_of_ble_eq_true rfl) (Nat.le_of_ble_eq_true rfl) d_MD_terminal_3 (fun v h2 hq => ?_) (fun _ _ z => nomatch z.1)
  obtain ⟨e1, e2⟩ := hq; cases e1; replace e2 := e2.symm; subst e2
  show Wk _ _ _ _ _ _ _ _ _ _ _ _ _ _ _ _ _ _ _ (.int (if ¬ u < 1 ∧ u ≤ V 8 0 then (1 : Int32) else 0) :: _)
  refine wk_br C d_MD_terminal_6 (P := (if ¬ u < 1 ∧ u ≤ V 8 0 then (1 : Int32) else 0) = 0) (tgt := 16) (rest := [.ref y]) rfl (by decide) (fun c1 => ?_) (fun c1 => ?_)
  ·
    replace c1 := bz_ c1
    refine wk_run C k_MD_terminal_16 (pc2 := 17) (lv2 := [(0, .ref y), (1, .int u), (2, .int t)]) (st2 := [.int 1, .ref y]) rfl ?_
    refine wk_goto C d_MD_terminal_17 (tgt := 21) (by decide) ?_
    refine wk_run C k_MD_terminal_21 (pc2 := 22) (lv2 := [(0, .ref y), (1, .int u), (2, .int t)]) (st2 := [.int 0, .int 1, .ref y]) rfl ?_
    refine wk_callV (cl := ("ProfileRightsModel", T_MD, 27)) (rest := []) C (c_MD_f1 l D HB h h0 y A (V) hM) cs_MD_88 kc_MD_fails ki_MD hM.ob rfl rfl rfl (Nat.le_of_ble_eq_true rfl) (Nat.le_of_ble_eq_true rfl) (Nat.le_of_ble_eq_true rfl) (Nat.le_of_ble_eq_true rfl) (Nat.le_of_ble_eq_true rfl) d_MD_terminal_22 (fun v h hq => ?_) (fun _ _ z => nomatch z.1)
    obtain ⟨e1, hM⟩ := hq; cases e1
    refine wk_br C d_MD_terminal_25 (P := 1 = 0) (tgt := 30) (rest := []) rfl (by decide) (fun c2 => ?_) (fun c2 => ?_)
    ·
      exact absurd c2 (by decide)
    ·
      refine wk_run C k_MD_terminal_28 (pc2 := 29) (lv2 := [(0, .ref y), (1, .int u), (2, .int t)]) (st2 := [.int 0]) rfl ?_
      exact wk_iret C ⟨1, 0, vc (V) 0 1, by clear C hM hnm; grind [sp_terminal], rfl, hM⟩ (by decide) (by decide) d_MD_terminal_29
  ·
    replace c1 := bn_ c1
    refine wk_run C k_MD_terminal_9 (pc2 := 10) (lv2 := [(0, .ref y), (1, .int u), (2, .int t)]) (st2 := [.int t, .ref y]) rfl ?_
    refine wk_callS (rest := [.ref y]) C (c_MD_isTerminal l D HB h t) cs_MD_95 kc_MD_isTerminal ki_MD rfl rfl (Nat.le_of_ble_eq_true rfl) (Nat.le_of_ble_eq_true rfl) (Nat.le_of_ble_eq_true rfl) (Nat.le_of_ble_eq_true rfl) (Nat.le_of_ble_eq_true rfl) d_MD_terminal_10 (fun v h2 hq => ?_) (fun _ _ z => nomatch z.1)
    obtain ⟨e1, e2⟩ := hq; cases e1; replace e2 := e2.symm; subst e2
    refine wk_br C d_MD_terminal_13 (P := ¬ (if ¬ t < 0 ∧ t < 100 then (1 : Int32) else 0) = 0) (tgt := 20) (rest := [.ref y]) rfl (by decide) (fun c3 => ?_) (fun c3 => ?_)
    ·
      replace c3 := bn_ c3
      refine wk_run C k_MD_terminal_20 (pc2 := 22) (lv2 := [(0, .ref y), (1, .int u), (2, .int t)]) (st2 := [.int 0, .int 0, .ref y]) rfl ?_
      refine wk_callV (cl := ("ProfileRightsModel", T_MD, 27)) (rest := []) C (c_MD_f0 l D HB h h0 y A (V) hM) cs_MD_88 kc_MD_fails ki_MD hM.ob rfl rfl rfl (Nat.le_of_ble_eq_true rfl) (Nat.le_of_ble_eq_true rfl) (Nat.le_of_ble_eq_true rfl) (Nat.le_of_ble_eq_true rfl) (Nat.le_of_ble_eq_true rfl) d_MD_terminal_22 (fun v h hq => ?_) (fun _ _ z => nomatch z.1)
      obtain ⟨e1, hM⟩ := hq; cases e1
      refine wk_br C d_MD_terminal_25 (P := 0 = 0) (tgt := 30) (rest := []) rfl (by decide) (fun c4 => ?_) (fun c4 => ?_)
      ·
        refine wk_run C k_MD_terminal_30 (pc2 := 31) (lv2 := [(0, .ref y), (1, .int u), (2, .int t)]) (st2 := [.ref y]) rfl ?_
        refine wk_get (v := .ref (A 3)) C fd_MD_16 hM.ob rfl d_MD_terminal_31 ?_
        refine wk_run C k_MD_terminal_34 (pc2 := 35) (lv2 := [(0, .ref y), (1, .int u), (2, .int t)]) (st2 := [.int u, .ref (A 3)]) rfl ?_
        refine wm_ld C hM 3 (j := nu u) rfl (vi_ c1.1 c1.2 hU (by decide) (by decide)) rfl d_MD_terminal_35 ?_
        show Wk _ _ _ _ _ _ _ _ _ _ _ _ _ _ _ _ _ _ _ (.int (V 3 (nu u)) :: _)
        refine wk_run C k_MD_terminal_36 (pc2 := 38) (lv2 := [(3, .int (V 3 (nu u))), (0, .ref y), (1, .int u), (2, .int t)]) (st2 := [.ref y]) rfl ?_
        refine wk_get (v := .ref (A 3)) C fd_MD_16 hM.ob rfl d_MD_terminal_38 ?_
        refine wk_run C k_MD_terminal_41 (pc2 := 43) (lv2 := [(3, .int (V 3 (nu u))), (0, .ref y), (1, .int u), (2, .int t)]) (st2 := [.int t, .int u, .ref (A 3)]) rfl ?_
        refine wm_st C hM 3 (j := (nu u)) rfl (vi_ c1.1 c1.2 hU (by decide) (by decide)) rfl d_MD_terminal_43 (fun h (hM : mq D h0 h y A (vs (vc (V) 0 0) 3 (upd (V 3) (nu u) t))) => ?_)
        refine wk_run C k_MD_terminal_44 (pc2 := 45) (lv2 := [(3, .int (V 3 (nu u))), (0, .ref y), (1, .int u), (2, .int t)]) (st2 := [.int (V 3 (nu u))]) rfl ?_
        exact wk_iret C ⟨0, (V 3 (nu u)), vs (vc (V) 0 0) 3 (upd (V 3) (nu u) t), by clear C hM hnm; grind [sp_terminal], rfl, hM⟩ (by decide) (by decide) d_MD_terminal_45
      ·
        exact absurd (by decide) c4
    ·
      replace c3 := bz_ (Classical.not_not.mp c3)
      refine wk_run C k_MD_terminal_16 (pc2 := 17) (lv2 := [(0, .ref y), (1, .int u), (2, .int t)]) (st2 := [.int 1, .ref y]) rfl ?_
      refine wk_goto C d_MD_terminal_17 (tgt := 21) (by decide) ?_
      refine wk_run C k_MD_terminal_21 (pc2 := 22) (lv2 := [(0, .ref y), (1, .int u), (2, .int t)]) (st2 := [.int 0, .int 1, .ref y]) rfl ?_
      refine wk_callV (cl := ("ProfileRightsModel", T_MD, 27)) (rest := []) C (c_MD_f1 l D HB h h0 y A (V) hM) cs_MD_88 kc_MD_fails ki_MD hM.ob rfl rfl rfl (Nat.le_of_ble_eq_true rfl) (Nat.le_of_ble_eq_true rfl) (Nat.le_of_ble_eq_true rfl) (Nat.le_of_ble_eq_true rfl) (Nat.le_of_ble_eq_true rfl) d_MD_terminal_22 (fun v h hq => ?_) (fun _ _ z => nomatch z.1)
      obtain ⟨e1, hM⟩ := hq; cases e1
      refine wk_br C d_MD_terminal_25 (P := 1 = 0) (tgt := 30) (rest := []) rfl (by decide) (fun c5 => ?_) (fun c5 => ?_)
      ·
        exact absurd c5 (by decide)
      ·
        refine wk_run C k_MD_terminal_28 (pc2 := 29) (lv2 := [(0, .ref y), (1, .int u), (2, .int t)]) (st2 := [.int 0]) rfl ?_
        exact wk_iret C ⟨1, 0, vc (V) 0 1, by clear C hM hnm; grind [sp_terminal], rfl, hM⟩ (by decide) (by decide) d_MD_terminal_29
theorem k_MD_mode_0 : px_dec prog_9_method_18_code [.aload_n 0, .iload_n 1] 0 = true := by decide +kernel
theorem d_MD_mode_2 : decode prog_9_method_18_code 2 = .ok (.invokestatic 98, 3) := by decide +kernel
theorem d_MD_mode_5 : decode prog_9_method_18_code 5 = .ok (.ifCond .eq 12, 3) := by decide +kernel
theorem k_MD_mode_17 : px_dec prog_9_method_18_code [.iconst 1] 17 = true := by decide +kernel
theorem d_MD_mode_18 : decode prog_9_method_18_code 18 = .ok (.goto 4, 3) := by decide +kernel
theorem k_MD_mode_22 : px_dec prog_9_method_18_code [.iconst 0] 22 = true := by decide +kernel
theorem d_MD_mode_23 : decode prog_9_method_18_code 23 = .ok (.invokevirtual 88, 3) := by decide +kernel
theorem d_MD_mode_26 : decode prog_9_method_18_code 26 = .ok (.ifCond .eq 5, 3) := by decide +kernel
theorem k_MD_mode_29 : px_dec prog_9_method_18_code [.iconst 0] 29 = true := by decide +kernel
theorem d_MD_mode_30 : decode prog_9_method_18_code 30 = .ok (.ireturn, 1) := by decide +kernel
theorem k_MD_mode_8 : px_dec prog_9_method_18_code [.iload_n 2] 8 = true := by decide +kernel
theorem d_MD_mode_9 : decode prog_9_method_18_code 9 = .ok (.ifCond .lt 8, 3) := by decide +kernel
theorem k_MD_mode_12 : px_dec prog_9_method_18_code [.iload_n 2, .iconst 2] 12 = true := by decide +kernel
theorem d_MD_mode_14 : decode prog_9_method_18_code 14 = .ok (.if_icmp .le 7, 3) := by decide +kernel
theorem k_MD_mode_21 : px_dec prog_9_method_18_code [.iconst 0, .iconst 0] 21 = true := by decide +kernel
theorem k_MD_mode_31 : px_dec prog_9_method_18_code [.aload_n 0] 31 = true := by decide +kernel
theorem d_MD_mode_32 : decode prog_9_method_18_code 32 = .ok (.getfield 29, 3) := by decide +kernel
theorem k_MD_mode_35 : px_dec prog_9_method_18_code [.iload_n 1] 35 = true := by decide +kernel
theorem d_MD_mode_36 : decode prog_9_method_18_code 36 = .ok (.iaload, 1) := by decide +kernel
theorem k_MD_mode_37 : px_dec prog_9_method_18_code [.istore_n 3, .aload_n 0] 37 = true := by decide +kernel
theorem d_MD_mode_39 : decode prog_9_method_18_code 39 = .ok (.getfield 29, 3) := by decide +kernel
theorem k_MD_mode_42 : px_dec prog_9_method_18_code [.iload_n 1, .iload_n 2] 42 = true := by decide +kernel
theorem d_MD_mode_44 : decode prog_9_method_18_code 44 = .ok (.iastore, 1) := by decide +kernel
theorem k_MD_mode_45 : px_dec prog_9_method_18_code [.iload_n 3] 45 = true := by decide +kernel
theorem d_MD_mode_46 : decode prog_9_method_18_code 46 = .ok (.ireturn, 1) := by decide +kernel
set_option maxRecDepth 100000 in
set_option maxHeartbeats 4000000 in
theorem c_MD_mode (l : Launch) (D : va_G) (HB : Heap) (h : hp_T) (h0 : hp_T) (y : Nat) (A : Nat → Nat) (V : vT) (c : Int32) (m : Int32)  (hM : mq D h0 h y A V) : ct_M l y_MD_mode (.code y_MD_mode prog_9_method_18_code 4 (Option.some Jvm.ClassFile.FieldType.int)) ({ frames := 1, cells := 0, slots := 0, locals := 30 }) D HB [.ref y, .int c, .int m] h (fun o h2 => ∃ (cd r : Int32) (V2 : vT), sp_mode V c m = (cd, r, V2) ∧ o = .inl (some (.int r)) ∧ mq D h0 h2 y A V2) := by
  refine ct_of (by decide) (Nat.le_of_ble_eq_true rfl) rfl ?_
  intro p_ e_ s_ m_ r_ b_ t_ c_ C hnm
  refine wk_run C k_MD_mode_0 (pc2 := 2) (lv2 := [(0, .ref y), (1, .int c), (2, .int m)]) (st2 := [.int c, .ref y]) rfl ?_
  refine wk_callS (rest := [.ref y]) C (c_MD_isClass l D HB h c) cs_MD_98 kc_MD_isClass ki_MD rfl rfl (Nat.le_of_ble_eq_true rfl) (Nat.le_of_ble_eq_true rfl) (Nat.le_of_ble_eq_true rfl) (Nat.le_of_ble_eq_true rfl) (Nat.le_of_ble_eq_true rfl) d_MD_mode_2 (fun v h2 hq => ?_) (fun _ _ z => nomatch z.1)
  obtain ⟨e1, e2⟩ := hq; cases e1; replace e2 := e2.symm; subst e2
  refine wk_br C d_MD_mode_5 (P := (if ¬ c < 0 ∧ c < 8 then (1 : Int32) else 0) = 0) (tgt := 17) (rest := [.ref y]) rfl (by decide) (fun c1 => ?_) (fun c1 => ?_)
  ·
    replace c1 := bz_ c1
    refine wk_run C k_MD_mode_17 (pc2 := 18) (lv2 := [(0, .ref y), (1, .int c), (2, .int m)]) (st2 := [.int 1, .ref y]) rfl ?_
    refine wk_goto C d_MD_mode_18 (tgt := 22) (by decide) ?_
    refine wk_run C k_MD_mode_22 (pc2 := 23) (lv2 := [(0, .ref y), (1, .int c), (2, .int m)]) (st2 := [.int 0, .int 1, .ref y]) rfl ?_
    refine wk_callV (cl := ("ProfileRightsModel", T_MD, 27)) (rest := []) C (c_MD_f1 l D HB h h0 y A (V) hM) cs_MD_88 kc_MD_fails ki_MD hM.ob rfl rfl rfl (Nat.le_of_ble_eq_true rfl) (Nat.le_of_ble_eq_true rfl) (Nat.le_of_ble_eq_true rfl) (Nat.le_of_ble_eq_true rfl) (Nat.le_of_ble_eq_true rfl) d_MD_mode_23 (fun v h hq => ?_) (fun _ _ z => nomatch z.1)
    obtain ⟨e1, hM⟩ := hq; cases e1
    refine wk_br C d_MD_mode_26 (P := 1 = 0) (tgt := 31) (rest := []) rfl (by decide) (fun c2 => ?_) (fun c2 => ?_)
    ·
      exact absurd c2 (by decide)
    ·
      refine wk_run C k_MD_mode_29 (pc2 := 30) (lv2 := [(0, .ref y), (1, .int c), (2, .int m)]) (st2 := [.int 0]) rfl ?_
      exact wk_iret C ⟨1, 0, vc (V) 0 1, by clear C hM hnm; grind [sp_mode], rfl, hM⟩ (by decide) (by decide) d_MD_mode_30
  ·
    replace c1 := bn_ c1
    refine wk_run C k_MD_mode_8 (pc2 := 9) (lv2 := [(0, .ref y), (1, .int c), (2, .int m)]) (st2 := [.int m, .ref y]) rfl ?_
    refine wk_br C d_MD_mode_9 (P := m < 0) (tgt := 17) (rest := [.ref y]) rfl (by decide) (fun c3 => ?_) (fun c3 => ?_)
    ·
      refine wk_run C k_MD_mode_17 (pc2 := 18) (lv2 := [(0, .ref y), (1, .int c), (2, .int m)]) (st2 := [.int 1, .ref y]) rfl ?_
      refine wk_goto C d_MD_mode_18 (tgt := 22) (by decide) ?_
      refine wk_run C k_MD_mode_22 (pc2 := 23) (lv2 := [(0, .ref y), (1, .int c), (2, .int m)]) (st2 := [.int 0, .int 1, .ref y]) rfl ?_
      refine wk_callV (cl := ("ProfileRightsModel", T_MD, 27)) (rest := []) C (c_MD_f1 l D HB h h0 y A (V) hM) cs_MD_88 kc_MD_fails ki_MD hM.ob rfl rfl rfl (Nat.le_of_ble_eq_true rfl) (Nat.le_of_ble_eq_true rfl) (Nat.le_of_ble_eq_true rfl) (Nat.le_of_ble_eq_true rfl) (Nat.le_of_ble_eq_true rfl) d_MD_mode_23 (fun v h hq => ?_) (fun _ _ z => nomatch z.1)
      obtain ⟨e1, hM⟩ := hq; cases e1
      refine wk_br C d_MD_mode_26 (P := 1 = 0) (tgt := 31) (rest := []) rfl (by decide) (fun c4 => ?_) (fun c4 => ?_)
      ·
        exact absurd c4 (by decide)
      ·
        refine wk_run C k_MD_mode_29 (pc2 := 30) (lv2 := [(0, .ref y), (1, .int c), (2, .int m)]) (st2 := [.int 0]) rfl ?_
        exact wk_iret C ⟨1, 0, vc (V) 0 1, by clear C hM hnm; grind [sp_mode], rfl, hM⟩ (by decide) (by decide) d_MD_mode_30
    ·
      refine wk_run C k_MD_mode_12 (pc2 := 14) (lv2 := [(0, .ref y), (1, .int c), (2, .int m)]) (st2 := [.int 2, .int m, .ref y]) rfl ?_
      refine wk_br C d_MD_mode_14 (P := m ≤ 2) (tgt := 21) (rest := [.ref y]) rfl (by decide) (fun c5 => ?_) (fun c5 => ?_)
      ·
        refine wk_run C k_MD_mode_21 (pc2 := 23) (lv2 := [(0, .ref y), (1, .int c), (2, .int m)]) (st2 := [.int 0, .int 0, .ref y]) rfl ?_
        refine wk_callV (cl := ("ProfileRightsModel", T_MD, 27)) (rest := []) C (c_MD_f0 l D HB h h0 y A (V) hM) cs_MD_88 kc_MD_fails ki_MD hM.ob rfl rfl rfl (Nat.le_of_ble_eq_true rfl) (Nat.le_of_ble_eq_true rfl) (Nat.le_of_ble_eq_true rfl) (Nat.le_of_ble_eq_true rfl) (Nat.le_of_ble_eq_true rfl) d_MD_mode_23 (fun v h hq => ?_) (fun _ _ z => nomatch z.1)
        obtain ⟨e1, hM⟩ := hq; cases e1
        refine wk_br C d_MD_mode_26 (P := 0 = 0) (tgt := 31) (rest := []) rfl (by decide) (fun c6 => ?_) (fun c6 => ?_)
        ·
          refine wk_run C k_MD_mode_31 (pc2 := 32) (lv2 := [(0, .ref y), (1, .int c), (2, .int m)]) (st2 := [.ref y]) rfl ?_
          refine wk_get (v := .ref (A 10)) C fd_MD_29 hM.ob rfl d_MD_mode_32 ?_
          refine wk_run C k_MD_mode_35 (pc2 := 36) (lv2 := [(0, .ref y), (1, .int c), (2, .int m)]) (st2 := [.int c, .ref (A 10)]) rfl ?_
          refine wm_ld C hM 10 (j := nu c) rfl (vi_k (ok_c c1.1 c1.2 (show (8 : Int32) = nI (7 + 1) from rfl) (by decide)) (by decide) (by decide)) rfl d_MD_mode_36 ?_
          show Wk _ _ _ _ _ _ _ _ _ _ _ _ _ _ _ _ _ _ _ (.int (V 10 (nu c)) :: _)
          refine wk_run C k_MD_mode_37 (pc2 := 39) (lv2 := [(3, .int (V 10 (nu c))), (0, .ref y), (1, .int c), (2, .int m)]) (st2 := [.ref y]) rfl ?_
          refine wk_get (v := .ref (A 10)) C fd_MD_29 hM.ob rfl d_MD_mode_39 ?_
          refine wk_run C k_MD_mode_42 (pc2 := 44) (lv2 := [(3, .int (V 10 (nu c))), (0, .ref y), (1, .int c), (2, .int m)]) (st2 := [.int m, .int c, .ref (A 10)]) rfl ?_
          refine wm_st C hM 10 (j := (nu c)) rfl (vi_k (ok_c c1.1 c1.2 (show (8 : Int32) = nI (7 + 1) from rfl) (by decide)) (by decide) (by decide)) rfl d_MD_mode_44 (fun h (hM : mq D h0 h y A (vs (vc (V) 0 0) 10 (upd (V 10) (nu c) m))) => ?_)
          refine wk_run C k_MD_mode_45 (pc2 := 46) (lv2 := [(3, .int (V 10 (nu c))), (0, .ref y), (1, .int c), (2, .int m)]) (st2 := [.int (V 10 (nu c))]) rfl ?_
          exact wk_iret C ⟨0, (V 10 (nu c)), vs (vc (V) 0 0) 10 (upd (V 10) (nu c) m), by clear C hM hnm; grind [sp_mode], rfl, hM⟩ (by decide) (by decide) d_MD_mode_46
        ·
          exact absurd (by decide) c6
      ·
        refine wk_run C k_MD_mode_17 (pc2 := 18) (lv2 := [(0, .ref y), (1, .int c), (2, .int m)]) (st2 := [.int 1, .ref y]) rfl ?_
        refine wk_goto C d_MD_mode_18 (tgt := 22) (by decide) ?_
        refine wk_run C k_MD_mode_22 (pc2 := 23) (lv2 := [(0, .ref y), (1, .int c), (2, .int m)]) (st2 := [.int 0, .int 1, .ref y]) rfl ?_
        refine wk_callV (cl := ("ProfileRightsModel", T_MD, 27)) (rest := []) C (c_MD_f1 l D HB h h0 y A (V) hM) cs_MD_88 kc_MD_fails ki_MD hM.ob rfl rfl rfl (Nat.le_of_ble_eq_true rfl) (Nat.le_of_ble_eq_true rfl) (Nat.le_of_ble_eq_true rfl) (Nat.le_of_ble_eq_true rfl) (Nat.le_of_ble_eq_true rfl) d_MD_mode_23 (fun v h hq => ?_) (fun _ _ z => nomatch z.1)
        obtain ⟨e1, hM⟩ := hq; cases e1
        refine wk_br C d_MD_mode_26 (P := 1 = 0) (tgt := 31) (rest := []) rfl (by decide) (fun c7 => ?_) (fun c7 => ?_)
        ·
          exact absurd c7 (by decide)
        ·
          refine wk_run C k_MD_mode_29 (pc2 := 30) (lv2 := [(0, .ref y), (1, .int c), (2, .int m)]) (st2 := [.int 0]) rfl ?_
          exact wk_iret C ⟨1, 0, vc (V) 0 1, by clear C hM hnm; grind [sp_mode], rfl, hM⟩ (by decide) (by decide) d_MD_mode_30
theorem k_MD_profile_0 : px_dec prog_9_method_19_code [.iload_n 1] 0 = true := by decide +kernel
theorem d_MD_profile_1 : decode prog_9_method_19_code 1 = .ok (.invokestatic 98, 3) := by decide +kernel
theorem d_MD_profile_4 : decode prog_9_method_19_code 4 = .ok (.ifCond .eq 11, 3) := by decide +kernel
theorem k_MD_profile_15 : px_dec prog_9_method_19_code [.iconst 1] 15 = true := by decide +kernel
theorem d_MD_profile_16 : decode prog_9_method_19_code 16 = .ok (.goto 4, 3) := by decide +kernel
theorem k_MD_profile_20 : px_dec prog_9_method_19_code [.istore_n 3, .aload_n 0, .iload_n 3, .iload_n 3] 20 = true := by decide +kernel
theorem d_MD_profile_24 : decode prog_9_method_19_code 24 = .ok (.ifCond .ne 16, 3) := by decide +kernel
theorem k_MD_profile_40 : px_dec prog_9_method_19_code [.iconst 0] 40 = true := by decide +kernel
theorem d_MD_profile_41 : decode prog_9_method_19_code 41 = .ok (.invokevirtual 88, 3) := by decide +kernel
theorem d_MD_profile_44 : decode prog_9_method_19_code 44 = .ok (.ifCond .eq 5, 3) := by decide +kernel
theorem k_MD_profile_47 : px_dec prog_9_method_19_code [.iconst 0] 47 = true := by decide +kernel
theorem d_MD_profile_48 : decode prog_9_method_19_code 48 = .ok (.ireturn, 1) := by decide +kernel
theorem k_MD_profile_7 : px_dec prog_9_method_19_code [.aload_n 0, .iload_n 2] 7 = true := by decide +kernel
theorem d_MD_profile_9 : decode prog_9_method_19_code 9 = .ok (.invokevirtual 92, 3) := by decide +kernel
theorem d_MD_profile_12 : decode prog_9_method_19_code 12 = .ok (.ifCond .ne 7, 3) := by decide +kernel
theorem k_MD_profile_19 : px_dec prog_9_method_19_code [.iconst 0, .istore_n 3, .aload_n 0, .iload_n 3, .iload_n 3] 19 = true := by decide +kernel
theorem k_MD_profile_27 : px_dec prog_9_method_19_code [.aload_n 0] 27 = true := by decide +kernel
theorem d_MD_profile_28 : decode prog_9_method_19_code 28 = .ok (.getfield 81, 3) := by decide +kernel
theorem k_MD_profile_31 : px_dec prog_9_method_19_code [.bipush 60] 31 = true := by decide +kernel
theorem d_MD_profile_33 : decode prog_9_method_19_code 33 = .ok (.if_icmp .ne 7, 3) := by decide +kernel
theorem k_MD_profile_49 : px_dec prog_9_method_19_code [.aload_n 0, .dup] 49 = true := by decide +kernel
theorem d_MD_profile_51 : decode prog_9_method_19_code 51 = .ok (.getfield 81, 3) := by decide +kernel
theorem k_MD_profile_54 : px_dec prog_9_method_19_code [.iconst 1, .iadd] 54 = true := by decide +kernel
theorem d_MD_profile_56 : decode prog_9_method_19_code 56 = .ok (.putfield 81, 3) := by decide +kernel
theorem k_MD_profile_59 : px_dec prog_9_method_19_code [.aload_n 0] 59 = true := by decide +kernel
theorem d_MD_profile_60 : decode prog_9_method_19_code 60 = .ok (.getfield 32, 3) := by decide +kernel
theorem k_MD_profile_63 : px_dec prog_9_method_19_code [.aload_n 0] 63 = true := by decide +kernel
theorem d_MD_profile_64 : decode prog_9_method_19_code 64 = .ok (.getfield 81, 3) := by decide +kernel
theorem k_MD_profile_67 : px_dec prog_9_method_19_code [.iload_n 1] 67 = true := by decide +kernel
theorem d_MD_profile_68 : decode prog_9_method_19_code 68 = .ok (.iastore, 1) := by decide +kernel
theorem k_MD_profile_69 : px_dec prog_9_method_19_code [.aload_n 0] 69 = true := by decide +kernel
theorem d_MD_profile_70 : decode prog_9_method_19_code 70 = .ok (.getfield 81, 3) := by decide +kernel
theorem d_MD_profile_73 : decode prog_9_method_19_code 73 = .ok (.ireturn, 1) := by decide +kernel
theorem k_MD_profile_36 : px_dec prog_9_method_19_code [.iconst 1] 36 = true := by decide +kernel
theorem d_MD_profile_37 : decode prog_9_method_19_code 37 = .ok (.goto 4, 3) := by decide +kernel
set_option maxRecDepth 100000 in
set_option maxHeartbeats 4000000 in
theorem c_MD_profile (l : Launch) (D : va_G) (HB : Heap) (h : hp_T) (h0 : hp_T) (y : Nat) (A : Nat → Nat) (V : vT) (c : Int32) (u : Int32) (hP : ok_ (V 9 0) 60) (hM : mq D h0 h y A V) : ct_M l y_MD_profile (.code y_MD_profile prog_9_method_19_code 4 (Option.some Jvm.ClassFile.FieldType.int)) ({ frames := 1, cells := 0, slots := 0, locals := 30 }) D HB [.ref y, .int c, .int u] h (fun o h2 => ∃ (cd r : Int32) (V2 : vT), sp_profile V c u = (cd, r, V2) ∧ o = .inl (some (.int r)) ∧ mq D h0 h2 y A V2) := by
  refine ct_of (by decide) (Nat.le_of_ble_eq_true rfl) rfl ?_
  intro p_ e_ s_ m_ r_ b_ t_ c_ C hnm
  refine wk_run C k_MD_profile_0 (pc2 := 1) (lv2 := [(0, .ref y), (1, .int c), (2, .int u)]) (st2 := [.int c]) rfl ?_
  refine wk_callS (rest := []) C (c_MD_isClass l D HB h c) cs_MD_98 kc_MD_isClass ki_MD rfl rfl (Nat.le_of_ble_eq_true rfl) (Nat.le_of_ble_eq_true rfl) (Nat.le_of_ble_eq_true rfl) (Nat.le_of_ble_eq_true rfl) (Nat.le_of_ble_eq_true rfl) d_MD_profile_1 (fun v h2 hq => ?_) (fun _ _ z => nomatch z.1)
  obtain ⟨e1, e2⟩ := hq; cases e1; replace e2 := e2.symm; subst e2
  refine wk_br C d_MD_profile_4 (P := (if ¬ c < 0 ∧ c < 8 then (1 : Int32) else 0) = 0) (tgt := 15) (rest := []) rfl (by decide) (fun c1 => ?_) (fun c1 => ?_)
  ·
    replace c1 := bz_ c1
    refine wk_run C k_MD_profile_15 (pc2 := 16) (lv2 := [(0, .ref y), (1, .int c), (2, .int u)]) (st2 := [.int 1]) rfl ?_
    refine wk_goto C d_MD_profile_16 (tgt := 20) (by decide) ?_
    refine wk_run C k_MD_profile_20 (pc2 := 24) (lv2 := [(3, .int 1), (0, .ref y), (1, .int c), (2, .int u)]) (st2 := [.int 1, .int 1, .ref y]) rfl ?_
    refine wk_br C d_MD_profile_24 (P := ¬ 1 = 0) (tgt := 40) (rest := [.int 1, .ref y]) rfl (by decide) (fun c2 => ?_) (fun c2 => ?_)
    ·
      refine wk_run C k_MD_profile_40 (pc2 := 41) (lv2 := [(3, .int 1), (0, .ref y), (1, .int c), (2, .int u)]) (st2 := [.int 0, .int 1, .ref y]) rfl ?_
      refine wk_callV (cl := ("ProfileRightsModel", T_MD, 27)) (rest := []) C (c_MD_f1 l D HB h h0 y A (V) hM) cs_MD_88 kc_MD_fails ki_MD hM.ob rfl rfl rfl (Nat.le_of_ble_eq_true rfl) (Nat.le_of_ble_eq_true rfl) (Nat.le_of_ble_eq_true rfl) (Nat.le_of_ble_eq_true rfl) (Nat.le_of_ble_eq_true rfl) d_MD_profile_41 (fun v h hq => ?_) (fun _ _ z => nomatch z.1)
      obtain ⟨e1, hM⟩ := hq; cases e1
      refine wk_br C d_MD_profile_44 (P := 1 = 0) (tgt := 49) (rest := []) rfl (by decide) (fun c3 => ?_) (fun c3 => ?_)
      ·
        exact absurd c3 (by decide)
      ·
        refine wk_run C k_MD_profile_47 (pc2 := 48) (lv2 := [(3, .int 1), (0, .ref y), (1, .int c), (2, .int u)]) (st2 := [.int 0]) rfl ?_
        exact wk_iret C ⟨1, 0, vc (V) 0 1, by clear C hM hnm; grind [sp_profile], rfl, hM⟩ (by decide) (by decide) d_MD_profile_48
    ·
      exact absurd (by decide) c2
  ·
    replace c1 := bn_ c1
    refine wk_run C k_MD_profile_7 (pc2 := 9) (lv2 := [(0, .ref y), (1, .int c), (2, .int u)]) (st2 := [.int u, .ref y]) rfl ?_
    refine wk_callV (cl := ("ProfileRightsModel", T_MD, 27)) (rest := []) C (c_MD_isUser l D HB h h0 y A (V) u hM) cs_MD_92 kc_MD_isUser ki_MD hM.ob rfl rfl rfl (Nat.le_of_ble_eq_true rfl) (Nat.le_of_ble_eq_true rfl) (Nat.le_of_ble_eq_true rfl) (Nat.le_of_ble_eq_true rfl) (Nat.le_of_ble_eq_true rfl) d_MD_profile_9 (fun v h2 hq => ?_) (fun _ _ z => nomatch z.1)
    obtain ⟨e1, e2⟩ := hq; cases e1; replace e2 := e2.symm; subst e2
    show Wk _ _ _ _ _ _ _ _ _ _ _ _ _ _ _ _ _ _ _ (.int (if ¬ u < 1 ∧ u ≤ V 8 0 then (1 : Int32) else 0) :: _)
    refine wk_br C d_MD_profile_12 (P := ¬ (if ¬ u < 1 ∧ u ≤ V 8 0 then (1 : Int32) else 0) = 0) (tgt := 19) (rest := []) rfl (by decide) (fun c4 => ?_) (fun c4 => ?_)
    ·
      replace c4 := bn_ c4
      refine wk_run C k_MD_profile_19 (pc2 := 24) (lv2 := [(3, .int 0), (0, .ref y), (1, .int c), (2, .int u)]) (st2 := [.int 0, .int 0, .ref y]) rfl ?_
      refine wk_br C d_MD_profile_24 (P := ¬ 0 = 0) (tgt := 40) (rest := [.int 0, .ref y]) rfl (by decide) (fun c5 => ?_) (fun c5 => ?_)
      ·
        exact absurd c5 (by decide)
      ·
        refine wk_run C k_MD_profile_27 (pc2 := 28) (lv2 := [(3, .int 0), (0, .ref y), (1, .int c), (2, .int u)]) (st2 := [.ref y, .int 0, .ref y]) rfl ?_
        refine wk_get (v := .int (V 9 0)) C fd_MD_81 hM.ob rfl d_MD_profile_28 ?_
        refine wk_run C k_MD_profile_31 (pc2 := 33) (lv2 := [(3, .int 0), (0, .ref y), (1, .int c), (2, .int u)]) (st2 := [.int 60, .int (V 9 0), .int 0, .ref y]) rfl ?_
        refine wk_br C d_MD_profile_33 (P := ¬ (V 9 0) = 60) (tgt := 40) (rest := [.int 0, .ref y]) rfl (by decide) (fun c6 => ?_) (fun c6 => ?_)
        ·
          refine wk_run C k_MD_profile_40 (pc2 := 41) (lv2 := [(3, .int 0), (0, .ref y), (1, .int c), (2, .int u)]) (st2 := [.int 0, .int 0, .ref y]) rfl ?_
          refine wk_callV (cl := ("ProfileRightsModel", T_MD, 27)) (rest := []) C (c_MD_f0 l D HB h h0 y A (V) hM) cs_MD_88 kc_MD_fails ki_MD hM.ob rfl rfl rfl (Nat.le_of_ble_eq_true rfl) (Nat.le_of_ble_eq_true rfl) (Nat.le_of_ble_eq_true rfl) (Nat.le_of_ble_eq_true rfl) (Nat.le_of_ble_eq_true rfl) d_MD_profile_41 (fun v h hq => ?_) (fun _ _ z => nomatch z.1)
          obtain ⟨e1, hM⟩ := hq; cases e1
          refine wk_br C d_MD_profile_44 (P := 0 = 0) (tgt := 49) (rest := []) rfl (by decide) (fun c7 => ?_) (fun c7 => ?_)
          ·
            refine wk_run C k_MD_profile_49 (pc2 := 51) (lv2 := [(3, .int 0), (0, .ref y), (1, .int c), (2, .int u)]) (st2 := [.ref y, .ref y]) rfl ?_
            refine wk_get (v := .int (V 9 0)) C fd_MD_81 hM.ob rfl d_MD_profile_51 ?_
            refine wk_run C k_MD_profile_54 (pc2 := 56) (lv2 := [(3, .int 0), (0, .ref y), (1, .int c), (2, .int u)]) (st2 := [.int ((V 9 0) + 1), .ref y]) rfl ?_
            refine wm_put C hM 9 (by simp [sc_]) fd_MD_81 rfl d_MD_profile_56 (fun h (hM : mq D h0 h y A (vc (vc (V) 0 0) 9 ((V 9 0) + 1))) => ?_)
            refine wk_run C k_MD_profile_59 (pc2 := 60) (lv2 := [(3, .int 0), (0, .ref y), (1, .int c), (2, .int u)]) (st2 := [.ref y]) rfl ?_
            refine wk_get (v := .ref (A 11)) C fd_MD_32 hM.ob rfl d_MD_profile_60 ?_
            refine wk_run C k_MD_profile_63 (pc2 := 64) (lv2 := [(3, .int 0), (0, .ref y), (1, .int c), (2, .int u)]) (st2 := [.ref y, .ref (A 11)]) rfl ?_
            refine wk_get (v := .int (((V 9 0) + 1))) C fd_MD_81 hM.ob rfl d_MD_profile_64 ?_
            refine wk_run C k_MD_profile_67 (pc2 := 68) (lv2 := [(3, .int 0), (0, .ref y), (1, .int c), (2, .int u)]) (st2 := [.int c, .int (((V 9 0) + 1)), .ref (A 11)]) rfl ?_
            refine wm_st C hM 11 (j := (nu (V 9 0 + 1))) rfl (vi_k (ok_p hP c6 (by decide)).1 (by decide) (by decide)) rfl d_MD_profile_68 (fun h (hM : mq D h0 h y A (vs (vc (vc (V) 0 0) 9 ((V 9 0) + 1)) 11 (upd (V 11) (nu (V 9 0 + 1)) c))) => ?_)
            refine wk_run C k_MD_profile_69 (pc2 := 70) (lv2 := [(3, .int 0), (0, .ref y), (1, .int c), (2, .int u)]) (st2 := [.ref y]) rfl ?_
            refine wk_get (v := .int (((V 9 0) + 1))) C fd_MD_81 hM.ob rfl d_MD_profile_70 ?_
            exact wk_iret C ⟨0, (((V 9 0) + 1)), vs (vc (vc (V) 0 0) 9 ((V 9 0) + 1)) 11 (upd (V 11) (nu (V 9 0 + 1)) c), by clear C hM hnm; grind [sp_profile], rfl, hM⟩ (by decide) (by decide) d_MD_profile_73
          ·
            exact absurd (by decide) c7
        ·
          refine wk_run C k_MD_profile_36 (pc2 := 37) (lv2 := [(3, .int 0), (0, .ref y), (1, .int c), (2, .int u)]) (st2 := [.int 1, .int 0, .ref y]) rfl ?_
          refine wk_goto C d_MD_profile_37 (tgt := 41) (by decide) ?_
          refine wk_callV (cl := ("ProfileRightsModel", T_MD, 27)) (rest := []) C (c_MD_f2 l D HB h h0 y A (V) hM) cs_MD_88 kc_MD_fails ki_MD hM.ob rfl rfl rfl (Nat.le_of_ble_eq_true rfl) (Nat.le_of_ble_eq_true rfl) (Nat.le_of_ble_eq_true rfl) (Nat.le_of_ble_eq_true rfl) (Nat.le_of_ble_eq_true rfl) d_MD_profile_41 (fun v h hq => ?_) (fun _ _ z => nomatch z.1)
          obtain ⟨e1, hM⟩ := hq; cases e1
          refine wk_br C d_MD_profile_44 (P := 1 = 0) (tgt := 49) (rest := []) rfl (by decide) (fun c8 => ?_) (fun c8 => ?_)
          ·
            exact absurd c8 (by decide)
          ·
            refine wk_run C k_MD_profile_47 (pc2 := 48) (lv2 := [(3, .int 0), (0, .ref y), (1, .int c), (2, .int u)]) (st2 := [.int 0]) rfl ?_
            exact wk_iret C ⟨2, 0, vc (V) 0 2, by clear C hM hnm; grind [sp_profile], rfl, hM⟩ (by decide) (by decide) d_MD_profile_48
    ·
      replace c4 := bz_ (Classical.not_not.mp c4)
      refine wk_run C k_MD_profile_15 (pc2 := 16) (lv2 := [(0, .ref y), (1, .int c), (2, .int u)]) (st2 := [.int 1]) rfl ?_
      refine wk_goto C d_MD_profile_16 (tgt := 20) (by decide) ?_
      refine wk_run C k_MD_profile_20 (pc2 := 24) (lv2 := [(3, .int 1), (0, .ref y), (1, .int c), (2, .int u)]) (st2 := [.int 1, .int 1, .ref y]) rfl ?_
      refine wk_br C d_MD_profile_24 (P := ¬ 1 = 0) (tgt := 40) (rest := [.int 1, .ref y]) rfl (by decide) (fun c9 => ?_) (fun c9 => ?_)
      ·
        refine wk_run C k_MD_profile_40 (pc2 := 41) (lv2 := [(3, .int 1), (0, .ref y), (1, .int c), (2, .int u)]) (st2 := [.int 0, .int 1, .ref y]) rfl ?_
        refine wk_callV (cl := ("ProfileRightsModel", T_MD, 27)) (rest := []) C (c_MD_f1 l D HB h h0 y A (V) hM) cs_MD_88 kc_MD_fails ki_MD hM.ob rfl rfl rfl (Nat.le_of_ble_eq_true rfl) (Nat.le_of_ble_eq_true rfl) (Nat.le_of_ble_eq_true rfl) (Nat.le_of_ble_eq_true rfl) (Nat.le_of_ble_eq_true rfl) d_MD_profile_41 (fun v h hq => ?_) (fun _ _ z => nomatch z.1)
        obtain ⟨e1, hM⟩ := hq; cases e1
        refine wk_br C d_MD_profile_44 (P := 1 = 0) (tgt := 49) (rest := []) rfl (by decide) (fun c10 => ?_) (fun c10 => ?_)
        ·
          exact absurd c10 (by decide)
        ·
          refine wk_run C k_MD_profile_47 (pc2 := 48) (lv2 := [(3, .int 1), (0, .ref y), (1, .int c), (2, .int u)]) (st2 := [.int 0]) rfl ?_
          exact wk_iret C ⟨1, 0, vc (V) 0 1, by clear C hM hnm; grind [sp_profile], rfl, hM⟩ (by decide) (by decide) d_MD_profile_48
      ·
        exact absurd (by decide) c9
theorem k_MD_universal_0 : px_dec prog_9_method_21_code [.aload_n 0, .aload_n 0, .iload_n 1] 0 = true := by decide +kernel
theorem d_MD_universal_3 : decode prog_9_method_21_code 3 = .ok (.invokevirtual 101, 3) := by decide +kernel
theorem d_MD_universal_6 : decode prog_9_method_21_code 6 = .ok (.ifCond .eq 22, 3) := by decide +kernel
theorem k_MD_universal_28 : px_dec prog_9_method_21_code [.iconst 1] 28 = true := by decide +kernel
theorem d_MD_universal_29 : decode prog_9_method_21_code 29 = .ok (.goto 4, 3) := by decide +kernel
theorem k_MD_universal_33 : px_dec prog_9_method_21_code [.iconst 0] 33 = true := by decide +kernel
theorem d_MD_universal_34 : decode prog_9_method_21_code 34 = .ok (.invokevirtual 88, 3) := by decide +kernel
theorem d_MD_universal_37 : decode prog_9_method_21_code 37 = .ok (.ifCond .eq 5, 3) := by decide +kernel
theorem k_MD_universal_40 : px_dec prog_9_method_21_code [.iconst 0] 40 = true := by decide +kernel
theorem d_MD_universal_41 : decode prog_9_method_21_code 41 = .ok (.ireturn, 1) := by decide +kernel
theorem k_MD_universal_9 : px_dec prog_9_method_21_code [.iload_n 2] 9 = true := by decide +kernel
theorem d_MD_universal_10 : decode prog_9_method_21_code 10 = .ok (.ifCond .lt 18, 3) := by decide +kernel
theorem k_MD_universal_13 : px_dec prog_9_method_21_code [.iload_n 2, .iconst 4] 13 = true := by decide +kernel
theorem d_MD_universal_15 : decode prog_9_method_21_code 15 = .ok (.if_icmp .gt 13, 3) := by decide +kernel
theorem k_MD_universal_18 : px_dec prog_9_method_21_code [.iload_n 3] 18 = true := by decide +kernel
theorem d_MD_universal_19 : decode prog_9_method_21_code 19 = .ok (.ifCond .lt 9, 3) := by decide +kernel
theorem k_MD_universal_22 : px_dec prog_9_method_21_code [.iload_n 3, .bipush 7] 22 = true := by decide +kernel
theorem d_MD_universal_25 : decode prog_9_method_21_code 25 = .ok (.if_icmp .le 7, 3) := by decide +kernel
theorem k_MD_universal_32 : px_dec prog_9_method_21_code [.iconst 0, .iconst 0] 32 = true := by decide +kernel
theorem k_MD_universal_42 : px_dec prog_9_method_21_code [.bipush 8, .aload_n 0] 42 = true := by decide +kernel
theorem d_MD_universal_45 : decode prog_9_method_21_code 45 = .ok (.getfield 41, 3) := by decide +kernel
theorem k_MD_universal_48 : px_dec prog_9_method_21_code [.iload_n 1] 48 = true := by decide +kernel
theorem d_MD_universal_49 : decode prog_9_method_21_code 49 = .ok (.iaload, 1) := by decide +kernel
theorem k_MD_universal_50 : px_dec prog_9_method_21_code [.imul, .aload_n 0] 50 = true := by decide +kernel
theorem d_MD_universal_52 : decode prog_9_method_21_code 52 = .ok (.getfield 44, 3) := by decide +kernel
theorem k_MD_universal_55 : px_dec prog_9_method_21_code [.iload_n 1] 55 = true := by decide +kernel
theorem d_MD_universal_56 : decode prog_9_method_21_code 56 = .ok (.iaload, 1) := by decide +kernel
theorem k_MD_universal_57 : px_dec prog_9_method_21_code [.iadd, .istore 4, .aload_n 0] 57 = true := by decide +kernel
theorem d_MD_universal_61 : decode prog_9_method_21_code 61 = .ok (.getfield 41, 3) := by decide +kernel
theorem k_MD_universal_64 : px_dec prog_9_method_21_code [.iload_n 1, .iload_n 2] 64 = true := by decide +kernel
theorem d_MD_universal_66 : decode prog_9_method_21_code 66 = .ok (.iastore, 1) := by decide +kernel
theorem k_MD_universal_67 : px_dec prog_9_method_21_code [.aload_n 0] 67 = true := by decide +kernel
theorem d_MD_universal_68 : decode prog_9_method_21_code 68 = .ok (.getfield 44, 3) := by decide +kernel
theorem k_MD_universal_71 : px_dec prog_9_method_21_code [.iload_n 1, .iload_n 3] 71 = true := by decide +kernel
theorem d_MD_universal_73 : decode prog_9_method_21_code 73 = .ok (.iastore, 1) := by decide +kernel
theorem k_MD_universal_74 : px_dec prog_9_method_21_code [.iload 4] 74 = true := by decide +kernel
theorem d_MD_universal_76 : decode prog_9_method_21_code 76 = .ok (.ireturn, 1) := by decide +kernel
set_option maxRecDepth 100000 in
set_option maxHeartbeats 4000000 in
theorem c_MD_universal (l : Launch) (D : va_G) (HB : Heap) (h : hp_T) (h0 : hp_T) (y : Nat) (A : Nat → Nat) (V : vT) (p : Int32) (a : Int32) (m : Int32) (hP : ok_ (V 9 0) 60) (hM : mq D h0 h y A V) : ct_M l y_MD_universal (.code y_MD_universal prog_9_method_21_code 5 (Option.some Jvm.ClassFile.FieldType.int)) ({ frames := 1, cells := 0, slots := 0, locals := 30 }) D HB [.ref y, .int p, .int a, .int m] h (fun o h2 => ∃ (cd r : Int32) (V2 : vT), sp_universal V p a m = (cd, r, V2) ∧ o = .inl (some (.int r)) ∧ mq D h0 h2 y A V2) := by
  refine ct_of (by decide) (Nat.le_of_ble_eq_true rfl) rfl ?_
  intro p_ e_ s_ m_ r_ b_ t_ c_ C hnm
  refine wk_run C k_MD_universal_0 (pc2 := 3) (lv2 := [(0, .ref y), (1, .int p), (2, .int a), (3, .int m)]) (st2 := [.int p, .ref y, .ref y]) rfl ?_
  refine wk_callV (cl := ("ProfileRightsModel", T_MD, 27)) (rest := [.ref y]) C (c_MD_isProfile l D HB h h0 y A (V) p hM) cs_MD_101 kc_MD_isProfile ki_MD hM.ob rfl rfl rfl (Nat.le_of_ble_eq_true rfl) (Nat.le_of_ble_eq_true rfl) (Nat.le_of_ble_eq_true rfl) (Nat.le_of_ble_eq_true rfl) (Nat.le_of_ble_eq_true rfl) d_MD_universal_3 (fun v h2 hq => ?_) (fun _ _ z => nomatch z.1)
  obtain ⟨e1, e2⟩ := hq; cases e1; replace e2 := e2.symm; subst e2
  show Wk _ _ _ _ _ _ _ _ _ _ _ _ _ _ _ _ _ _ _ (.int (if ¬ p < 1 ∧ p ≤ V 9 0 then (1 : Int32) else 0) :: _)
  refine wk_br C d_MD_universal_6 (P := (if ¬ p < 1 ∧ p ≤ V 9 0 then (1 : Int32) else 0) = 0) (tgt := 28) (rest := [.ref y]) rfl (by decide) (fun c1 => ?_) (fun c1 => ?_)
  ·
    replace c1 := bz_ c1
    refine wk_run C k_MD_universal_28 (pc2 := 29) (lv2 := [(0, .ref y), (1, .int p), (2, .int a), (3, .int m)]) (st2 := [.int 1, .ref y]) rfl ?_
    refine wk_goto C d_MD_universal_29 (tgt := 33) (by decide) ?_
    refine wk_run C k_MD_universal_33 (pc2 := 34) (lv2 := [(0, .ref y), (1, .int p), (2, .int a), (3, .int m)]) (st2 := [.int 0, .int 1, .ref y]) rfl ?_
    refine wk_callV (cl := ("ProfileRightsModel", T_MD, 27)) (rest := []) C (c_MD_f1 l D HB h h0 y A (V) hM) cs_MD_88 kc_MD_fails ki_MD hM.ob rfl rfl rfl (Nat.le_of_ble_eq_true rfl) (Nat.le_of_ble_eq_true rfl) (Nat.le_of_ble_eq_true rfl) (Nat.le_of_ble_eq_true rfl) (Nat.le_of_ble_eq_true rfl) d_MD_universal_34 (fun v h hq => ?_) (fun _ _ z => nomatch z.1)
    obtain ⟨e1, hM⟩ := hq; cases e1
    refine wk_br C d_MD_universal_37 (P := 1 = 0) (tgt := 42) (rest := []) rfl (by decide) (fun c2 => ?_) (fun c2 => ?_)
    ·
      exact absurd c2 (by decide)
    ·
      refine wk_run C k_MD_universal_40 (pc2 := 41) (lv2 := [(0, .ref y), (1, .int p), (2, .int a), (3, .int m)]) (st2 := [.int 0]) rfl ?_
      exact wk_iret C ⟨1, 0, vc (V) 0 1, by clear C hM hnm; grind [sp_universal], rfl, hM⟩ (by decide) (by decide) d_MD_universal_41
  ·
    replace c1 := bn_ c1
    refine wk_run C k_MD_universal_9 (pc2 := 10) (lv2 := [(0, .ref y), (1, .int p), (2, .int a), (3, .int m)]) (st2 := [.int a, .ref y]) rfl ?_
    refine wk_br C d_MD_universal_10 (P := a < 0) (tgt := 28) (rest := [.ref y]) rfl (by decide) (fun c3 => ?_) (fun c3 => ?_)
    ·
      refine wk_run C k_MD_universal_28 (pc2 := 29) (lv2 := [(0, .ref y), (1, .int p), (2, .int a), (3, .int m)]) (st2 := [.int 1, .ref y]) rfl ?_
      refine wk_goto C d_MD_universal_29 (tgt := 33) (by decide) ?_
      refine wk_run C k_MD_universal_33 (pc2 := 34) (lv2 := [(0, .ref y), (1, .int p), (2, .int a), (3, .int m)]) (st2 := [.int 0, .int 1, .ref y]) rfl ?_
      refine wk_callV (cl := ("ProfileRightsModel", T_MD, 27)) (rest := []) C (c_MD_f1 l D HB h h0 y A (V) hM) cs_MD_88 kc_MD_fails ki_MD hM.ob rfl rfl rfl (Nat.le_of_ble_eq_true rfl) (Nat.le_of_ble_eq_true rfl) (Nat.le_of_ble_eq_true rfl) (Nat.le_of_ble_eq_true rfl) (Nat.le_of_ble_eq_true rfl) d_MD_universal_34 (fun v h hq => ?_) (fun _ _ z => nomatch z.1)
      obtain ⟨e1, hM⟩ := hq; cases e1
      refine wk_br C d_MD_universal_37 (P := 1 = 0) (tgt := 42) (rest := []) rfl (by decide) (fun c4 => ?_) (fun c4 => ?_)
      ·
        exact absurd c4 (by decide)
      ·
        refine wk_run C k_MD_universal_40 (pc2 := 41) (lv2 := [(0, .ref y), (1, .int p), (2, .int a), (3, .int m)]) (st2 := [.int 0]) rfl ?_
        exact wk_iret C ⟨1, 0, vc (V) 0 1, by clear C hM hnm; grind [sp_universal], rfl, hM⟩ (by decide) (by decide) d_MD_universal_41
    ·
      refine wk_run C k_MD_universal_13 (pc2 := 15) (lv2 := [(0, .ref y), (1, .int p), (2, .int a), (3, .int m)]) (st2 := [.int 4, .int a, .ref y]) rfl ?_
      refine wk_br C d_MD_universal_15 (P := 4 < a) (tgt := 28) (rest := [.ref y]) rfl (by decide) (fun c5 => ?_) (fun c5 => ?_)
      ·
        refine wk_run C k_MD_universal_28 (pc2 := 29) (lv2 := [(0, .ref y), (1, .int p), (2, .int a), (3, .int m)]) (st2 := [.int 1, .ref y]) rfl ?_
        refine wk_goto C d_MD_universal_29 (tgt := 33) (by decide) ?_
        refine wk_run C k_MD_universal_33 (pc2 := 34) (lv2 := [(0, .ref y), (1, .int p), (2, .int a), (3, .int m)]) (st2 := [.int 0, .int 1, .ref y]) rfl ?_
        refine wk_callV (cl := ("ProfileRightsModel", T_MD, 27)) (rest := []) C (c_MD_f1 l D HB h h0 y A (V) hM) cs_MD_88 kc_MD_fails ki_MD hM.ob rfl rfl rfl (Nat.le_of_ble_eq_true rfl) (Nat.le_of_ble_eq_true rfl) (Nat.le_of_ble_eq_true rfl) (Nat.le_of_ble_eq_true rfl) (Nat.le_of_ble_eq_true rfl) d_MD_universal_34 (fun v h hq => ?_) (fun _ _ z => nomatch z.1)
        obtain ⟨e1, hM⟩ := hq; cases e1
        refine wk_br C d_MD_universal_37 (P := 1 = 0) (tgt := 42) (rest := []) rfl (by decide) (fun c6 => ?_) (fun c6 => ?_)
        ·
          exact absurd c6 (by decide)
        ·
          refine wk_run C k_MD_universal_40 (pc2 := 41) (lv2 := [(0, .ref y), (1, .int p), (2, .int a), (3, .int m)]) (st2 := [.int 0]) rfl ?_
          exact wk_iret C ⟨1, 0, vc (V) 0 1, by clear C hM hnm; grind [sp_universal], rfl, hM⟩ (by decide) (by decide) d_MD_universal_41
      ·
        refine wk_run C k_MD_universal_18 (pc2 := 19) (lv2 := [(0, .ref y), (1, .int p), (2, .int a), (3, .int m)]) (st2 := [.int m, .ref y]) rfl ?_
        refine wk_br C d_MD_universal_19 (P := m < 0) (tgt := 28) (rest := [.ref y]) rfl (by decide) (fun c7 => ?_) (fun c7 => ?_)
        ·
          refine wk_run C k_MD_universal_28 (pc2 := 29) (lv2 := [(0, .ref y), (1, .int p), (2, .int a), (3, .int m)]) (st2 := [.int 1, .ref y]) rfl ?_
          refine wk_goto C d_MD_universal_29 (tgt := 33) (by decide) ?_
          refine wk_run C k_MD_universal_33 (pc2 := 34) (lv2 := [(0, .ref y), (1, .int p), (2, .int a), (3, .int m)]) (st2 := [.int 0, .int 1, .ref y]) rfl ?_
          refine wk_callV (cl := ("ProfileRightsModel", T_MD, 27)) (rest := []) C (c_MD_f1 l D HB h h0 y A (V) hM) cs_MD_88 kc_MD_fails ki_MD hM.ob rfl rfl rfl (Nat.le_of_ble_eq_true rfl) (Nat.le_of_ble_eq_true rfl) (Nat.le_of_ble_eq_true rfl) (Nat.le_of_ble_eq_true rfl) (Nat.le_of_ble_eq_true rfl) d_MD_universal_34 (fun v h hq => ?_) (fun _ _ z => nomatch z.1)
          obtain ⟨e1, hM⟩ := hq; cases e1
          refine wk_br C d_MD_universal_37 (P := 1 = 0) (tgt := 42) (rest := []) rfl (by decide) (fun c8 => ?_) (fun c8 => ?_)
          ·
            exact absurd c8 (by decide)
          ·
            refine wk_run C k_MD_universal_40 (pc2 := 41) (lv2 := [(0, .ref y), (1, .int p), (2, .int a), (3, .int m)]) (st2 := [.int 0]) rfl ?_
            exact wk_iret C ⟨1, 0, vc (V) 0 1, by clear C hM hnm; grind [sp_universal], rfl, hM⟩ (by decide) (by decide) d_MD_universal_41
        ·
          refine wk_run C k_MD_universal_22 (pc2 := 25) (lv2 := [(0, .ref y), (1, .int p), (2, .int a), (3, .int m)]) (st2 := [.int 7, .int m, .ref y]) rfl ?_
          refine wk_br C d_MD_universal_25 (P := m ≤ 7) (tgt := 32) (rest := [.ref y]) rfl (by decide) (fun c9 => ?_) (fun c9 => ?_)
          ·
            refine wk_run C k_MD_universal_32 (pc2 := 34) (lv2 := [(0, .ref y), (1, .int p), (2, .int a), (3, .int m)]) (st2 := [.int 0, .int 0, .ref y]) rfl ?_
            refine wk_callV (cl := ("ProfileRightsModel", T_MD, 27)) (rest := []) C (c_MD_f0 l D HB h h0 y A (V) hM) cs_MD_88 kc_MD_fails ki_MD hM.ob rfl rfl rfl (Nat.le_of_ble_eq_true rfl) (Nat.le_of_ble_eq_true rfl) (Nat.le_of_ble_eq_true rfl) (Nat.le_of_ble_eq_true rfl) (Nat.le_of_ble_eq_true rfl) d_MD_universal_34 (fun v h hq => ?_) (fun _ _ z => nomatch z.1)
            obtain ⟨e1, hM⟩ := hq; cases e1
            refine wk_br C d_MD_universal_37 (P := 0 = 0) (tgt := 42) (rest := []) rfl (by decide) (fun c10 => ?_) (fun c10 => ?_)
            ·
              refine wk_run C k_MD_universal_42 (pc2 := 45) (lv2 := [(0, .ref y), (1, .int p), (2, .int a), (3, .int m)]) (st2 := [.ref y, .int 8]) rfl ?_
              refine wk_get (v := .ref (A 14)) C fd_MD_41 hM.ob rfl d_MD_universal_45 ?_
              refine wk_run C k_MD_universal_48 (pc2 := 49) (lv2 := [(0, .ref y), (1, .int p), (2, .int a), (3, .int m)]) (st2 := [.int p, .ref (A 14), .int 8]) rfl ?_
              refine wm_ld C hM 14 (j := nu p) rfl (vi_ c1.1 c1.2 hP (by decide) (by decide)) rfl d_MD_universal_49 ?_
              show Wk _ _ _ _ _ _ _ _ _ _ _ _ _ _ _ _ _ _ _ (.int (V 14 (nu p)) :: _)
              refine wk_run C k_MD_universal_50 (pc2 := 52) (lv2 := [(0, .ref y), (1, .int p), (2, .int a), (3, .int m)]) (st2 := [.ref y, .int (8 * (V 14 (nu p)))]) rfl ?_
              refine wk_get (v := .ref (A 15)) C fd_MD_44 hM.ob rfl d_MD_universal_52 ?_
              refine wk_run C k_MD_universal_55 (pc2 := 56) (lv2 := [(0, .ref y), (1, .int p), (2, .int a), (3, .int m)]) (st2 := [.int p, .ref (A 15), .int (8 * (V 14 (nu p)))]) rfl ?_
              refine wm_ld C hM 15 (j := nu p) rfl (vi_ c1.1 c1.2 hP (by decide) (by decide)) rfl d_MD_universal_56 ?_
              show Wk _ _ _ _ _ _ _ _ _ _ _ _ _ _ _ _ _ _ _ (.int (V 15 (nu p)) :: _)
              refine wk_run C k_MD_universal_57 (pc2 := 61) (lv2 := [(4, .int ((8 * (V 14 (nu p))) + (V 15 (nu p)))), (0, .ref y), (1, .int p), (2, .int a), (3, .int m)]) (st2 := [.ref y]) rfl ?_
              refine wk_get (v := .ref (A 14)) C fd_MD_41 hM.ob rfl d_MD_universal_61 ?_
              refine wk_run C k_MD_universal_64 (pc2 := 66) (lv2 := [(4, .int ((8 * (V 14 (nu p))) + (V 15 (nu p)))), (0, .ref y), (1, .int p), (2, .int a), (3, .int m)]) (st2 := [.int a, .int p, .ref (A 14)]) rfl ?_
              refine wm_st C hM 14 (j := (nu p)) rfl (vi_ c1.1 c1.2 hP (by decide) (by decide)) rfl d_MD_universal_66 (fun h (hM : mq D h0 h y A (vs (vc (V) 0 0) 14 (upd (V 14) (nu p) a))) => ?_)
              refine wk_run C k_MD_universal_67 (pc2 := 68) (lv2 := [(4, .int ((8 * (V 14 (nu p))) + (V 15 (nu p)))), (0, .ref y), (1, .int p), (2, .int a), (3, .int m)]) (st2 := [.ref y]) rfl ?_
              refine wk_get (v := .ref (A 15)) C fd_MD_44 hM.ob rfl d_MD_universal_68 ?_
              refine wk_run C k_MD_universal_71 (pc2 := 73) (lv2 := [(4, .int ((8 * (V 14 (nu p))) + (V 15 (nu p)))), (0, .ref y), (1, .int p), (2, .int a), (3, .int m)]) (st2 := [.int m, .int p, .ref (A 15)]) rfl ?_
              refine wm_st C hM 15 (j := (nu p)) rfl (vi_ c1.1 c1.2 hP (by decide) (by decide)) rfl d_MD_universal_73 (fun h (hM : mq D h0 h y A (vs (vs (vc (V) 0 0) 14 (upd (V 14) (nu p) a)) 15 (upd (V 15) (nu p) m))) => ?_)
              refine wk_run C k_MD_universal_74 (pc2 := 76) (lv2 := [(4, .int ((8 * (V 14 (nu p))) + (V 15 (nu p)))), (0, .ref y), (1, .int p), (2, .int a), (3, .int m)]) (st2 := [.int ((8 * (V 14 (nu p))) + (V 15 (nu p)))]) rfl ?_
              exact wk_iret C ⟨0, ((8 * (V 14 (nu p))) + (V 15 (nu p))), vs (vs (vc (V) 0 0) 14 (upd (V 14) (nu p) a)) 15 (upd (V 15) (nu p) m), by clear C hM hnm; grind [sp_universal], rfl, hM⟩ (by decide) (by decide) d_MD_universal_76
            ·
              exact absurd (by decide) c10
          ·
            refine wk_run C k_MD_universal_28 (pc2 := 29) (lv2 := [(0, .ref y), (1, .int p), (2, .int a), (3, .int m)]) (st2 := [.int 1, .ref y]) rfl ?_
            refine wk_goto C d_MD_universal_29 (tgt := 33) (by decide) ?_
            refine wk_run C k_MD_universal_33 (pc2 := 34) (lv2 := [(0, .ref y), (1, .int p), (2, .int a), (3, .int m)]) (st2 := [.int 0, .int 1, .ref y]) rfl ?_
            refine wk_callV (cl := ("ProfileRightsModel", T_MD, 27)) (rest := []) C (c_MD_f1 l D HB h h0 y A (V) hM) cs_MD_88 kc_MD_fails ki_MD hM.ob rfl rfl rfl (Nat.le_of_ble_eq_true rfl) (Nat.le_of_ble_eq_true rfl) (Nat.le_of_ble_eq_true rfl) (Nat.le_of_ble_eq_true rfl) (Nat.le_of_ble_eq_true rfl) d_MD_universal_34 (fun v h hq => ?_) (fun _ _ z => nomatch z.1)
            obtain ⟨e1, hM⟩ := hq; cases e1
            refine wk_br C d_MD_universal_37 (P := 1 = 0) (tgt := 42) (rest := []) rfl (by decide) (fun c11 => ?_) (fun c11 => ?_)
            ·
              exact absurd c11 (by decide)
            ·
              refine wk_run C k_MD_universal_40 (pc2 := 41) (lv2 := [(0, .ref y), (1, .int p), (2, .int a), (3, .int m)]) (st2 := [.int 0]) rfl ?_
              exact wk_iret C ⟨1, 0, vc (V) 0 1, by clear C hM hnm; grind [sp_universal], rfl, hM⟩ (by decide) (by decide) d_MD_universal_41
theorem k_MD_matched_0 : px_dec prog_9_method_37_code [.aload_n 0, .iconst 0] 0 = true := by decide +kernel
theorem d_MD_matched_2 : decode prog_9_method_37_code 2 = .ok (.putfield 71, 3) := by decide +kernel
theorem k_MD_matched_5 : px_dec prog_9_method_37_code [.aload_n 0] 5 = true := by decide +kernel
theorem d_MD_matched_6 : decode prog_9_method_37_code 6 = .ok (.getfield 140, 3) := by decide +kernel
theorem d_MD_matched_9 : decode prog_9_method_37_code 9 = .ok (.ireturn, 1) := by decide +kernel
set_option maxRecDepth 100000 in
set_option maxHeartbeats 4000000 in
theorem c_MD_matched (l : Launch) (D : va_G) (HB : Heap) (h : hp_T) (h0 : hp_T) (y : Nat) (A : Nat → Nat) (V : vT)  (hM : mq D h0 h y A V) : ct_M l y_MD_matched (.code y_MD_matched prog_9_method_37_code 1 (Option.some Jvm.ClassFile.FieldType.int)) ({ frames := 0, cells := 0, slots := 0, locals := 0 }) D HB [.ref y] h (fun o h2 => ∃ (cd r : Int32) (V2 : vT), sp_matched V  = (cd, r, V2) ∧ o = .inl (some (.int r)) ∧ mq D h0 h2 y A V2) := by
  refine ct_of (by decide) (Nat.le_of_ble_eq_true rfl) rfl ?_
  intro p_ e_ s_ m_ r_ b_ t_ c_ C hnm
  refine wk_run C k_MD_matched_0 (pc2 := 2) (lv2 := [(0, .ref y)]) (st2 := [.int 0, .ref y]) rfl ?_
  refine wm_put C hM 0 (by simp [sc_]) fd_MD_71 rfl d_MD_matched_2 (fun h (hM : mq D h0 h y A (vc (V) 0 0)) => ?_)
  refine wk_run C k_MD_matched_5 (pc2 := 6) (lv2 := [(0, .ref y)]) (st2 := [.ref y]) rfl ?_
  refine wk_get (v := .int (V 23 0)) C fd_MD_140 hM.ob rfl d_MD_matched_6 ?_
  exact wk_iret C ⟨0, (V 23 0), vc (V) 0 0, rfl, rfl, hM⟩ (by decide) (by decide) d_MD_matched_9
theorem k_MD_ask_0 : px_dec prog_9_method_27_code [.aload_n 0, .iconst 0] 0 = true := by decide +kernel
theorem d_MD_ask_2 : decode prog_9_method_27_code 2 = .ok (.putfield 71, 3) := by decide +kernel
theorem k_MD_ask_5 : px_dec prog_9_method_27_code [.iload_n 1] 5 = true := by decide +kernel
theorem d_MD_ask_6 : decode prog_9_method_27_code 6 = .ok (.invokestatic 104, 3) := by decide +kernel
theorem d_MD_ask_9 : decode prog_9_method_27_code 9 = .ok (.ifCond .ne 11, 3) := by decide +kernel
theorem k_MD_ask_20 : px_dec prog_9_method_27_code [.aload_n 0] 20 = true := by decide +kernel
theorem d_MD_ask_21 : decode prog_9_method_27_code 21 = .ok (.getfield 115, 3) := by decide +kernel
theorem k_MD_ask_24 : px_dec prog_9_method_27_code [.bipush 20] 24 = true := by decide +kernel
theorem d_MD_ask_26 : decode prog_9_method_27_code 26 = .ok (.if_icmp .ge 23, 3) := by decide +kernel
theorem k_MD_ask_49 : px_dec prog_9_method_27_code [.aload_n 0] 49 = true := by decide +kernel
theorem d_MD_ask_50 : decode prog_9_method_27_code 50 = .ok (.getfield 115, 3) := by decide +kernel
theorem d_MD_ask_53 : decode prog_9_method_27_code 53 = .ok (.ireturn, 1) := by decide +kernel
theorem k_MD_ask_29 : px_dec prog_9_method_27_code [.aload_n 0] 29 = true := by decide +kernel
theorem d_MD_ask_30 : decode prog_9_method_27_code 30 = .ok (.getfield 62, 3) := by decide +kernel
theorem k_MD_ask_33 : px_dec prog_9_method_27_code [.aload_n 0] 33 = true := by decide +kernel
theorem d_MD_ask_34 : decode prog_9_method_27_code 34 = .ok (.getfield 115, 3) := by decide +kernel
theorem k_MD_ask_37 : px_dec prog_9_method_27_code [.iload_n 1] 37 = true := by decide +kernel
theorem d_MD_ask_38 : decode prog_9_method_27_code 38 = .ok (.iastore, 1) := by decide +kernel
theorem k_MD_ask_39 : px_dec prog_9_method_27_code [.aload_n 0, .dup] 39 = true := by decide +kernel
theorem d_MD_ask_41 : decode prog_9_method_27_code 41 = .ok (.getfield 115, 3) := by decide +kernel
theorem k_MD_ask_44 : px_dec prog_9_method_27_code [.iconst 1, .iadd] 44 = true := by decide +kernel
theorem d_MD_ask_46 : decode prog_9_method_27_code 46 = .ok (.putfield 115, 3) := by decide +kernel
theorem k_MD_ask_12 : px_dec prog_9_method_27_code [.aload_n 0, .iconst 0] 12 = true := by decide +kernel
theorem d_MD_ask_14 : decode prog_9_method_27_code 14 = .ok (.putfield 115, 3) := by decide +kernel
theorem d_MD_ask_17 : decode prog_9_method_27_code 17 = .ok (.goto 32, 3) := by decide +kernel
set_option maxRecDepth 100000 in
set_option maxHeartbeats 4000000 in
theorem c_MD_ask (l : Launch) (D : va_G) (HB : Heap) (h : hp_T) (h0 : hp_T) (y : Nat) (A : Nat → Nat) (V : vT) (c : Int32) (hA : ok_ (V 22 0) 20) (hM : mq D h0 h y A V) : ct_M l y_MD_ask (.code y_MD_ask prog_9_method_27_code 2 (Option.some Jvm.ClassFile.FieldType.int)) ({ frames := 1, cells := 0, slots := 0, locals := 30 }) D HB [.ref y, .int c] h (fun o h2 => ∃ (cd r : Int32) (V2 : vT), sp_ask V c = (cd, r, V2) ∧ o = .inl (some (.int r)) ∧ mq D h0 h2 y A V2) := by
  refine ct_of (by decide) (Nat.le_of_ble_eq_true rfl) rfl ?_
  intro p_ e_ s_ m_ r_ b_ t_ c_ C hnm
  refine wk_run C k_MD_ask_0 (pc2 := 2) (lv2 := [(0, .ref y), (1, .int c)]) (st2 := [.int 0, .ref y]) rfl ?_
  refine wm_put C hM 0 (by simp [sc_]) fd_MD_71 rfl d_MD_ask_2 (fun h (hM : mq D h0 h y A (vc (V) 0 0)) => ?_)
  refine wk_run C k_MD_ask_5 (pc2 := 6) (lv2 := [(0, .ref y), (1, .int c)]) (st2 := [.int c]) rfl ?_
  refine wk_callS (rest := []) C (c_MD_isSign l D HB h c) cs_MD_104 kc_MD_isSign ki_MD rfl rfl (Nat.le_of_ble_eq_true rfl) (Nat.le_of_ble_eq_true rfl) (Nat.le_of_ble_eq_true rfl) (Nat.le_of_ble_eq_true rfl) (Nat.le_of_ble_eq_true rfl) d_MD_ask_6 (fun v h2 hq => ?_) (fun _ _ z => nomatch z.1)
  obtain ⟨e1, e2⟩ := hq; cases e1; replace e2 := e2.symm; subst e2
  refine wk_br C d_MD_ask_9 (P := ¬ (if ¬ c < 33 ∧ ¬ 126 < c then (1 : Int32) else 0) = 0) (tgt := 20) (rest := []) rfl (by decide) (fun c1 => ?_) (fun c1 => ?_)
  ·
    replace c1 := bn_ c1
    refine wk_run C k_MD_ask_20 (pc2 := 21) (lv2 := [(0, .ref y), (1, .int c)]) (st2 := [.ref y]) rfl ?_
    refine wk_get (v := .int (V 22 0)) C fd_MD_115 hM.ob rfl d_MD_ask_21 ?_
    refine wk_run C k_MD_ask_24 (pc2 := 26) (lv2 := [(0, .ref y), (1, .int c)]) (st2 := [.int 20, .int (V 22 0)]) rfl ?_
    refine wk_br C d_MD_ask_26 (P := 20 ≤ (V 22 0)) (tgt := 49) (rest := []) rfl (by decide) (fun c2 => ?_) (fun c2 => ?_)
    ·
      refine wk_run C k_MD_ask_49 (pc2 := 50) (lv2 := [(0, .ref y), (1, .int c)]) (st2 := [.ref y]) rfl ?_
      refine wk_get (v := .int (V 22 0)) C fd_MD_115 hM.ob rfl d_MD_ask_50 ?_
      exact wk_iret C ⟨0, (V 22 0), vc (V) 0 0, by clear C hM hnm; grind [sp_ask], rfl, hM⟩ (by decide) (by decide) d_MD_ask_53
    ·
      refine wk_run C k_MD_ask_29 (pc2 := 30) (lv2 := [(0, .ref y), (1, .int c)]) (st2 := [.ref y]) rfl ?_
      refine wk_get (v := .ref (A 21)) C fd_MD_62 hM.ob rfl d_MD_ask_30 ?_
      refine wk_run C k_MD_ask_33 (pc2 := 34) (lv2 := [(0, .ref y), (1, .int c)]) (st2 := [.ref y, .ref (A 21)]) rfl ?_
      refine wk_get (v := .int (V 22 0)) C fd_MD_115 hM.ob rfl d_MD_ask_34 ?_
      refine wk_run C k_MD_ask_37 (pc2 := 38) (lv2 := [(0, .ref y), (1, .int c)]) (st2 := [.int c, .int (V 22 0), .ref (A 21)]) rfl ?_
      refine wm_st C hM 21 (j := (nu (V 22 0))) rfl (vi_k (ok_lt hA (Classical.byContradiction (fun z => c2 (by grind)))) (by decide) (by decide)) rfl d_MD_ask_38 (fun h (hM : mq D h0 h y A (vs (vc (V) 0 0) 21 (upd (V 21) (nu (V 22 0)) c))) => ?_)
      refine wk_run C k_MD_ask_39 (pc2 := 41) (lv2 := [(0, .ref y), (1, .int c)]) (st2 := [.ref y, .ref y]) rfl ?_
      refine wk_get (v := .int (V 22 0)) C fd_MD_115 hM.ob rfl d_MD_ask_41 ?_
      refine wk_run C k_MD_ask_44 (pc2 := 46) (lv2 := [(0, .ref y), (1, .int c)]) (st2 := [.int ((V 22 0) + 1), .ref y]) rfl ?_
      refine wm_put C hM 22 (by simp [sc_]) fd_MD_115 rfl d_MD_ask_46 (fun h (hM : mq D h0 h y A (vc (vs (vc (V) 0 0) 21 (upd (V 21) (nu (V 22 0)) c)) 22 ((V 22 0) + 1))) => ?_)
      refine wk_run C k_MD_ask_49 (pc2 := 50) (lv2 := [(0, .ref y), (1, .int c)]) (st2 := [.ref y]) rfl ?_
      refine wk_get (v := .int (((V 22 0) + 1))) C fd_MD_115 hM.ob rfl d_MD_ask_50 ?_
      exact wk_iret C ⟨0, (((V 22 0) + 1)), vc (vs (vc (V) 0 0) 21 (upd (V 21) (nu (V 22 0)) c)) 22 ((V 22 0) + 1), by clear C hM hnm; grind [sp_ask], rfl, hM⟩ (by decide) (by decide) d_MD_ask_53
  ·
    replace c1 := bz_ (Classical.not_not.mp c1)
    refine wk_run C k_MD_ask_12 (pc2 := 14) (lv2 := [(0, .ref y), (1, .int c)]) (st2 := [.int 0, .ref y]) rfl ?_
    refine wm_put C hM 22 (by simp [sc_]) fd_MD_115 rfl d_MD_ask_14 (fun h (hM : mq D h0 h y A (vc (vc (V) 0 0) 22 0)) => ?_)
    refine wk_goto C d_MD_ask_17 (tgt := 49) (by decide) ?_
    refine wk_run C k_MD_ask_49 (pc2 := 50) (lv2 := [(0, .ref y), (1, .int c)]) (st2 := [.ref y]) rfl ?_
    refine wk_get (v := .int (0)) C fd_MD_115 hM.ob rfl d_MD_ask_50 ?_
    exact wk_iret C ⟨0, (0), vc (vc (V) 0 0) 22 0, by clear C hM hnm; grind [sp_ask], rfl, hM⟩ (by decide) (by decide) d_MD_ask_53
