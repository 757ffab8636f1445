/-- the list object at a, its array at b: n elements, the i-th one at f i -/
def al_ok (D : va_G) (h : hp_T) (a b n : Nat) (f : Nat → Nat) : Prop := ∃ md : Int32, h a = some (.inr (7, [.int md, .ref b, .int (nI n)])) ∧ ((n = 0 ∧ b = D.2 200 0) ∨ ∃ (cap : Nat) (g : Nat → Option Nat), h b = some (.inl (D.1 102, cap, .inr (.inr (.inr (.inr g))))) ∧ n ≤ cap ∧ 2 ≤ cap ∧ cap ≤ 110 ∧ ∀ i, i < n → g i = some (f i))
/-- .. and what was beside it stays -/
def al_fr (h h2 : hp_T) (a b : Nat) : Prop := ∀ (q : Nat) (x : va_E), q ≠ a → q ≠ b → h q = some x → h2 q = some x
def al_cat (f : Nat → Nat) (n y : Nat) : Nat → Nat := fun i => if i = n then y else f i
def al_del (f : Nat → Nat) (j : Nat) : Nat → Nat := fun k => if k < j then f k else f (k + 1)
theorem al_cat_lt {f : Nat → Nat} {n y i : Nat} (h : i < n) : al_cat f n y i = f i := if_neg (Nat.ne_of_lt h)
theorem al_cat_n {f : Nat → Nat} {n y : Nat} : al_cat f n y n = y := if_pos rfl

theorem k_AL_grow_0_0 : px_dec prog_23_method_7_code [.aload_n 0, .aload_n 0] 0 = true := by decide +kernel
theorem d_AL_grow_0_2 : decode prog_23_method_7_code 2 = .ok (.getfield 48, 3) := by decide +kernel
theorem k_AL_grow_0_5 : px_dec prog_23_method_7_code [.iconst 1, .iadd] 5 = true := by decide +kernel
theorem d_AL_grow_0_7 : decode prog_23_method_7_code 7 = .ok (.invokevirtual 69, 3) := by decide +kernel
theorem d_AL_grow_0_10 : decode prog_23_method_7_code 10 = .ok (.areturn, 1) := by decide +kernel
set_option maxRecDepth 100000 in
set_option maxHeartbeats 4000000 in
theorem c_AL_grow_0b (l : Launch) (D : va_G) (HB : Heap) (h : hp_T) (a b cap : Nat) (md : Int32) (g : Nat → Option Nat) (ha : h a = some (.inr (7, [.int md, .ref b, .int (nI cap)]))) (hb : h b = some (.inl (D.1 102, cap, .inr (.inr (.inr (.inr g)))))) (hc : 2 ≤ cap) (hN : cap ≤ 73) (hg : ∀ i : Nat, i < cap → ∀ y : Nat, g i = some y → ob_ok h y) : ct_M l y_AL_grow_0 (.code y_AL_grow_0 prog_23_method_7_code 1 (Option.some (Jvm.ClassFile.FieldType.array (Jvm.ClassFile.FieldType.object "java/lang/Object")))) ({ frames := 4, cells := 1, slots := 110, locals := 171 }) D HB [.ref a] h (fun o h2 => ∃ q : Nat, h q = none ∧ o = .inl (some (.ref q)) ∧ h2 = hp_up (hp_up h q (.inl (D.1 102, (cap + cap / 2), .inr (.inr (.inr (.inr (va_cpy g (fun _ => none) 0 0 cap))))))) a (.inr (7, [.int md, .ref q, .int (nI cap)]))) := by
  refine ct_of (by decide) (Nat.le_of_ble_eq_true rfl) rfl ?_
  intro p e s m args below meth c C hnm
  refine wk_run C k_AL_grow_0_0 (pc2 := 2) (lv2 := [(0, .ref a)]) (st2 := [.ref a, .ref a]) rfl ?_
  refine wk_get C fd_AL_48 ha rfl d_AL_grow_0_2 ?_
  refine wk_run C k_AL_grow_0_5 (pc2 := 7) (lv2 := [(0, .ref a)]) (st2 := [.int ((nI cap) + 1), .ref a]) rfl ?_
  rw [nI_1]
  refine wk_callV (cl := ("java/util/ArrayList", T_AL, 3)) (rest := []) C (c_AL_grow_1b l D HB h a b cap md (nI cap) g ha hb hc hN hg) cs_AL_69 kc_AL_grow_1 ki_AL ha rfl rfl rfl (Nat.le_of_ble_eq_true rfl) (Nat.le_of_ble_eq_true rfl) (Nat.le_of_ble_eq_true rfl) (Nat.le_of_ble_eq_true rfl) (Nat.le_of_ble_eq_true rfl) d_AL_grow_0_7 (fun v h2 hq => ?_) (fun _ _ z => by obtain ⟨_, _, z, _⟩ := z; cases z)
  obtain ⟨q, hq1, e1, e2⟩ := hq; cases e1; subst e2
  exact wk_aret C rfl (Or.inr ⟨_, rfl⟩) (Or.inr ⟨_, rfl⟩) ⟨q, hq1, rfl, rfl⟩ (by decide) (by decide) d_AL_grow_0_10
set_option maxRecDepth 100000 in
set_option maxHeartbeats 4000000 in
theorem c_AL_grow_0a (l : Launch) (D : va_G) (HB : Heap) (h : hp_T) (a : Nat) (md : Int32) (ha : h a = some (.inr (7, [.int md, .ref (D.2 200 0), .int (nI 0)]))) : ct_M l y_AL_grow_0 (.code y_AL_grow_0 prog_23_method_7_code 1 (Option.some (Jvm.ClassFile.FieldType.array (Jvm.ClassFile.FieldType.object "java/lang/Object")))) ({ frames := 4, cells := 1, slots := 110, locals := 171 }) D HB [.ref a] h (fun o h2 => ∃ q : Nat, h q = none ∧ o = .inl (some (.ref q)) ∧ h2 = hp_up (hp_up h q (.inl (D.1 102, 10, .inr (.inr (.inr (.inr (fun _ => none))))))) a (.inr (7, [.int md, .ref q, .int (nI 0)]))) := by
  refine ct_of (by decide) (Nat.le_of_ble_eq_true rfl) rfl ?_
  intro p e s m args below meth c C hnm
  refine wk_run C k_AL_grow_0_0 (pc2 := 2) (lv2 := [(0, .ref a)]) (st2 := [.ref a, .ref a]) rfl ?_
  refine wk_get C fd_AL_48 ha rfl d_AL_grow_0_2 ?_
  refine wk_run C k_AL_grow_0_5 (pc2 := 7) (lv2 := [(0, .ref a)]) (st2 := [.int ((nI 0) + 1), .ref a]) rfl ?_
  rw [show nI 0 + 1 = 1 from rfl]
  refine wk_callV (cl := ("java/util/ArrayList", T_AL, 3)) (rest := []) C (c_AL_grow_1a l D HB h a md (nI 0) ha) cs_AL_69 kc_AL_grow_1 ki_AL ha rfl rfl rfl (Nat.le_of_ble_eq_true rfl) (Nat.le_of_ble_eq_true rfl) (Nat.le_of_ble_eq_true rfl) (Nat.le_of_ble_eq_true rfl) (Nat.le_of_ble_eq_true rfl) d_AL_grow_0_7 (fun v h2 hq => ?_) (fun _ _ z => by obtain ⟨_, _, z, _⟩ := z; cases z)
  obtain ⟨q, hq1, e1, e2⟩ := hq; cases e1; subst e2
  exact wk_aret C rfl (Or.inr ⟨_, rfl⟩) (Or.inr ⟨_, rfl⟩) ⟨q, hq1, rfl, rfl⟩ (by decide) (by decide) d_AL_grow_0_10
theorem al_push {D : va_G} {h : hp_T} {a b n cap y : Nat} {f : Nat → Nat} {g : Nat → Option Nat} {md md2 : Int32} {fs : List Value} (ha : h a = some (.inr (7, fs))) (hb : h b = some (.inl (D.1 102, cap, .inr (.inr (.inr (.inr g)))))) (hn : n < cap) (h2 : 2 ≤ cap) (hc : cap ≤ 110) (hg : ∀ i, i < n → g i = some (f i)) :
    al_ok D (hp_up (hp_up h b (.inl (D.1 102, cap, .inr (.inr (.inr (.inr (va_up g n (some y)))))))) a (.inr (7, [.int md2, .ref b, .int (nI (n + 1))]))) a b (n + 1) (al_cat f n y) := by
  have hne : b ≠ a := fun z => by rw [z, ha] at hb; cases hb
  refine ⟨md2, hp_us, Or.inr ⟨cap, va_up g n (some y), by rw [hp_un hne]; exact hp_us, by omega, h2, hc, fun i hi => ?_⟩⟩
  by_cases z : i = n
  · subst z; rw [va_up_self, al_cat_n]
  · rw [va_up_ne _ _ z, al_cat_lt (by omega)]; exact hg i (by omega)

theorem k_AL_add_1_0 : px_dec prog_23_method_24_code [.iload_n 3, .aload_n 2] 0 = true := by decide +kernel
theorem d_AL_add_1_2 : decode prog_23_method_24_code 2 = .ok (.arraylength, 1) := by decide +kernel
theorem d_AL_add_1_3 : decode prog_23_method_24_code 3 = .ok (.if_icmp .ne 8, 3) := by decide +kernel
theorem k_AL_add_1_6 : px_dec prog_23_method_24_code [.aload_n 0] 6 = true := by decide +kernel
theorem d_AL_add_1_7 : decode prog_23_method_24_code 7 = .ok (.invokevirtual 129, 3) := by decide +kernel
theorem k_AL_add_1_10 : px_dec prog_23_method_24_code [.astore_n 2, .aload_n 2, .iload_n 3, .aload_n 1] 10 = true := by decide +kernel
theorem d_AL_add_1_14 : decode prog_23_method_24_code 14 = .ok (.aastore, 1) := by decide +kernel
theorem k_AL_add_1_15 : px_dec prog_23_method_24_code [.aload_n 0, .iload_n 3, .iconst 1, .iadd] 15 = true := by decide +kernel
theorem d_AL_add_1_19 : decode prog_23_method_24_code 19 = .ok (.putfield 48, 3) := by decide +kernel
theorem d_AL_add_1_22 : decode prog_23_method_24_code 22 = .ok (.return_, 1) := by decide +kernel
theorem k_AL_add_1_11 : px_dec prog_23_method_24_code [.aload_n 2, .iload_n 3, .aload_n 1] 11 = true := by decide +kernel
set_option maxRecDepth 100000 in
set_option maxHeartbeats 4000000 in
theorem c_AL_add_1 (l : Launch) (D : va_G) (HB : Heap) (h : hp_T) (a b n y : Nat) (f : Nat → Nat) (hL : al_ok D h a b n f) (hn : n ≤ 73) (hf : ∀ i : Nat, i < n → ob_ok h (f i)) (hy : ob_ok h y) : ct_M l y_AL_add_1 (.code y_AL_add_1 prog_23_method_24_code 4 (Option.none : Option Jvm.ClassFile.FieldType)) ({ frames := 5, cells := 1, slots := 110, locals := 192 }) D HB [.ref a, .ref y, .ref b, .int (nI n)] h (fun o h2 => o = .inl none ∧ ∃ b2 : Nat, al_ok D h2 a b2 (n + 1) (al_cat f n y) ∧ (b2 = b ∨ h b2 = none) ∧ al_fr h h2 a b) := by
  refine ct_of (by decide) (Nat.le_of_ble_eq_true rfl) rfl ?_
  intro p e s m args below meth c C hnm
  obtain ⟨md, ha, hL⟩ := hL
  rcases hL with ⟨hn0, hb⟩ | ⟨cap, g, hb, hnc, hc2, hc1, hg⟩
  ·
    subst hn0; subst hb
    refine wk_run C k_AL_add_1_0 (pc2 := 2) (lv2 := [(0, .ref a), (1, .ref y), (2, .ref (D.2 200 0)), (3, .int (nI 0))]) (st2 := [.ref (D.2 200 0), .int (nI 0)]) rfl ?_
    refine wk_tlen C C.ev.2.2.2.2.2.1 d_AL_add_1_2 ?_
    refine wk_br C d_AL_add_1_3 (P := ¬ (nI 0) = (nI 0)) (tgt := 11) (rest := []) rfl (by decide) (fun c1 => ?_) (fun c1 => ?_)
    · exact absurd rfl c1
    ·
      refine wk_run C k_AL_add_1_6 (pc2 := 7) (lv2 := [(0, .ref a), (1, .ref y), (2, .ref (D.2 200 0)), (3, .int (nI 0))]) (st2 := [.ref a]) rfl ?_
      refine wk_callV (cl := ("java/util/ArrayList", T_AL, 3)) (rest := []) C (c_AL_grow_0a l D HB h a md ha) cs_AL_129 kc_AL_grow_0 ki_AL ha rfl rfl rfl (Nat.le_of_ble_eq_true rfl) (Nat.le_of_ble_eq_true rfl) (Nat.le_of_ble_eq_true rfl) (Nat.le_of_ble_eq_true rfl) (Nat.le_of_ble_eq_true rfl) d_AL_add_1_7 (fun v h2 hq => ?_) (fun _ _ z => by obtain ⟨_, _, z, _⟩ := z; cases z)
      obtain ⟨q, hq1, e1, e2⟩ := hq; cases e1; subst e2
      have hqa : q ≠ a := fun z => hp_ne ha hq1 z.symm
      have hq2 : (hp_up (hp_up h q (.inl (D.1 102, 10, .inr (.inr (.inr (.inr (fun _ => none))))))) a (.inr (7, [.int md, .ref q, .int (nI 0)]))) q = some (.inl (D.1 102, 10, .inr (.inr (.inr (.inr (fun _ => none)))))) := by rw [hp_un hqa]; exact hp_us
      have hy2 := (hy.up (x := (.inl (D.1 102, 10, .inr (.inr (.inr (.inr (fun _ => none))))))) hq1).fld (fs2 := [.int md, .ref q, .int (nI 0)]) ((hp_un (hp_ne ha hq1)).trans ha)
      refine wk_run C k_AL_add_1_10 (pc2 := 14) (lv2 := [(2, .ref q), (0, .ref a), (1, .ref y), (3, .int (nI 0))]) (st2 := [.ref y, .int (nI 0), .ref q]) rfl ?_
      refine wk_aastO C hq2 (vp_in_nI (by omega) (by omega)) hy2 d_AL_add_1_14 ?_
      rw [nI_clamp (by omega)]
      refine wk_run C k_AL_add_1_15 (pc2 := 19) (lv2 := [(2, .ref q), (0, .ref a), (1, .ref y), (3, .int (nI 0))]) (st2 := [.int ((nI 0) + 1), .ref a]) rfl ?_
      refine wk_put (fs2 := [.int md, .ref q, .int (nI 0 + 1)]) C fd_AL_48 ((hp_un (Ne.symm hqa)).trans hp_us) rfl rfl (Nat.le_of_ble_eq_true rfl) rfl d_AL_add_1_19 ?_
      refine wk_vret C ⟨rfl, q, ?_, Or.inr hq1, ?_⟩ (by decide) (by decide) d_AL_add_1_22
      · rw [nI_1]; exact al_push (md := md) (g := fun _ => none) hp_us hq2 (by omega) (by omega) (by omega) (fun i hi => absurd hi (Nat.not_lt_zero i))
      · intro z x z1 z2 hz
        rw [hp_un z1, hp_un (hp_ne hz hq1), hp_un z1, hp_un (hp_ne hz hq1)]; exact hz
  ·
    refine wk_run C k_AL_add_1_0 (pc2 := 2) (lv2 := [(0, .ref a), (1, .ref y), (2, .ref b), (3, .int (nI n))]) (st2 := [.ref b, .int (nI n)]) rfl ?_
    refine wk_alen C (t0 := 2) hb rfl d_AL_add_1_2 ?_
    refine wk_br C d_AL_add_1_3 (P := ¬ (nI n) = (nI cap)) (tgt := 11) (rest := []) rfl (by decide) (fun c1 => ?_) (fun c1 => ?_)
    ·
      have hlt : n < cap := Nat.lt_of_le_of_ne hnc (fun z => c1 (by rw [z]))
      have hne : a ≠ b := fun z => by rw [← z, ha] at hb; cases hb
      refine wk_run C k_AL_add_1_11 (pc2 := 14) (lv2 := [(0, .ref a), (1, .ref y), (2, .ref b), (3, .int (nI n))]) (st2 := [.ref y, .int (nI n), .ref b]) rfl ?_
      refine wk_aastO C hb (vp_in_nI hlt (by omega)) hy d_AL_add_1_14 ?_
      rw [nI_clamp (by omega)]
      refine wk_run C k_AL_add_1_15 (pc2 := 19) (lv2 := [(0, .ref a), (1, .ref y), (2, .ref b), (3, .int (nI n))]) (st2 := [.int ((nI n) + 1), .ref a]) rfl ?_
      refine wk_put (fs2 := [.int md, .ref b, .int (nI n + 1)]) C fd_AL_48 ((hp_un hne).trans ha) rfl rfl (Nat.le_of_ble_eq_true rfl) rfl d_AL_add_1_19 ?_
      refine wk_vret C ⟨rfl, b, ?_, Or.inl rfl, ?_⟩ (by decide) (by decide) d_AL_add_1_22
      · rw [nI_1]; exact al_push (md := md) ha hb hlt hc2 hc1 hg
      · intro z x z1 z2 hz
        rw [hp_un z1, hp_un z2]; exact hz
    ·
      have hnc2 : n = cap := Classical.byContradiction (fun z => c1 (fun y => z ((nI_eq (by omega) (by omega)).mp y)))
      subst hnc2
      refine wk_run C k_AL_add_1_6 (pc2 := 7) (lv2 := [(0, .ref a), (1, .ref y), (2, .ref b), (3, .int (nI n))]) (st2 := [.ref a]) rfl ?_
      refine wk_callV (cl := ("java/util/ArrayList", T_AL, 3)) (rest := []) C (c_AL_grow_0b l D HB h a b n md g ha hb hc2 hn (fun i hi y hy => by rw [hg i hi] at hy; cases hy; exact hf i hi)) cs_AL_129 kc_AL_grow_0 ki_AL ha rfl rfl rfl (Nat.le_of_ble_eq_true rfl) (Nat.le_of_ble_eq_true rfl) (Nat.le_of_ble_eq_true rfl) (Nat.le_of_ble_eq_true rfl) (Nat.le_of_ble_eq_true rfl) d_AL_add_1_7 (fun v h2 hq => ?_) (fun _ _ z => by obtain ⟨_, _, z, _⟩ := z; cases z)
      obtain ⟨q, hq1, e1, e2⟩ := hq; cases e1; subst e2
      have hqa : q ≠ a := fun z => hp_ne ha hq1 z.symm
      have hq2 : (hp_up (hp_up h q (.inl (D.1 102, (n + n / 2), .inr (.inr (.inr (.inr (va_cpy g (fun _ => none) 0 0 n))))))) a (.inr (7, [.int md, .ref q, .int (nI n)]))) q = some (.inl (D.1 102, (n + n / 2), .inr (.inr (.inr (.inr (va_cpy g (fun _ => none) 0 0 n)))))) := by rw [hp_un hqa]; exact hp_us
      have hy2 := (hy.up (x := (.inl (D.1 102, (n + n / 2), .inr (.inr (.inr (.inr (va_cpy g (fun _ => none) 0 0 n))))))) hq1).fld (fs2 := [.int md, .ref q, .int (nI n)]) ((hp_un (hp_ne ha hq1)).trans ha)
      refine wk_run C k_AL_add_1_10 (pc2 := 14) (lv2 := [(2, .ref q), (0, .ref a), (1, .ref y), (3, .int (nI n))]) (st2 := [.ref y, .int (nI n), .ref q]) rfl ?_
      refine wk_aastO C hq2 (vp_in_nI (by omega) (by omega)) hy2 d_AL_add_1_14 ?_
      rw [nI_clamp (by omega)]
      refine wk_run C k_AL_add_1_15 (pc2 := 19) (lv2 := [(2, .ref q), (0, .ref a), (1, .ref y), (3, .int (nI n))]) (st2 := [.int ((nI n) + 1), .ref a]) rfl ?_
      refine wk_put (fs2 := [.int md, .ref q, .int (nI n + 1)]) C fd_AL_48 ((hp_un (Ne.symm hqa)).trans hp_us) rfl rfl (Nat.le_of_ble_eq_true rfl) rfl d_AL_add_1_19 ?_
      refine wk_vret C ⟨rfl, q, ?_, Or.inr hq1, ?_⟩ (by decide) (by decide) d_AL_add_1_22
      · rw [nI_1]; exact al_push (md := md) hp_us hq2 (by omega) (by omega) (by omega) (fun i hi => by rw [pk_cpy_in (by omega) (by omega)]; simp only [Nat.zero_add, Nat.sub_zero]; exact hg i hi)
      · intro z x z1 z2 hz
        rw [hp_un z1, hp_un (hp_ne hz hq1), hp_un z1, hp_un (hp_ne hz hq1)]; exact hz
theorem k_AL_add_0_0 : px_dec prog_23_method_25_code [.aload_n 0, .dup] 0 = true := by decide +kernel
theorem d_AL_add_0_2 : decode prog_23_method_25_code 2 = .ok (.getfield 63, 3) := by decide +kernel
theorem k_AL_add_0_5 : px_dec prog_23_method_25_code [.iconst 1, .iadd] 5 = true := by decide +kernel
theorem d_AL_add_0_7 : decode prog_23_method_25_code 7 = .ok (.putfield 63, 3) := by decide +kernel
theorem k_AL_add_0_10 : px_dec prog_23_method_25_code [.aload_n 0, .aload_n 1, .aload_n 0] 10 = true := by decide +kernel
theorem d_AL_add_0_13 : decode prog_23_method_25_code 13 = .ok (.getfield 9, 3) := by decide +kernel
theorem k_AL_add_0_16 : px_dec prog_23_method_25_code [.aload_n 0] 16 = true := by decide +kernel
theorem d_AL_add_0_17 : decode prog_23_method_25_code 17 = .ok (.getfield 48, 3) := by decide +kernel
theorem d_AL_add_0_20 : decode prog_23_method_25_code 20 = .ok (.invokevirtual 131, 3) := by decide +kernel
theorem k_AL_add_0_23 : px_dec prog_23_method_25_code [.iconst 1] 23 = true := by decide +kernel
theorem d_AL_add_0_24 : decode prog_23_method_25_code 24 = .ok (.ireturn, 1) := by decide +kernel
set_option maxRecDepth 100000 in
set_option maxHeartbeats 4000000 in
theorem c_AL_add_0 (l : Launch) (D : va_G) (HB : Heap) (h : hp_T) (a b n y : Nat) (f : Nat → Nat) (hL : al_ok D h a b n f) (hn : n ≤ 73) (hf : ∀ i : Nat, i < n → ob_ok h (f i)) (hy : ob_ok h y) : ct_M l y_AL_add_0 (.code y_AL_add_0 prog_23_method_25_code 2 (Option.some Jvm.ClassFile.FieldType.boolean)) ({ frames := 6, cells := 1, slots := 110, locals := 215 }) D HB [.ref a, .ref y] h (fun o h2 => o = .inl (some (.int 1)) ∧ ∃ b2 : Nat, al_ok D h2 a b2 (n + 1) (al_cat f n y) ∧ (b2 = b ∨ h b2 = none) ∧ al_fr h h2 a b) := by
  refine ct_of (by decide) (Nat.le_of_ble_eq_true rfl) rfl ?_
  intro p e s m args below meth c C hnm
  obtain ⟨md, ha, hL⟩ := hL
  refine wk_run C k_AL_add_0_0 (pc2 := 2) (lv2 := [(0, .ref a), (1, .ref y)]) (st2 := [.ref a, .ref a]) rfl ?_
  refine wk_get C fd_AL_63 ha rfl d_AL_add_0_2 ?_
  refine wk_run C k_AL_add_0_5 (pc2 := 7) (lv2 := [(0, .ref a), (1, .ref y)]) (st2 := [.int (md + 1), .ref a]) rfl ?_
  refine wk_put (fs2 := [.int (md + 1), .ref b, .int (nI n)]) C fd_AL_63 ha rfl rfl (Nat.le_of_ble_eq_true rfl) rfl d_AL_add_0_7 ?_
  refine wk_run C k_AL_add_0_10 (pc2 := 13) (lv2 := [(0, .ref a), (1, .ref y)]) (st2 := [.ref a, .ref y, .ref a]) rfl ?_
  refine wk_get C fd_AL_9 hp_us rfl d_AL_add_0_13 ?_
  refine wk_run C k_AL_add_0_16 (pc2 := 17) (lv2 := [(0, .ref a), (1, .ref y)]) (st2 := [.ref a, .ref b, .ref y, .ref a]) rfl ?_
  refine wk_get C fd_AL_48 hp_us rfl d_AL_add_0_17 ?_
  have hL2 : al_ok D (hp_up h a (.inr (7, [.int (md + 1), .ref b, .int (nI n)]))) a b n f := ⟨md + 1, hp_us, hL.imp id (fun ⟨cap, g, hb, z⟩ => ⟨cap, g, by rw [hp_un (fun z => by rw [z, ha] at hb; cases hb)]; exact hb, z⟩)⟩
  refine wk_callV (cl := ("java/util/ArrayList", T_AL, 3)) (rest := []) C (c_AL_add_1 l D HB _ a b n y f hL2 hn (fun i hi => (hf i hi).fld ha) (hy.fld ha)) cs_AL_131 kc_AL_add_1 ki_AL hp_us rfl rfl rfl (Nat.le_of_ble_eq_true rfl) (Nat.le_of_ble_eq_true rfl) (Nat.le_of_ble_eq_true rfl) (Nat.le_of_ble_eq_true rfl) (Nat.le_of_ble_eq_true rfl) d_AL_add_0_20 (fun v h2 hq => ?_) (fun _ _ z => nomatch z.1)
  obtain ⟨e1, b2, k1, k2, k3⟩ := hq; cases e1
  refine wk_run C k_AL_add_0_23 (pc2 := 24) (lv2 := [(0, .ref a), (1, .ref y)]) (st2 := [.int 1]) rfl ?_
  refine wk_zret C (by decide) ⟨rfl, b2, k1, k2.imp id (fun z => ?_), ?_⟩ (by decide) (by decide) d_AL_add_0_24
  · by_cases hz : b2 = a
    · subst hz; rw [hp_us] at z; cases z
    · rw [hp_un hz] at z; exact z
  · intro q x q1 q2 hq3
    exact k3 q x q1 q2 (by rw [hp_un q1]; exact hq3)
theorem k_AL_fastRemove_0 : px_dec prog_23_method_39_code [.aload_n 0, .dup] 0 = true := by decide +kernel
theorem d_AL_fastRemove_2 : decode prog_23_method_39_code 2 = .ok (.getfield 63, 3) := by decide +kernel
theorem k_AL_fastRemove_5 : px_dec prog_23_method_39_code [.iconst 1, .iadd] 5 = true := by decide +kernel
theorem d_AL_fastRemove_7 : decode prog_23_method_39_code 7 = .ok (.putfield 63, 3) := by decide +kernel
theorem k_AL_fastRemove_10 : px_dec prog_23_method_39_code [.aload_n 0] 10 = true := by decide +kernel
theorem d_AL_fastRemove_11 : decode prog_23_method_39_code 11 = .ok (.getfield 48, 3) := by decide +kernel
theorem k_AL_fastRemove_14 : px_dec prog_23_method_39_code [.iconst 1, .isub] 14 = true := by decide +kernel
theorem k_AL_fastRemove_16 : px_dec prog_23_method_39_code [.dup, .istore_n 3, .iload_n 2] 16 = true := by decide +kernel
theorem d_AL_fastRemove_19 : decode prog_23_method_39_code 19 = .ok (.if_icmp .le 15, 3) := by decide +kernel
theorem k_AL_fastRemove_34 : px_dec prog_23_method_39_code [.aload_n 1, .aload_n 0, .iload_n 3, .dup_x1] 34 = true := by decide +kernel
theorem d_AL_fastRemove_38 : decode prog_23_method_39_code 38 = .ok (.putfield 48, 3) := by decide +kernel
theorem k_AL_fastRemove_41 : px_dec prog_23_method_39_code [.aconst_null] 41 = true := by decide +kernel
theorem d_AL_fastRemove_42 : decode prog_23_method_39_code 42 = .ok (.aastore, 1) := by decide +kernel
theorem d_AL_fastRemove_43 : decode prog_23_method_39_code 43 = .ok (.return_, 1) := by decide +kernel
theorem k_AL_fastRemove_22 : px_dec prog_23_method_39_code [.aload_n 1, .iload_n 2, .iconst 1, .iadd, .aload_n 1, .iload_n 2, .iload_n 3, .iload_n 2, .isub] 22 = true := by decide +kernel
theorem d_AL_fastRemove_31 : decode prog_23_method_39_code 31 = .ok (.invokestatic 112, 3) := by decide +kernel
set_option maxRecDepth 100000 in
set_option maxHeartbeats 4000000 in
theorem c_AL_fastRemove (l : Launch) (D : va_G) (HB : Heap) (h : hp_T) (a b n j : Nat) (f : Nat → Nat) (hL : al_ok D h a b n f) (hj : j < n) (hf : ∀ i : Nat, i < n → ob_ok h (f i)) : ct_M l y_AL_fastRemove (.code y_AL_fastRemove prog_23_method_39_code 4 (Option.none : Option Jvm.ClassFile.FieldType)) ({ frames := 1, cells := 0, slots := 0, locals := 60 }) D HB [.ref a, .ref b, .int (nI j)] h (fun o h2 => o = .inl none ∧ al_ok D h2 a b (n - 1) (al_del f j) ∧ al_fr h h2 a b) := by
  refine ct_of (by decide) (Nat.le_of_ble_eq_true rfl) rfl ?_
  intro p e s m args below meth c C hnm
  obtain ⟨md, ha, hL⟩ := hL
  rcases hL with ⟨hn0, hb⟩ | ⟨cap, g, hb, hnc, hc2, hc1, hg⟩
  · omega
  have hne : a ≠ b := fun z => by rw [← z, ha] at hb; cases hb
  refine wk_run C k_AL_fastRemove_0 (pc2 := 2) (lv2 := [(0, .ref a), (1, .ref b), (2, .int (nI j))]) (st2 := [.ref a, .ref a]) rfl ?_
  refine wk_get C fd_AL_63 ha rfl d_AL_fastRemove_2 ?_
  refine wk_run C k_AL_fastRemove_5 (pc2 := 7) (lv2 := [(0, .ref a), (1, .ref b), (2, .int (nI j))]) (st2 := [.int (md + 1), .ref a]) rfl ?_
  refine wk_put (fs2 := [.int (md + 1), .ref b, .int (nI n)]) C fd_AL_63 ha rfl rfl (Nat.le_of_ble_eq_true rfl) rfl d_AL_fastRemove_7 ?_
  refine wk_run C k_AL_fastRemove_10 (pc2 := 11) (lv2 := [(0, .ref a), (1, .ref b), (2, .int (nI j))]) (st2 := [.ref a]) rfl ?_
  refine wk_get C fd_AL_48 hp_us rfl d_AL_fastRemove_11 ?_
  refine wk_run C k_AL_fastRemove_14 (pc2 := 16) (lv2 := [(0, .ref a), (1, .ref b), (2, .int (nI j))]) (st2 := [.int ((nI n) - 1)]) rfl ?_
  rw [show nI n - 1 = nI (n - 1) from by have := pk_sub (a := n) (b := 1) (by omega); exact this]
  have hb1 : (hp_up h a (.inr (7, [.int (md + 1), .ref b, .int (nI n)]))) b = some (.inl (D.1 102, cap, .inr (.inr (.inr (.inr g))))) := (hp_un (Ne.symm hne)).trans hb
  refine wk_run C k_AL_fastRemove_16 (pc2 := 19) (lv2 := [(3, .int (nI (n - 1))), (0, .ref a), (1, .ref b), (2, .int (nI j))]) (st2 := [.int (nI j), .int (nI (n - 1))]) rfl ?_
  refine wk_br C d_AL_fastRemove_19 (P := (nI (n - 1)) ≤ (nI j)) (tgt := 34) (rest := []) rfl (by decide) (fun c1 => ?_) (fun c1 => ?_)
  ·
    have hjn : n - 1 = j := by have := (nI_leI (by omega) (by omega)).mp c1; omega
    refine wk_run C k_AL_fastRemove_34 (pc2 := 38) (lv2 := [(3, .int (nI (n - 1))), (0, .ref a), (1, .ref b), (2, .int (nI j))]) (st2 := [.int (nI (n - 1)), .ref a, .int (nI (n - 1)), .ref b]) rfl ?_
    refine wk_put (fs2 := [.int (md + 1), .ref b, .int (nI (n - 1))]) C fd_AL_48 hp_us rfl rfl (Nat.le_of_ble_eq_true rfl) rfl d_AL_fastRemove_38 ?_
    refine Wk.he hp_uu ?_
    refine wk_run C k_AL_fastRemove_41 (pc2 := 42) (lv2 := [(3, .int (nI (n - 1))), (0, .ref a), (1, .ref b), (2, .int (nI j))]) (st2 := [.null, .int (nI (n - 1)), .ref b]) rfl ?_
    refine wk_aastN C ((hp_un (Ne.symm hne)).trans hb) (vp_in_nI (by omega) (by omega)) d_AL_fastRemove_42 ?_
    rw [nI_clamp (by omega)]
    refine wk_vret C ⟨rfl, ⟨md + 1, (hp_un hne).trans hp_us, Or.inr ⟨cap, _, hp_us, by omega, hc2, hc1, fun i hi => ?_⟩⟩, ?_⟩ (by decide) (by decide) d_AL_fastRemove_43
    · rw [va_up_ne _ _ (by omega), hg i (by omega)]; unfold al_del; rw [if_pos (by omega)]
    · intro q x q1 q2 hq3
      rw [hp_un q2, hp_un q1]; exact hq3
  ·
    have hjn : j < n - 1 := by rcases Nat.lt_or_ge j (n - 1) with z | z; exact z; exact absurd (nI_le z (by omega)) c1
    refine wk_run C k_AL_fastRemove_22 (pc2 := 31) (lv2 := [(3, .int (nI (n - 1))), (0, .ref a), (1, .ref b), (2, .int (nI j))]) (st2 := [.int ((nI (n - 1)) - (nI j)), .int (nI j), .ref b, .int ((nI j) + 1), .ref b]) rfl ?_
    rw [nI_1, pk_sub (show j ≤ n - 1 by omega)]
    refine wk_copy (n := n - 1 - j) C kp_AL kp_nt kp_st ki_SY hb1 hb1 rfl rfl rfl (by omega) (by omega) (by omega) (by omega) (fun i hi y hy => by rw [hg _ (by omega)] at hy; cases hy; exact (hf _ (by omega)).fld ha) (by decide) (by decide) d_AL_fastRemove_31 ?_
    refine wk_run C k_AL_fastRemove_34 (pc2 := 38) (lv2 := [(3, .int (nI (n - 1))), (0, .ref a), (1, .ref b), (2, .int (nI j))]) (st2 := [.int (nI (n - 1)), .ref a, .int (nI (n - 1)), .ref b]) rfl ?_
    refine wk_put (fs2 := [.int (md + 1), .ref b, .int (nI (n - 1))]) C fd_AL_48 ((hp_un hne).trans hp_us) rfl rfl (Nat.le_of_ble_eq_true rfl) rfl d_AL_fastRemove_38 ?_
    refine wk_run C k_AL_fastRemove_41 (pc2 := 42) (lv2 := [(3, .int (nI (n - 1))), (0, .ref a), (1, .ref b), (2, .int (nI j))]) (st2 := [.null, .int (nI (n - 1)), .ref b]) rfl ?_
    refine wk_aastN C ((hp_un (Ne.symm hne)).trans hp_us) (vp_in_nI (by omega) (by omega)) d_AL_fastRemove_42 ?_
    rw [nI_clamp (by omega)]
    refine wk_vret C ⟨rfl, ⟨md + 1, (hp_un hne).trans hp_us, Or.inr ⟨cap, _, hp_us, by omega, hc2, hc1, fun i hi => ?_⟩⟩, ?_⟩ (by decide) (by decide) d_AL_fastRemove_43
    · rw [va_up_ne _ _ (by omega)]
      unfold al_del
      by_cases z : i < j
      · rw [pk_cpy_out (Or.inl z), hg i (by omega), if_pos z]
      · rw [pk_cpy_in (by omega) (by omega), show j + 1 + (i - j) = i + 1 by omega, hg (i + 1) (by omega), if_neg z]
    · intro q x q1 q2 hq3
      rw [hp_un q2, hp_un q1, hp_un q2, hp_un q1]; exact hq3
theorem k_AL_remove_0 : px_dec prog_23_method_29_code [.iload_n 1, .aload_n 0] 0 = true := by decide +kernel
theorem d_AL_remove_2 : decode prog_23_method_29_code 2 = .ok (.getfield 48, 3) := by decide +kernel
theorem d_AL_remove_5 : decode prog_23_method_29_code 5 = .ok (.invokestatic 118, 3) := by decide +kernel
theorem k_AL_remove_8 : px_dec prog_23_method_29_code [.pop, .aload_n 0] 8 = true := by decide +kernel
theorem d_AL_remove_10 : decode prog_23_method_29_code 10 = .ok (.getfield 9, 3) := by decide +kernel
theorem k_AL_remove_13 : px_dec prog_23_method_29_code [.astore_n 2, .aload_n 2, .iload_n 1] 13 = true := by decide +kernel
theorem d_AL_remove_16 : decode prog_23_method_29_code 16 = .ok (.aaload, 1) := by decide +kernel
theorem k_AL_remove_17 : px_dec prog_23_method_29_code [.astore_n 3, .aload_n 0, .aload_n 2, .iload_n 1] 17 = true := by decide +kernel
theorem d_AL_remove_21 : decode prog_23_method_29_code 21 = .ok (.invokevirtual 144, 3) := by decide +kernel
theorem k_AL_remove_24 : px_dec prog_23_method_29_code [.aload_n 3] 24 = true := by decide +kernel
theorem d_AL_remove_25 : decode prog_23_method_29_code 25 = .ok (.areturn, 1) := by decide +kernel
set_option maxRecDepth 100000 in
set_option maxHeartbeats 4000000 in
theorem c_AL_remove (l : Launch) (D : va_G) (HB : Heap) (h : hp_T) (a b n j : Nat) (f : Nat → Nat) (hL : al_ok D h a b n f) (hj : j < n) (hf : ∀ i : Nat, i < n → ob_ok h (f i)) : ct_M l y_AL_remove (.code y_AL_remove prog_23_method_29_code 4 (Option.some (Jvm.ClassFile.FieldType.object "java/lang/Object"))) ({ frames := 2, cells := 0, slots := 0, locals := 83 }) D HB [.ref a, .int (nI j)] h (fun o h2 => o = .inl (some (.ref (f j))) ∧ al_ok D h2 a b (n - 1) (al_del f j) ∧ al_fr h h2 a b) := by
  refine ct_of (by decide) (Nat.le_of_ble_eq_true rfl) rfl ?_
  intro p e s m args below meth c C hnm
  obtain ⟨md, ha, hL0⟩ := id hL
  rcases hL0 with ⟨hn0, hb⟩ | ⟨cap, g, hb, hnc, hc2, hc1, hg⟩
  · omega
  refine wk_run C k_AL_remove_0 (pc2 := 2) (lv2 := [(0, .ref a), (1, .int (nI j))]) (st2 := [.ref a, .int (nI j)]) rfl ?_
  refine wk_get C fd_AL_48 ha rfl d_AL_remove_2 ?_
  refine wk_callS (rest := []) C (c_OB_checkIndex l D HB h (nI j) (nI n) (nI_pos (by omega)) (nI_lt hj (by omega))) cs_AL_118 kc_OB_checkIndex ki_OB rfl rfl (Nat.le_of_ble_eq_true rfl) (Nat.le_of_ble_eq_true rfl) (Nat.le_of_ble_eq_true rfl) (Nat.le_of_ble_eq_true rfl) (Nat.le_of_ble_eq_true rfl) d_AL_remove_5 (fun v h2 hq => ?_) (fun _ _ z => nomatch z.1)
  obtain ⟨e1, e2⟩ := hq; cases e1; subst e2
  refine wk_run C k_AL_remove_8 (pc2 := 10) (lv2 := [(0, .ref a), (1, .int (nI j))]) (st2 := [.ref a]) rfl ?_
  refine wk_get C fd_AL_9 ha rfl d_AL_remove_10 ?_
  refine wk_run C k_AL_remove_13 (pc2 := 16) (lv2 := [(2, .ref b), (0, .ref a), (1, .int (nI j))]) (st2 := [.int (nI j), .ref b]) rfl ?_
  refine wk_aald C hb (vp_in_nI (by omega) (by omega)) (y := f j) (by rw [nI_clamp (by omega)]; exact hg j hj) d_AL_remove_16 ?_
  refine wk_run C k_AL_remove_17 (pc2 := 21) (lv2 := [(3, .ref (f j)), (2, .ref b), (0, .ref a), (1, .int (nI j))]) (st2 := [.int (nI j), .ref b, .ref a]) rfl ?_
  refine wk_callV (cl := ("java/util/ArrayList", T_AL, 3)) (rest := []) C (c_AL_fastRemove l D HB h2 a b n j f hL hj hf) cs_AL_144 kc_AL_fastRemove ki_AL ha rfl rfl rfl (Nat.le_of_ble_eq_true rfl) (Nat.le_of_ble_eq_true rfl) (Nat.le_of_ble_eq_true rfl) (Nat.le_of_ble_eq_true rfl) (Nat.le_of_ble_eq_true rfl) d_AL_remove_21 (fun v h3 hq => ?_) (fun _ _ z => nomatch z.1)
  obtain ⟨e1, k1, k2⟩ := hq; cases e1
  refine wk_run C k_AL_remove_24 (pc2 := 25) (lv2 := [(3, .ref (f j)), (2, .ref b), (0, .ref a), (1, .int (nI j))]) (st2 := [.ref (f j)]) rfl ?_
  exact wk_aret C rfl (Or.inl ⟨_, rfl⟩) (Or.inr ⟨_, rfl⟩) ⟨rfl, k1, k2⟩ (by decide) (by decide) d_AL_remove_25
theorem al_size {D : va_G} {h : hp_T} {a b n : Nat} {f : Nat → Nat} (l : Launch) (HB : Heap) (hL : al_ok D h a b n f) : ct_M l y_AL_size (.code y_AL_size prog_23_method_8_code 1 (some .int)) { frames := 0, cells := 0, slots := 0, locals := 0 } D HB [.ref a] h (fun o h2 => o = .inl (some (.int (nI n))) ∧ h2 = h) := by
  obtain ⟨md, ha, -⟩ := hL
  exact c_AL_size l D HB h a md (nI n) _ ha
theorem al_get {D : va_G} {h : hp_T} {a b n j : Nat} {f : Nat → Nat} (l : Launch) (HB : Heap) (hL : al_ok D h a b n f) (hj : j < n) : ct_M l y_AL_get (.code y_AL_get prog_23_method_20_code 2 (some (.object "java/lang/Object"))) { frames := 2, cells := 0, slots := 0, locals := 43 } D HB [.ref a, .int (nI j)] h (fun o h2 => o = .inl (some (.ref (f j))) ∧ h2 = h) := by
  obtain ⟨md, ha, hL⟩ := hL
  rcases hL with ⟨hn0, -⟩ | ⟨cap, g, hb, hnc, hc2, hc1, hg⟩
  · omega
  · exact c_AL_get l D HB h a b cap (f j) md (nI n) (nI j) g ha hb (vp_in_nI (by omega) (by omega)) (by rw [nI_clamp (by omega)]; exact hg j hj) (nI_pos (by omega)) (nI_lt hj (by omega))

