/-- the places of k among the first n characters, as bits -/
def pl_m (f : Nat → Int32) (k : Int32) : Nat → Int32
  | 0 => 0
  | i + 1 => if f i = k then pl_m f k i ||| ((1 : Int32) <<< (nI i &&& 31)) else pl_m f k i
def rb_1 (k r : Int32) (f : Nat → Int32) (n : Nat) : Int32 := if k = 42 then r ||| -r else if k = 37 then r <<< ((1 : Int32) &&& 31) else (r &&& pl_m f k n) <<< ((1 : Int32) &&& 31)
theorem rb_0 (k : Int32) (f : Nat → Int32) (n : Nat) : rb_1 k 0 f n = 0 := by
  unfold rb_1
  split
  · decide
  · split
    · decide
    · rw [Int32.zero_and]; decide
/-- the inside mask, what is reached behind i characters of the profile's name -/
def rb_M (n : Nat) : Int32 := ((1 : Int32) <<< ((nI n + 1) &&& 31)) - 1
def rb_R (p f : Nat → Int32) (n : Nat) : Nat → Int32
  | 0 => 1
  | i + 1 => rb_1 (p i) (rb_R p f n i) f n &&& rb_M n
theorem rb_R0 {p f : Nat → Int32} {n i : Nat} (h : rb_R p f n i = 0) : ∀ k, i ≤ k → rb_R p f n k = 0 := by
  intro k hk
  induction k with
  | zero => have : i = 0 := by omega
            subst this; exact h
  | succ k ih =>
    by_cases z : i = k + 1
    · subst z; exact h
    · show rb_1 (p k) (rb_R p f n k) f n &&& rb_M n = 0
      rw [ih (by omega), rb_0, Int32.zero_and]
def rb_F (p : Nat → Int32) (m : Nat) (f : Nat → Int32) (n : Nat) : Prop := ¬ (rb_R p f n m >>> (nI n &&& 31)) &&& 1 = 0

theorem k_NM_placesOf_0 : px_dec prog_4_method_9_code [.iconst 0, .istore_n 2, .iconst 0, .istore_n 3] 0 = true := by decide +kernel
theorem k_NM_placesOf_4 : px_dec prog_4_method_9_code [.iload_n 3, .aload_n 0] 4 = true := by decide +kernel
theorem d_NM_placesOf_6 : decode prog_4_method_9_code 6 = .ok (.getfield 15, 3) := by decide +kernel
theorem d_NM_placesOf_9 : decode prog_4_method_9_code 9 = .ok (.if_icmp .ge 25, 3) := by decide +kernel
theorem k_NM_placesOf_12 : px_dec prog_4_method_9_code [.aload_n 0] 12 = true := by decide +kernel
theorem d_NM_placesOf_13 : decode prog_4_method_9_code 13 = .ok (.getfield 9, 3) := by decide +kernel
theorem k_NM_placesOf_16 : px_dec prog_4_method_9_code [.iload_n 3] 16 = true := by decide +kernel
theorem d_NM_placesOf_17 : decode prog_4_method_9_code 17 = .ok (.iaload, 1) := by decide +kernel
theorem k_NM_placesOf_18 : px_dec prog_4_method_9_code [.iload_n 1] 18 = true := by decide +kernel
theorem d_NM_placesOf_19 : decode prog_4_method_9_code 19 = .ok (.if_icmp .ne 9, 3) := by decide +kernel
theorem k_NM_placesOf_28 : px_dec prog_4_method_9_code [.iinc 3 1] 28 = true := by decide +kernel
theorem d_NM_placesOf_31 : decode prog_4_method_9_code 31 = .ok (.goto (-27), 3) := by decide +kernel
theorem k_NM_placesOf_22 : px_dec prog_4_method_9_code [.iload_n 2, .iconst 1, .iload_n 3, .ishl, .ior, .istore_n 2, .iinc 3 1] 22 = true := by decide +kernel
theorem k_NM_placesOf_34 : px_dec prog_4_method_9_code [.iload_n 2] 34 = true := by decide +kernel
theorem d_NM_placesOf_35 : decode prog_4_method_9_code 35 = .ok (.ireturn, 1) := by decide +kernel
set_option maxRecDepth 100000 in
set_option maxHeartbeats 4000000 in
theorem c_NM_placesOf (l : Launch) (D : va_G) (HB : Heap) (h : hp_T) (a c n : Nat) (f g : Nat → Int32) (k s2 a2 : Int32) (ha : h a = some (.inr (3, [.ref c, .int (nI n), .int s2, .int a2]))) (hc : h c = some (.inl (D.1 100, 20, .inl g))) (hg : ∀ i, i < n → g i = f i) (hn : n ≤ 20) : ct_M l y_NM_placesOf (.code y_NM_placesOf prog_4_method_9_code 4 (Option.some Jvm.ClassFile.FieldType.int)) ({ frames := 0, cells := 0, slots := 0, locals := 0 }) D HB [.ref a, .int k] h (fun o h2 => o = .inl (some (.int (pl_m f k n))) ∧ h2 = h) := by
  refine ct_of (by decide) (Nat.le_of_ble_eq_true rfl) rfl ?_
  intro p_ e_ s_ m_ r_ b_ t_ c_ C hnm
  refine wk_run C k_NM_placesOf_0 (pc2 := 4) (lv2 := [(3, .int 0), (2, .int 0), (0, .ref a), (1, .int k)]) (st2 := []) rfl ?_
  refine Wk.sub (lv2 := [(0, .ref a), (1, .int k), (2, .int 0), (3, .int 0)]) [2, 3, 1, 0] rfl ?_
  refine wk_up (hF := fun _ => h) (lvF := fun i => [(0, .ref a), (1, .int k), (2, .int (pl_m f k i)), (3, .int (nI i))]) n (fun i hi ih => ?_) ?_ 0 (Nat.zero_le n)
  ·
    show Wk _ _ _ _ _ _ _ _ _ _ _ _ _ _ _ _ _ _ [(0, .ref a), (1, .int k), (2, .int (pl_m f k i)), (3, .int (nI i))] _
    refine wk_run C k_NM_placesOf_4 (pc2 := 6) (lv2 := [(0, .ref a), (1, .int k), (2, .int (pl_m f k i)), (3, .int (nI i))]) (st2 := [.ref a, .int (nI i)]) rfl ?_
    refine wk_get C fd_NM_15 ha rfl d_NM_placesOf_6 ?_
    refine wk_br C d_NM_placesOf_9 (P := (nI n) ≤ (nI i)) (tgt := 34) (rest := []) rfl (by decide) (fun c1 => ?_) (fun c1 => ?_)
    · exact absurd c1 (nI_ge hi (by omega))
    ·
      refine wk_run C k_NM_placesOf_12 (pc2 := 13) (lv2 := [(0, .ref a), (1, .int k), (2, .int (pl_m f k i)), (3, .int (nI i))]) (st2 := [.ref a]) rfl ?_
      refine wk_get C fd_NM_9 ha rfl d_NM_placesOf_13 ?_
      refine wk_run C k_NM_placesOf_16 (pc2 := 17) (lv2 := [(0, .ref a), (1, .int k), (2, .int (pl_m f k i)), (3, .int (nI i))]) (st2 := [.int (nI i), .ref c]) rfl ?_
      refine wk_iald C hc (vp_in_nI (by omega) (by omega)) d_NM_placesOf_17 ?_
      rw [nI_clamp (by omega), hg i hi]
      refine wk_run C k_NM_placesOf_18 (pc2 := 19) (lv2 := [(0, .ref a), (1, .int k), (2, .int (pl_m f k i)), (3, .int (nI i))]) (st2 := [.int k, .int (f i)]) rfl ?_
      refine wk_br C d_NM_placesOf_19 (P := ¬ (f i) = k) (tgt := 28) (rest := []) rfl (by decide) (fun c2 => ?_) (fun c2 => ?_)
      ·
        refine wk_run C k_NM_placesOf_28 (pc2 := 31) (lv2 := [(3, .int ((nI i) + 1)), (0, .ref a), (1, .int k), (2, .int (pl_m f k i))]) (st2 := []) rfl ?_
        refine wk_goto C d_NM_placesOf_31 (tgt := 4) (by decide) ?_
        refine Wk.sub (lv2 := [(0, .ref a), (1, .int k), (2, .int (pl_m f k i)), (3, .int ((nI i) + 1))]) [1, 2, 3, 0] rfl ?_
        rw [nI_1]
        have e1 : pl_m f k (i + 1) = (pl_m f k i) := if_neg c2
        rw [e1] at ih
        exact ih
      ·
        refine wk_run C k_NM_placesOf_22 (pc2 := 31) (lv2 := [(3, .int ((nI i) + 1)), (2, .int ((pl_m f k i) ||| (1 <<< ((nI i) &&& 31)))), (0, .ref a), (1, .int k)]) (st2 := []) rfl ?_
        refine wk_goto C d_NM_placesOf_31 (tgt := 4) (by decide) ?_
        refine Wk.sub (lv2 := [(0, .ref a), (1, .int k), (2, .int ((pl_m f k i) ||| (1 <<< ((nI i) &&& 31)))), (3, .int ((nI i) + 1))]) [2, 3, 1, 0] rfl ?_
        rw [nI_1]
        have e1 : pl_m f k (i + 1) = ((pl_m f k i) ||| (1 <<< ((nI i) &&& 31))) := if_pos (Classical.not_not.mp c2)
        rw [e1] at ih
        exact ih
  ·
    refine wk_run C k_NM_placesOf_4 (pc2 := 6) (lv2 := [(0, .ref a), (1, .int k), (2, .int (pl_m f k n)), (3, .int (nI n))]) (st2 := [.ref a, .int (nI n)]) rfl ?_
    refine wk_get C fd_NM_15 ha rfl d_NM_placesOf_6 ?_
    refine wk_br C d_NM_placesOf_9 (P := (nI n) ≤ (nI n)) (tgt := 34) (rest := []) rfl (by decide) (fun c1 => ?_) (fun c1 => ?_)
    ·
      refine wk_run C k_NM_placesOf_34 (pc2 := 35) (lv2 := [(0, .ref a), (1, .int k), (2, .int (pl_m f k n)), (3, .int (nI n))]) (st2 := [.int (pl_m f k n)]) rfl ?_
      exact wk_iret C ⟨rfl, rfl⟩ (by decide) (by decide) d_NM_placesOf_35
    · exact absurd (Int32.le_refl _) c1
theorem k_NM_reachedBehind_0 : px_dec prog_4_method_8_code [.iload_n 0, .bipush 42] 0 = true := by decide +kernel
theorem d_NM_reachedBehind_3 : decode prog_4_method_8_code 3 = .ok (.if_icmp .ne 8, 3) := by decide +kernel
theorem k_NM_reachedBehind_11 : px_dec prog_4_method_8_code [.iload_n 0, .bipush 37] 11 = true := by decide +kernel
theorem d_NM_reachedBehind_14 : decode prog_4_method_8_code 14 = .ok (.if_icmp .ne 7, 3) := by decide +kernel
theorem k_NM_reachedBehind_21 : px_dec prog_4_method_8_code [.iload_n 1, .aload_n 2, .iload_n 0] 21 = true := by decide +kernel
theorem d_NM_reachedBehind_24 : decode prog_4_method_8_code 24 = .ok (.invokevirtual 36, 3) := by decide +kernel
theorem k_NM_reachedBehind_27 : px_dec prog_4_method_8_code [.iand, .iconst 1, .ishl] 27 = true := by decide +kernel
theorem d_NM_reachedBehind_30 : decode prog_4_method_8_code 30 = .ok (.ireturn, 1) := by decide +kernel
theorem k_NM_reachedBehind_17 : px_dec prog_4_method_8_code [.iload_n 1, .iconst 1, .ishl] 17 = true := by decide +kernel
theorem d_NM_reachedBehind_20 : decode prog_4_method_8_code 20 = .ok (.ireturn, 1) := by decide +kernel
theorem k_NM_reachedBehind_6 : px_dec prog_4_method_8_code [.iload_n 1, .iload_n 1, .ineg, .ior] 6 = true := by decide +kernel
theorem d_NM_reachedBehind_10 : decode prog_4_method_8_code 10 = .ok (.ireturn, 1) := by decide +kernel
set_option maxRecDepth 100000 in
set_option maxHeartbeats 4000000 in
theorem c_NM_reachedBehind (l : Launch) (D : va_G) (HB : Heap) (h : hp_T) (a c n : Nat) (f g : Nat → Int32) (k r s2 a2 : Int32) (ha : h a = some (.inr (3, [.ref c, .int (nI n), .int s2, .int a2]))) (hc : h c = some (.inl (D.1 100, 20, .inl g))) (hg : ∀ i, i < n → g i = f i) (hn : n ≤ 20) : ct_M l y_NM_reachedBehind (.code y_NM_reachedBehind prog_4_method_8_code 3 (Option.some Jvm.ClassFile.FieldType.int)) ({ frames := 1, cells := 0, slots := 0, locals := 24 }) D HB [.int k, .int r, .ref a] h (fun o h2 => o = .inl (some (.int (rb_1 k r f n))) ∧ h2 = h) := by
  refine ct_of (by decide) (Nat.le_of_ble_eq_true rfl) rfl ?_
  intro p_ e_ s_ m_ r_ b_ t_ c_ C hnm
  refine wk_run C k_NM_reachedBehind_0 (pc2 := 3) (lv2 := [(0, .int k), (1, .int r), (2, .ref a)]) (st2 := [.int 42, .int k]) rfl ?_
  refine wk_br C d_NM_reachedBehind_3 (P := ¬ k = 42) (tgt := 11) (rest := []) rfl (by decide) (fun c1 => ?_) (fun c1 => ?_)
  ·
    refine wk_run C k_NM_reachedBehind_11 (pc2 := 14) (lv2 := [(0, .int k), (1, .int r), (2, .ref a)]) (st2 := [.int 37, .int k]) rfl ?_
    refine wk_br C d_NM_reachedBehind_14 (P := ¬ k = 37) (tgt := 21) (rest := []) rfl (by decide) (fun c2 => ?_) (fun c2 => ?_)
    ·
      refine wk_run C k_NM_reachedBehind_21 (pc2 := 24) (lv2 := [(0, .int k), (1, .int r), (2, .ref a)]) (st2 := [.int k, .ref a, .int r]) rfl ?_
      refine wk_callV (cl := ("ProfileRights$Name", T_NM, 4)) (rest := [.int r]) C (c_NM_placesOf l D HB h a c n f g k s2 a2 ha hc hg hn) cs_NM_36 kc_NM_placesOf ki_NM ha rfl rfl rfl (Nat.le_of_ble_eq_true rfl) (Nat.le_of_ble_eq_true rfl) (Nat.le_of_ble_eq_true rfl) (Nat.le_of_ble_eq_true rfl) (Nat.le_of_ble_eq_true rfl) d_NM_reachedBehind_24 (fun v h2 hq => ?_) (fun _ _ z => nomatch z.1)
      obtain ⟨e1, e2⟩ := hq; cases e1; replace e2 := e2.symm; subst e2
      refine wk_run C k_NM_reachedBehind_27 (pc2 := 30) (lv2 := [(0, .int k), (1, .int r), (2, .ref a)]) (st2 := [.int ((r &&& (pl_m f k n)) <<< (1 &&& 31))]) rfl ?_
      exact wk_iret C ⟨by unfold rb_1; simp_all [c1, c2], rfl⟩ (by decide) (by decide) d_NM_reachedBehind_30
    ·
      refine wk_run C k_NM_reachedBehind_17 (pc2 := 20) (lv2 := [(0, .int k), (1, .int r), (2, .ref a)]) (st2 := [.int (r <<< (1 &&& 31))]) rfl ?_
      exact wk_iret C ⟨by unfold rb_1; simp_all [c1, c2], rfl⟩ (by decide) (by decide) d_NM_reachedBehind_20
  ·
    refine wk_run C k_NM_reachedBehind_6 (pc2 := 10) (lv2 := [(0, .int k), (1, .int r), (2, .ref a)]) (st2 := [.int (r ||| (-r))]) rfl ?_
    exact wk_iret C ⟨by unfold rb_1; simp_all [c1], rfl⟩ (by decide) (by decide) d_NM_reachedBehind_10
theorem k_NM_fits_0 : px_dec prog_4_method_7_code [.iconst 1, .aload_n 1] 0 = true := by decide +kernel
theorem d_NM_fits_2 : decode prog_4_method_7_code 2 = .ok (.getfield 15, 3) := by decide +kernel
theorem k_NM_fits_5 : px_dec prog_4_method_7_code [.iconst 1, .iadd, .ishl, .iconst 1, .isub, .istore_n 2, .iconst 1, .istore_n 3, .iconst 0, .istore 4] 5 = true := by decide +kernel
theorem k_NM_fits_50 : px_dec prog_4_method_7_code [.iload_n 3, .aload_n 1] 50 = true := by decide +kernel
theorem d_NM_fits_52 : decode prog_4_method_7_code 52 = .ok (.getfield 15, 3) := by decide +kernel
theorem k_NM_fits_55 : px_dec prog_4_method_7_code [.ishr, .iconst 1, .iand] 55 = true := by decide +kernel
theorem d_NM_fits_58 : decode prog_4_method_7_code 58 = .ok (.ifCond .eq 7, 3) := by decide +kernel
theorem k_NM_fits_65 : px_dec prog_4_method_7_code [.iconst 0] 65 = true := by decide +kernel
theorem d_NM_fits_66 : decode prog_4_method_7_code 66 = .ok (.ireturn, 1) := by decide +kernel
theorem k_NM_fits_61 : px_dec prog_4_method_7_code [.iconst 1] 61 = true := by decide +kernel
theorem d_NM_fits_62 : decode prog_4_method_7_code 62 = .ok (.goto 4, 3) := by decide +kernel
theorem k_NM_fits_16 : px_dec prog_4_method_7_code [.iload 4, .aload_n 0] 16 = true := by decide +kernel
theorem d_NM_fits_19 : decode prog_4_method_7_code 19 = .ok (.getfield 15, 3) := by decide +kernel
theorem d_NM_fits_22 : decode prog_4_method_7_code 22 = .ok (.if_icmp .ge 28, 3) := by decide +kernel
theorem k_NM_fits_25 : px_dec prog_4_method_7_code [.iload_n 3] 25 = true := by decide +kernel
theorem d_NM_fits_26 : decode prog_4_method_7_code 26 = .ok (.ifCond .eq 24, 3) := by decide +kernel
theorem k_NM_fits_29 : px_dec prog_4_method_7_code [.aload_n 0] 29 = true := by decide +kernel
theorem d_NM_fits_30 : decode prog_4_method_7_code 30 = .ok (.getfield 9, 3) := by decide +kernel
theorem k_NM_fits_33 : px_dec prog_4_method_7_code [.iload 4] 33 = true := by decide +kernel
theorem d_NM_fits_35 : decode prog_4_method_7_code 35 = .ok (.iaload, 1) := by decide +kernel
theorem k_NM_fits_36 : px_dec prog_4_method_7_code [.iload_n 3, .aload_n 1] 36 = true := by decide +kernel
theorem d_NM_fits_38 : decode prog_4_method_7_code 38 = .ok (.invokestatic 32, 3) := by decide +kernel
theorem k_NM_fits_41 : px_dec prog_4_method_7_code [.iload_n 2, .iand, .istore_n 3, .iinc 4 1] 41 = true := by decide +kernel
theorem d_NM_fits_47 : decode prog_4_method_7_code 47 = .ok (.goto (-31), 3) := by decide +kernel
set_option maxRecDepth 100000 in
set_option maxHeartbeats 4000000 in
theorem c_NM_fits (l : Launch) (D : va_G) (HB : Heap) (h : hp_T) (a ca m b cb n : Nat) (pf f pg g : Nat → Int32) (s1 a1 s2 a2 : Int32) (ha : h a = some (.inr (3, [.ref ca, .int (nI m), .int s1, .int a1]))) (hca : h ca = some (.inl (D.1 100, 20, .inl pg))) (hpg : ∀ i, i < m → pg i = pf i) (hm : m ≤ 20) (hb : h b = some (.inr (3, [.ref cb, .int (nI n), .int s2, .int a2]))) (hc : h cb = some (.inl (D.1 100, 20, .inl g))) (hg : ∀ i, i < n → g i = f i) (hn : n ≤ 20) : ct_M l y_NM_fits (.code y_NM_fits prog_4_method_7_code 5 (Option.some Jvm.ClassFile.FieldType.boolean)) ({ frames := 2, cells := 0, slots := 0, locals := 46 }) D HB [.ref a, .ref b] h (fun o h2 => (rb_F pf m f n → o = .inl (some (.int 1))) ∧ (¬ rb_F pf m f n → o = .inl (some (.int 0))) ∧ h2 = h) := by
  refine ct_of (by decide) (Nat.le_of_ble_eq_true rfl) rfl ?_
  intro p_ e_ s_ m_ r_ b_ t_ c_ C hnm
  refine wk_run C k_NM_fits_0 (pc2 := 2) (lv2 := [(0, .ref a), (1, .ref b)]) (st2 := [.ref b, .int 1]) rfl ?_
  refine wk_get C fd_NM_15 hb rfl d_NM_fits_2 ?_
  refine wk_run C k_NM_fits_5 (pc2 := 16) (lv2 := [(4, .int 0), (3, .int 1), (2, .int ((1 <<< (((nI n) + 1) &&& 31)) - 1)), (0, .ref a), (1, .ref b)]) (st2 := []) rfl ?_
  rw [show ((1 : Int32) <<< ((nI n + 1) &&& 31)) - 1 = rb_M n from rfl]
  refine Wk.sub (lv2 := [(0, .ref a), (1, .ref b), (2, .int (rb_M n)), (3, .int 1), (4, .int 0)]) [3, 4, 2, 1, 0] rfl ?_
  have fin : ∀ i, i ≤ m → rb_R pf f n i = rb_R pf f n m → Wk p_ l e_ ({ frames := 2, cells := 0, slots := 0, locals := 46 } : Room) s_ m_ r_ b_ t_ c_ 5 D HB (ct_Q b_ D HB (fun o h2 => (rb_F pf m f n → o = .inl (some (.int 1))) ∧ (¬ rb_F pf m f n → o = .inl (some (.int 0))) ∧ h2 = h) s_ 0 0) h 0 0 50 [(0, .ref a), (1, .ref b), (2, .int (rb_M n)), (3, .int (rb_R pf f n i)), (4, .int (nI i))] [] := by
    intro i hi ei
    rw [ei]
    refine wk_run C k_NM_fits_50 (pc2 := 52) (lv2 := [(0, .ref a), (1, .ref b), (2, .int (rb_M n)), (3, .int (rb_R pf f n m)), (4, .int (nI i))]) (st2 := [.ref b, .int (rb_R pf f n m)]) rfl ?_
    refine wk_get C fd_NM_15 hb rfl d_NM_fits_52 ?_
    refine wk_run C k_NM_fits_55 (pc2 := 58) (lv2 := [(0, .ref a), (1, .ref b), (2, .int (rb_M n)), (3, .int (rb_R pf f n m)), (4, .int (nI i))]) (st2 := [.int (((rb_R pf f n m) >>> ((nI n) &&& 31)) &&& 1)]) rfl ?_
    refine wk_br C d_NM_fits_58 (P := (((rb_R pf f n m) >>> ((nI n) &&& 31)) &&& 1) = 0) (tgt := 65) (rest := []) rfl (by decide) (fun c1 => ?_) (fun c1 => ?_)
    ·
      refine wk_run C k_NM_fits_65 (pc2 := 66) (lv2 := [(0, .ref a), (1, .ref b), (2, .int (rb_M n)), (3, .int (rb_R pf f n m)), (4, .int (nI i))]) (st2 := [.int 0]) rfl ?_
      exact wk_zret C (by decide) ⟨fun z => absurd c1 z, fun _ => rfl, rfl⟩ (by decide) (by decide) d_NM_fits_66
    ·
      refine wk_run C k_NM_fits_61 (pc2 := 62) (lv2 := [(0, .ref a), (1, .ref b), (2, .int (rb_M n)), (3, .int (rb_R pf f n m)), (4, .int (nI i))]) (st2 := [.int 1]) rfl ?_
      refine wk_goto C d_NM_fits_62 (tgt := 66) (by decide) ?_
      exact wk_zret C (by decide) ⟨fun _ => rfl, fun z => absurd c1 z, rfl⟩ (by decide) (by decide) d_NM_fits_66
  refine wk_up (hF := fun _ => h) (lvF := fun i => [(0, .ref a), (1, .ref b), (2, .int (rb_M n)), (3, .int (rb_R pf f n i)), (4, .int (nI i))]) m (fun i hi ih => ?_) ?_ 0 (Nat.zero_le m)
  ·
    show Wk _ _ _ _ _ _ _ _ _ _ _ _ _ _ _ _ _ _ [(0, .ref a), (1, .ref b), (2, .int (rb_M n)), (3, .int (rb_R pf f n i)), (4, .int (nI i))] _
    refine wk_run C k_NM_fits_16 (pc2 := 19) (lv2 := [(0, .ref a), (1, .ref b), (2, .int (rb_M n)), (3, .int (rb_R pf f n i)), (4, .int (nI i))]) (st2 := [.ref a, .int (nI i)]) rfl ?_
    refine wk_get C fd_NM_15 ha rfl d_NM_fits_19 ?_
    refine wk_br C d_NM_fits_22 (P := (nI m) ≤ (nI i)) (tgt := 50) (rest := []) rfl (by decide) (fun c1 => ?_) (fun c1 => ?_)
    · exact absurd c1 (nI_ge hi (by omega))
    ·
      refine wk_run C k_NM_fits_25 (pc2 := 26) (lv2 := [(0, .ref a), (1, .ref b), (2, .int (rb_M n)), (3, .int (rb_R pf f n i)), (4, .int (nI i))]) (st2 := [.int (rb_R pf f n i)]) rfl ?_
      refine wk_br C d_NM_fits_26 (P := (rb_R pf f n i) = 0) (tgt := 50) (rest := []) rfl (by decide) (fun c2 => ?_) (fun c2 => ?_)
      ·
        exact fin i (Nat.le_of_lt hi) (by rw [c2, rb_R0 c2 m (Nat.le_of_lt hi)])
      ·
        refine wk_run C k_NM_fits_29 (pc2 := 30) (lv2 := [(0, .ref a), (1, .ref b), (2, .int (rb_M n)), (3, .int (rb_R pf f n i)), (4, .int (nI i))]) (st2 := [.ref a]) rfl ?_
        refine wk_get C fd_NM_9 ha rfl d_NM_fits_30 ?_
        refine wk_run C k_NM_fits_33 (pc2 := 35) (lv2 := [(0, .ref a), (1, .ref b), (2, .int (rb_M n)), (3, .int (rb_R pf f n i)), (4, .int (nI i))]) (st2 := [.int (nI i), .ref ca]) rfl ?_
        refine wk_iald C hca (vp_in_nI (by omega) (by omega)) d_NM_fits_35 ?_
        rw [nI_clamp (by omega), hpg i hi]
        refine wk_run C k_NM_fits_36 (pc2 := 38) (lv2 := [(0, .ref a), (1, .ref b), (2, .int (rb_M n)), (3, .int (rb_R pf f n i)), (4, .int (nI i))]) (st2 := [.ref b, .int (rb_R pf f n i), .int (pf i)]) rfl ?_
        refine wk_callS (rest := []) C (c_NM_reachedBehind l D HB h b cb n f g (pf i) (rb_R pf f n i) s2 a2 hb hc hg hn) cs_NM_32 kc_NM_reachedBehind ki_NM rfl rfl (Nat.le_of_ble_eq_true rfl) (Nat.le_of_ble_eq_true rfl) (Nat.le_of_ble_eq_true rfl) (Nat.le_of_ble_eq_true rfl) (Nat.le_of_ble_eq_true rfl) d_NM_fits_38 (fun v h2 hq => ?_) (fun _ _ z => nomatch z.1)
        obtain ⟨e1, e2⟩ := hq; cases e1; replace e2 := e2.symm; subst e2
        refine wk_run C k_NM_fits_41 (pc2 := 47) (lv2 := [(4, .int ((nI i) + 1)), (3, .int ((rb_1 (pf i) (rb_R pf f n i) f n) &&& (rb_M n))), (0, .ref a), (1, .ref b), (2, .int (rb_M n))]) (st2 := []) rfl ?_
        refine wk_goto C d_NM_fits_47 (tgt := 16) (by decide) ?_
        refine Wk.sub (lv2 := [(0, .ref a), (1, .ref b), (2, .int (rb_M n)), (3, .int ((rb_1 (pf i) (rb_R pf f n i) f n) &&& (rb_M n))), (4, .int ((nI i) + 1))]) [2, 3, 4, 1, 0] rfl ?_
        rw [nI_1]
        exact ih
  ·
    refine wk_run C k_NM_fits_16 (pc2 := 19) (lv2 := [(0, .ref a), (1, .ref b), (2, .int (rb_M n)), (3, .int (rb_R pf f n m)), (4, .int (nI m))]) (st2 := [.ref a, .int (nI m)]) rfl ?_
    refine wk_get C fd_NM_15 ha rfl d_NM_fits_19 ?_
    refine wk_br C d_NM_fits_22 (P := (nI m) ≤ (nI m)) (tgt := 50) (rest := []) rfl (by decide) (fun c1 => ?_) (fun c1 => ?_)
    · exact fin m (Nat.le_refl m) rfl
    · exact absurd (Int32.le_refl _) c1
