theorem pv_0 {gA : Nat → Nat} {z : Int32} (h : z = 0) : pv_ gA z = .null := if_pos h
theorem pv_n {gA : Nat → Nat} {z : Int32} (h : ¬ z = 0) : pv_ gA z = .ref (gA (nu z)) := if_neg h
theorem cG_i {h : hp_T} {own : oT} {n : Nat} {gA : Nat → Nat} {V : vT} (k : cG h own n gA V) {i j : Nat} (hi : 1 ≤ i ∧ i ≤ n) (hj : 1 ≤ j ∧ j ≤ n) (e : gA i = gA j) : i = j := by
  have h1 := (k i hi.1 hi.2).2
  rw [e, (k j hj.1 hj.2).2] at h1
  exact (congrArg Prod.snd h1).symm

theorem k_PR_isWithin_2 : px_dec prog_1_method_31_code [.aload_n 2] 2 = true := by decide +kernel
theorem d_PR_isWithin_3 : decode prog_1_method_31_code 3 = .ok (.ifnull 18, 3) := by decide +kernel
theorem k_PR_isWithin_21 : px_dec prog_1_method_31_code [.iconst 0] 21 = true := by decide +kernel
theorem d_PR_isWithin_22 : decode prog_1_method_31_code 22 = .ok (.ireturn, 1) := by decide +kernel
theorem k_PR_isWithin_6 : px_dec prog_1_method_31_code [.aload_n 2, .aload_n 1] 6 = true := by decide +kernel
theorem d_PR_isWithin_8 : decode prog_1_method_31_code 8 = .ok (.if_acmp .ne 5, 3) := by decide +kernel
theorem k_PR_isWithin_13 : px_dec prog_1_method_31_code [.aload_n 2] 13 = true := by decide +kernel
theorem d_PR_isWithin_14 : decode prog_1_method_31_code 14 = .ok (.getfield 75, 3) := by decide +kernel
theorem k_PR_isWithin_17 : px_dec prog_1_method_31_code [.astore_n 2] 17 = true := by decide +kernel
theorem d_PR_isWithin_18 : decode prog_1_method_31_code 18 = .ok (.goto (-16), 3) := by decide +kernel
theorem k_PR_isWithin_11 : px_dec prog_1_method_31_code [.iconst 1] 11 = true := by decide +kernel
theorem d_PR_isWithin_12 : decode prog_1_method_31_code 12 = .ok (.ireturn, 1) := by decide +kernel
theorem k_PR_isWithin_0 : px_dec prog_1_method_31_code [.aload_n 0, .astore_n 2] 0 = true := by decide +kernel
set_option maxRecDepth 100000 in
set_option maxHeartbeats 4000000 in
theorem c_PR_isWithin (l : Launch) (D : va_G) (HB : Heap) (h : hp_T) (own : oT) (n : Nat) (gA : Nat → Nat) (V : vT) (g : Int32) (xk : Nat) (hG : cG h own n gA V) (hn : n ≤ 20) (hA : ∀ k, 1 ≤ k → k ≤ n → ok_ (V 1 k) n) (hg : ok_ g n) (hx : 1 ≤ xk ∧ xk ≤ n) (hC : ∃ m, cn_ V m (nu g) = 0) : ct_M l y_PR_isWithin (.code y_PR_isWithin prog_1_method_31_code 3 (Option.some Jvm.ClassFile.FieldType.boolean)) ({ frames := 0, cells := 0, slots := 0, locals := 0 }) D HB [pv_ gA g, .ref (gA xk)] h (fun o h2 => o = .inl (some (.int (z_ (mv_ V xk (nu g))))) ∧ h2 = h) := by
  refine ct_of (lv := [(0, pv_ gA g), (1, .ref (gA xk))]) (by decide) (by rcases Classical.em (g = 0) with z | z <;> (first | rw [pv_0 z] | rw [pv_n z]) <;> exact Nat.le_of_ble_eq_true rfl) (by rcases Classical.em (g = 0) with z | z <;> (first | rw [pv_0 z] | rw [pv_n z]) <;> rfl) ?_
  intro p_ e_ s_ m_ r_ b_ t_ c_ C hnm
  refine wk_join (α := Nat × Int32) (hF := fun _ => h) (lvF := fun b => [(1, .ref (gA xk)), (2, pv_ gA b.2)]) (stF := fun _ => []) (pc2 := 2) (fun b => ok_ b.2 n ∧ cn_ V b.1 (nu b.2) = 0 ∧ (mv_ V xk (nu b.2) ↔ mv_ V xk (nu g))) (wk_ind (σ := Nat × Int32) (hF := fun _ => h) (lvF := fun b => [(1, .ref (gA xk)), (2, pv_ gA b.2)]) (fun b => b.1) (fun b => ok_ b.2 n ∧ cn_ V b.1 (nu b.2) = 0 ∧ (mv_ V xk (nu b.2) ↔ mv_ V xk (nu g))) (fun b hb ih => ?_)) (fun J => ?_)
  ·
    obtain ⟨m, b⟩ := b
    obtain ⟨hb, hc, hm⟩ := hb
    replace hb : ok_ b n := hb
    replace hc : cn_ V m (nu b) = 0 := hc
    replace hm : mv_ V xk (nu b) ↔ mv_ V xk (nu g) := hm
    show Wk _ _ _ _ _ _ _ _ _ _ _ _ _ _ _ _ _ _ [(1, .ref (gA xk)), (2, pv_ gA b)] _
    by_cases hb0 : b = 0
    ·
      rw [pv_0 hb0]
      refine wk_run C k_PR_isWithin_2 (pc2 := 3) (lv2 := [(1, .ref (gA xk)), (2, .null)]) (st2 := [.null]) rfl ?_
      refine wk_nlN C d_PR_isWithin_3 (tgt := 21) (by decide) ?_
      refine wk_run C k_PR_isWithin_21 (pc2 := 22) (lv2 := [(1, .ref (gA xk)), (2, .null)]) (st2 := [.int 0]) rfl ?_
      exact wk_zret C rfl ⟨by rw [z_n (fun z => mv_0 hx.1 (by have z2 := hm.mpr z; rw [hb0] at z2; exact z2))], rfl⟩ (by decide) (by decide) d_PR_isWithin_22
    ·
      rw [pv_n hb0]
      have hbn := ok_z hb hb0
      have hb1 : 1 ≤ nu b ∧ nu b ≤ n := ⟨by omega, hb.2⟩
      have hob := (hG (nu b) hb1.1 hb1.2).1
      refine wk_run C k_PR_isWithin_2 (pc2 := 3) (lv2 := [(1, .ref (gA xk)), (2, .ref (gA (nu b)))]) (st2 := [.ref (gA (nu b))]) rfl ?_
      refine wk_nlR C d_PR_isWithin_3 ?_
      refine wk_run C k_PR_isWithin_6 (pc2 := 8) (lv2 := [(1, .ref (gA xk)), (2, .ref (gA (nu b)))]) (st2 := [.ref (gA xk), .ref (gA (nu b))]) rfl ?_
      refine wk_ane C d_PR_isWithin_8 (tgt := 13) (by decide) (fun c1 => ?_) (fun c1 => ?_)
      ·
        refine wk_run C k_PR_isWithin_13 (pc2 := 14) (lv2 := [(1, .ref (gA xk)), (2, .ref (gA (nu b)))]) (st2 := [.ref (gA (nu b))]) rfl ?_
        refine wk_get C fd_PR_75 hob rfl d_PR_isWithin_14 ?_
        cases m with
        | zero => exact absurd hc hbn
        | succ m =>
          have J2 := ih (m, V 1 (nu b)) ⟨hA (nu b) hb1.1 hb1.2, by rw [cn_s hbn] at hc; exact hc, (mv_s hbn (fun z => c1 (by rw [z])) hx.1).symm.trans hm⟩ (Nat.lt_succ_self m)
          by_cases hz : V 1 (nu b) = 0
          ·
            rw [pv_0 hz]
            simp only [pv_0 hz] at J2
            refine wk_run C k_PR_isWithin_17 (pc2 := 18) (lv2 := [(2, .null), (1, .ref (gA xk))]) (st2 := []) rfl ?_
            refine wk_goto C d_PR_isWithin_18 (tgt := 2) (by decide) ?_
            refine Wk.sub (lv2 := [(1, .ref (gA xk)), (2, .null)]) [1, 0] rfl ?_
            exact J2
          ·
            rw [pv_n hz]
            simp only [pv_n hz] at J2
            refine wk_run C k_PR_isWithin_17 (pc2 := 18) (lv2 := [(2, .ref (gA (nu (V 1 (nu b))))), (1, .ref (gA xk))]) (st2 := []) rfl ?_
            refine wk_goto C d_PR_isWithin_18 (tgt := 2) (by decide) ?_
            refine Wk.sub (lv2 := [(1, .ref (gA xk)), (2, .ref (gA (nu (V 1 (nu b)))))]) [1, 0] rfl ?_
            exact J2
      ·
        refine wk_run C k_PR_isWithin_11 (pc2 := 12) (lv2 := [(1, .ref (gA xk)), (2, .ref (gA (nu b)))]) (st2 := [.int 1]) rfl ?_
        exact wk_zret C rfl ⟨by rw [z_p (hm.mp ⟨0, (cG_i hG hb1 hx c1)⟩)], rfl⟩ (by decide) (by decide) d_PR_isWithin_12
  ·
    obtain ⟨m, hm⟩ := hC
    have J2 := J (m, g) ⟨hg, hm, Iff.rfl⟩
    by_cases hz : g = 0
    ·
      rw [pv_0 hz]
      simp only [pv_0 hz] at J2
      refine wk_run C k_PR_isWithin_0 (pc2 := 2) (lv2 := [(2, .null), (0, .null), (1, .ref (gA xk))]) (st2 := []) rfl ?_
      refine Wk.sub (lv2 := [(1, .ref (gA xk)), (2, .null)]) [2, 0] rfl ?_
      exact J2
    ·
      rw [pv_n hz]
      simp only [pv_n hz] at J2
      refine wk_run C k_PR_isWithin_0 (pc2 := 2) (lv2 := [(2, .ref (gA (nu g))), (0, .ref (gA (nu g))), (1, .ref (gA xk))]) (st2 := []) rfl ?_
      refine Wk.sub (lv2 := [(1, .ref (gA xk)), (2, .ref (gA (nu g)))]) [2, 0] rfl ?_
      exact J2
theorem k_TR_init_0 : px_dec prog_6_method_1_code [.aload_n 0] 0 = true := by decide +kernel
theorem d_TR_init_1 : decode prog_6_method_1_code 1 = .ok (.invokespecial 3, 3) := by decide +kernel
theorem k_TR_init_4 : px_dec prog_6_method_1_code [.aload_n 0, .sipush 1000] 4 = true := by decide +kernel
theorem d_TR_init_8 : decode prog_6_method_1_code 8 = .ok (.newarray .int, 2) := by decide +kernel
theorem d_TR_init_10 : decode prog_6_method_1_code 10 = .ok (.putfield 11, 3) := by decide +kernel
theorem k_TR_init_13 : px_dec prog_6_method_1_code [.aload_n 0, .iconst 0] 13 = true := by decide +kernel
theorem d_TR_init_15 : decode prog_6_method_1_code 15 = .ok (.putfield 15, 3) := by decide +kernel
theorem k_TR_init_18 : px_dec prog_6_method_1_code [.aload_n 0, .iconst 0] 18 = true := by decide +kernel
theorem d_TR_init_20 : decode prog_6_method_1_code 20 = .ok (.putfield 19, 3) := by decide +kernel
theorem d_TR_init_23 : decode prog_6_method_1_code 23 = .ok (.return_, 1) := by decide +kernel
set_option maxRecDepth 100000 in
set_option maxHeartbeats 4000000 in
theorem c_TR_init (l : Launch) (D : va_G) (HB : Heap) (h : hp_T) (a : Nat) (f1 f2 : Int32) (ha : h a = some (.inr (6, [.null, .int f1, .int f2]))) : ct_M l y_TR_init (.code y_TR_init prog_6_method_1_code 1 (Option.none : Option Jvm.ClassFile.FieldType)) ({ frames := 1, cells := 1, slots := 1000, locals := 14 }) D HB [.ref a] h (fun o h2 => o = .inl none ∧ ∃ q : Nat, h q = none ∧ h2 = hp_up (hp_up h q (.inl (D.1 100, 1000, .inl (fun _ => 0)))) a (.inr (6, [.ref q, .int 0, .int 0]))) := by
  refine ct_of (by decide) (Nat.le_of_ble_eq_true rfl) rfl ?_
  intro p_ e_ s_ m_ r_ b_ t_ c_ C hnm
  refine wk_run C k_TR_init_0 (pc2 := 1) (lv2 := [(0, .ref a)]) (st2 := [.ref a]) rfl ?_
  refine wk_obj C ml_TR_3 kj_in kj_cd (by decide) (by decide) d_TR_init_1 ?_
  refine wk_run C k_TR_init_4 (pc2 := 8) (lv2 := [(0, .ref a)]) (st2 := [.int 1000, .ref a]) rfl ?_
  refine wk_newi C ka_int (show (1000 : Int32) = nI 1000 from rfl) (by decide) (Nat.le_of_ble_eq_true rfl) (Nat.le_of_ble_eq_true rfl) d_TR_init_8 (fun q hq => ?_)
  have na : a ≠ q := fun z => by rw [← z, ha] at hq; cases hq
  refine wk_putF (fs2 := [.ref q, .int f1, .int f2]) C ff_TR_11 hnm (by rw [hp_un na]; exact ha) rfl rfl (Nat.le_of_ble_eq_true rfl) rfl d_TR_init_10 ?_
  refine wk_run C k_TR_init_13 (pc2 := 15) (lv2 := [(0, .ref a)]) (st2 := [.int 0, .ref a]) rfl ?_
  refine wk_put (fs2 := [.ref q, .int 0, .int f2]) C fd_TR_15 hp_us rfl rfl (Nat.le_of_ble_eq_true rfl) rfl d_TR_init_15 ?_
  refine wk_run C k_TR_init_18 (pc2 := 20) (lv2 := [(0, .ref a)]) (st2 := [.int 0, .ref a]) rfl ?_
  refine wk_put (fs2 := [.ref q, .int 0, .int 0]) C fd_TR_19 hp_us rfl rfl (Nat.le_of_ble_eq_true rfl) rfl d_TR_init_20 ?_
  exact wk_vret C ⟨rfl, q, hq, by rw [hp_uu, hp_uu]⟩ (by decide) (by decide) d_TR_init_23
theorem k_TR_read_0 : px_dec prog_6_method_3_code [.iload_n 1] 0 = true := by decide +kernel
theorem d_TR_read_1 : decode prog_6_method_3_code 1 = .ok (.ifCond .lt 20, 3) := by decide +kernel
theorem k_TR_read_21 : px_dec prog_6_method_3_code [.iconst (-1)] 21 = true := by decide +kernel
theorem d_TR_read_22 : decode prog_6_method_3_code 22 = .ok (.ireturn, 1) := by decide +kernel
theorem k_TR_read_4 : px_dec prog_6_method_3_code [.iload_n 1, .aload_n 0] 4 = true := by decide +kernel
theorem d_TR_read_6 : decode prog_6_method_3_code 6 = .ok (.getfield 15, 3) := by decide +kernel
theorem d_TR_read_9 : decode prog_6_method_3_code 9 = .ok (.if_icmp .ge 12, 3) := by decide +kernel
theorem k_TR_read_12 : px_dec prog_6_method_3_code [.iload_n 2] 12 = true := by decide +kernel
theorem d_TR_read_13 : decode prog_6_method_3_code 13 = .ok (.ifCond .lt 8, 3) := by decide +kernel
theorem k_TR_read_16 : px_dec prog_6_method_3_code [.iload_n 2, .iconst 5] 16 = true := by decide +kernel
theorem d_TR_read_18 : decode prog_6_method_3_code 18 = .ok (.if_icmp .lt 5, 3) := by decide +kernel
theorem k_TR_read_23 : px_dec prog_6_method_3_code [.aload_n 0] 23 = true := by decide +kernel
theorem d_TR_read_24 : decode prog_6_method_3_code 24 = .ok (.getfield 11, 3) := by decide +kernel
theorem k_TR_read_27 : px_dec prog_6_method_3_code [.iload_n 1, .iconst 5, .imul, .iload_n 2, .iadd] 27 = true := by decide +kernel
theorem d_TR_read_32 : decode prog_6_method_3_code 32 = .ok (.iaload, 1) := by decide +kernel
theorem d_TR_read_33 : decode prog_6_method_3_code 33 = .ok (.ireturn, 1) := by decide +kernel
set_option maxRecDepth 100000 in
set_option maxHeartbeats 4000000 in
theorem c_TR_read (l : Launch) (D : va_G) (HB : Heap) (h : hp_T) (a tc : Nat) (k wr i j : Int32) (f : Nat → Int32) (ha : h a = some (.inr (6, [.ref tc, .int k, .int wr]))) (hc : h tc = some (.inl (D.1 100, 1000, .inl f))) (hk : ok_ k 200) : ct_M l y_TR_read (.code y_TR_read prog_6_method_3_code 3 (Option.some Jvm.ClassFile.FieldType.int)) ({ frames := 0, cells := 0, slots := 0, locals := 0 }) D HB [.ref a, .int i, .int j] h (fun o h2 => o = .inl (some (.int (if ¬ i < 0 ∧ i < k ∧ ¬ j < 0 ∧ j < 5 then f (5 * nu i + nu j) else -1))) ∧ h2 = h) := by
  refine ct_of (by decide) (Nat.le_of_ble_eq_true rfl) rfl ?_
  intro p_ e_ s_ m_ r_ b_ t_ c_ C hnm
  refine wk_run C k_TR_read_0 (pc2 := 1) (lv2 := [(0, .ref a), (1, .int i), (2, .int j)]) (st2 := [.int i]) rfl ?_
  refine wk_br C d_TR_read_1 (P := i < 0) (tgt := 21) (rest := []) rfl (by decide) (fun c1 => ?_) (fun c1 => ?_)
  ·
    refine wk_run C k_TR_read_21 (pc2 := 22) (lv2 := [(0, .ref a), (1, .int i), (2, .int j)]) (st2 := [.int (-1)]) rfl ?_
    exact wk_iret C ⟨by rw [if_neg (by clear C; grind)], rfl⟩ (by decide) (by decide) d_TR_read_22
  ·
    refine wk_run C k_TR_read_4 (pc2 := 6) (lv2 := [(0, .ref a), (1, .int i), (2, .int j)]) (st2 := [.ref a, .int i]) rfl ?_
    refine wk_get C fd_TR_15 ha rfl d_TR_read_6 ?_
    refine wk_br C d_TR_read_9 (P := k ≤ i) (tgt := 21) (rest := []) rfl (by decide) (fun c2 => ?_) (fun c2 => ?_)
    ·
      refine wk_run C k_TR_read_21 (pc2 := 22) (lv2 := [(0, .ref a), (1, .int i), (2, .int j)]) (st2 := [.int (-1)]) rfl ?_
      exact wk_iret C ⟨by rw [if_neg (by clear C; grind)], rfl⟩ (by decide) (by decide) d_TR_read_22
    ·
      refine wk_run C k_TR_read_12 (pc2 := 13) (lv2 := [(0, .ref a), (1, .int i), (2, .int j)]) (st2 := [.int j]) rfl ?_
      refine wk_br C d_TR_read_13 (P := j < 0) (tgt := 21) (rest := []) rfl (by decide) (fun c3 => ?_) (fun c3 => ?_)
      ·
        refine wk_run C k_TR_read_21 (pc2 := 22) (lv2 := [(0, .ref a), (1, .int i), (2, .int j)]) (st2 := [.int (-1)]) rfl ?_
        exact wk_iret C ⟨by rw [if_neg (by clear C; grind)], rfl⟩ (by decide) (by decide) d_TR_read_22
      ·
        refine wk_run C k_TR_read_16 (pc2 := 18) (lv2 := [(0, .ref a), (1, .int i), (2, .int j)]) (st2 := [.int 5, .int j]) rfl ?_
        refine wk_br C d_TR_read_18 (P := j < 5) (tgt := 23) (rest := []) rfl (by decide) (fun c4 => ?_) (fun c4 => ?_)
        ·
          refine wk_run C k_TR_read_23 (pc2 := 24) (lv2 := [(0, .ref a), (1, .int i), (2, .int j)]) (st2 := [.ref a]) rfl ?_
          refine wk_get C fd_TR_11 ha rfl d_TR_read_24 ?_
          refine wk_run C k_TR_read_27 (pc2 := 32) (lv2 := [(0, .ref a), (1, .int i), (2, .int j)]) (st2 := [.int ((i * 5) + j), .ref tc]) rfl ?_
          have ki := ok_lo (n := 199) c1 (by clear C; grind : i < k) hk (by decide)
          have kj := ok_c c3 (by clear C; grind : j < 5) (show (5 : Int32) = nI (4 + 1) from rfl) (by decide)
          have hx : i * 5 + j = nI (5 * nu i + nu j) := by rw [Int32.mul_comm]; exact nxe_ (k := 5) ki kj
          have b1 := ki.2; have b2 := kj.2
          refine wk_iald C hc (ixe hx (by omega) (by decide)).1 d_TR_read_32 ?_
          rw [show (i * 5 + j).toNatClampNeg = 5 * nu i + nu j from (ixe (N := 1000) hx (by omega) (by decide)).2]
          exact wk_iret C ⟨by rw [if_pos (by clear C; grind)], rfl⟩ (by decide) (by decide) d_TR_read_33
        ·
          refine wk_run C k_TR_read_21 (pc2 := 22) (lv2 := [(0, .ref a), (1, .int i), (2, .int j)]) (st2 := [.int (-1)]) rfl ?_
          exact wk_iret C ⟨by rw [if_neg (by clear C; grind)], rfl⟩ (by decide) (by decide) d_TR_read_22
def tw_ (f : Nat → Int32) (k : Nat) (u c a r p : Int32) : Nat → Int32 := upd (upd (upd (upd (upd f (5 * k) u) (5 * k + 1) c) (5 * k + 2) a) (5 * k + 3) r) (5 * k + 4) p
theorem k_TR_write_0 : px_dec prog_6_method_2_code [.aload_n 0, .dup] 0 = true := by decide +kernel
theorem d_TR_write_2 : decode prog_6_method_2_code 2 = .ok (.getfield 19, 3) := by decide +kernel
theorem k_TR_write_5 : px_dec prog_6_method_2_code [.iconst 1, .iadd] 5 = true := by decide +kernel
theorem d_TR_write_7 : decode prog_6_method_2_code 7 = .ok (.putfield 19, 3) := by decide +kernel
theorem k_TR_write_10 : px_dec prog_6_method_2_code [.aload_n 0] 10 = true := by decide +kernel
theorem d_TR_write_11 : decode prog_6_method_2_code 11 = .ok (.getfield 15, 3) := by decide +kernel
theorem k_TR_write_14 : px_dec prog_6_method_2_code [.sipush 200] 14 = true := by decide +kernel
theorem d_TR_write_17 : decode prog_6_method_2_code 17 = .ok (.if_icmp .lt 4, 3) := by decide +kernel
theorem k_TR_write_21 : px_dec prog_6_method_2_code [.aload_n 0] 21 = true := by decide +kernel
theorem d_TR_write_22 : decode prog_6_method_2_code 22 = .ok (.getfield 15, 3) := by decide +kernel
theorem k_TR_write_25 : px_dec prog_6_method_2_code [.iconst 5, .imul, .istore 6, .aload_n 0] 25 = true := by decide +kernel
theorem d_TR_write_30 : decode prog_6_method_2_code 30 = .ok (.getfield 11, 3) := by decide +kernel
theorem k_TR_write_33 : px_dec prog_6_method_2_code [.iload 6, .iload_n 1] 33 = true := by decide +kernel
theorem d_TR_write_36 : decode prog_6_method_2_code 36 = .ok (.iastore, 1) := by decide +kernel
theorem k_TR_write_37 : px_dec prog_6_method_2_code [.aload_n 0] 37 = true := by decide +kernel
theorem d_TR_write_38 : decode prog_6_method_2_code 38 = .ok (.getfield 11, 3) := by decide +kernel
theorem k_TR_write_41 : px_dec prog_6_method_2_code [.iload 6, .iconst 1, .iadd, .iload_n 2] 41 = true := by decide +kernel
theorem d_TR_write_46 : decode prog_6_method_2_code 46 = .ok (.iastore, 1) := by decide +kernel
theorem k_TR_write_47 : px_dec prog_6_method_2_code [.aload_n 0] 47 = true := by decide +kernel
theorem d_TR_write_48 : decode prog_6_method_2_code 48 = .ok (.getfield 11, 3) := by decide +kernel
theorem k_TR_write_51 : px_dec prog_6_method_2_code [.iload 6, .iconst 2, .iadd, .iload_n 3] 51 = true := by decide +kernel
theorem d_TR_write_56 : decode prog_6_method_2_code 56 = .ok (.iastore, 1) := by decide +kernel
theorem k_TR_write_57 : px_dec prog_6_method_2_code [.aload_n 0] 57 = true := by decide +kernel
theorem d_TR_write_58 : decode prog_6_method_2_code 58 = .ok (.getfield 11, 3) := by decide +kernel
theorem k_TR_write_61 : px_dec prog_6_method_2_code [.iload 6, .iconst 3, .iadd, .iload 4] 61 = true := by decide +kernel
theorem d_TR_write_67 : decode prog_6_method_2_code 67 = .ok (.iastore, 1) := by decide +kernel
theorem k_TR_write_68 : px_dec prog_6_method_2_code [.aload_n 0] 68 = true := by decide +kernel
theorem d_TR_write_69 : decode prog_6_method_2_code 69 = .ok (.getfield 11, 3) := by decide +kernel
theorem k_TR_write_72 : px_dec prog_6_method_2_code [.iload 6, .iconst 4, .iadd, .iload 5] 72 = true := by decide +kernel
theorem d_TR_write_78 : decode prog_6_method_2_code 78 = .ok (.iastore, 1) := by decide +kernel
theorem k_TR_write_79 : px_dec prog_6_method_2_code [.aload_n 0, .dup] 79 = true := by decide +kernel
theorem d_TR_write_81 : decode prog_6_method_2_code 81 = .ok (.getfield 15, 3) := by decide +kernel
theorem k_TR_write_84 : px_dec prog_6_method_2_code [.iconst 1, .iadd] 84 = true := by decide +kernel
theorem d_TR_write_86 : decode prog_6_method_2_code 86 = .ok (.putfield 15, 3) := by decide +kernel
theorem d_TR_write_89 : decode prog_6_method_2_code 89 = .ok (.return_, 1) := by decide +kernel
theorem d_TR_write_20 : decode prog_6_method_2_code 20 = .ok (.return_, 1) := by decide +kernel
set_option maxRecDepth 100000 in
set_option maxHeartbeats 4000000 in
theorem c_TR_write (l : Launch) (D : va_G) (HB : Heap) (h : hp_T) (b tc k : Nat) (wr u c a r p : Int32) (f : Nat → Int32) (ha : h b = some (.inr (6, [.ref tc, .int (nI k), .int wr]))) (hc : h tc = some (.inl (D.1 100, 1000, .inl f))) (hk : k ≤ 200) : ct_M l y_TR_write (.code y_TR_write prog_6_method_2_code 7 (Option.none : Option Jvm.ClassFile.FieldType)) ({ frames := 0, cells := 0, slots := 0, locals := 0 }) D HB [.ref b, .int u, .int c, .int a, .int r, .int p] h (fun o h2 => o = .inl none ∧ h2 b = some (.inr (6, [.ref tc, .int (if k < 200 then nI k + 1 else nI k), .int (wr + 1)])) ∧ h2 tc = some (.inl (D.1 100, 1000, .inl (if k < 200 then tw_ f k u c a r p else f))) ∧ ∀ q, q ≠ b → q ≠ tc → h2 q = h q) := by
  refine ct_of (by decide) (Nat.le_of_ble_eq_true rfl) rfl ?_
  intro p_ e_ s_ m_ r_ b_ t_ c_ C hnm
  have nb : tc ≠ b := fun z => by rw [z, ha] at hc; cases hc
  refine wk_run C k_TR_write_0 (pc2 := 2) (lv2 := [(0, .ref b), (1, .int u), (2, .int c), (3, .int a), (4, .int r), (5, .int p)]) (st2 := [.ref b, .ref b]) rfl ?_
  refine wk_get C fd_TR_19 ha rfl d_TR_write_2 ?_
  refine wk_run C k_TR_write_5 (pc2 := 7) (lv2 := [(0, .ref b), (1, .int u), (2, .int c), (3, .int a), (4, .int r), (5, .int p)]) (st2 := [.int (wr + 1), .ref b]) rfl ?_
  refine wk_put (fs2 := [.ref tc, .int (nI k), .int (wr + 1)]) C fd_TR_19 ha rfl rfl (Nat.le_of_ble_eq_true rfl) rfl d_TR_write_7 ?_
  refine wk_run C k_TR_write_10 (pc2 := 11) (lv2 := [(0, .ref b), (1, .int u), (2, .int c), (3, .int a), (4, .int r), (5, .int p)]) (st2 := [.ref b]) rfl ?_
  refine wk_get C fd_TR_15 hp_us rfl d_TR_write_11 ?_
  refine wk_run C k_TR_write_14 (pc2 := 17) (lv2 := [(0, .ref b), (1, .int u), (2, .int c), (3, .int a), (4, .int r), (5, .int p)]) (st2 := [.int 200, .int (nI k)]) rfl ?_
  refine wk_br C d_TR_write_17 (P := (nI k) < 200) (tgt := 21) (rest := []) rfl (by decide) (fun c1 => ?_) (fun c1 => ?_)
  ·
    have hk2 : k < 200 := (nI_ltI (b := 200) (by omega) (by decide)).mp c1
    refine wk_run C k_TR_write_21 (pc2 := 22) (lv2 := [(0, .ref b), (1, .int u), (2, .int c), (3, .int a), (4, .int r), (5, .int p)]) (st2 := [.ref b]) rfl ?_
    refine wk_get C fd_TR_15 hp_us rfl d_TR_write_22 ?_
    refine wk_run C k_TR_write_25 (pc2 := 30) (lv2 := [(6, .int ((nI k) * 5)), (0, .ref b), (1, .int u), (2, .int c), (3, .int a), (4, .int r), (5, .int p)]) (st2 := [.ref b]) rfl ?_
    refine wk_get C fd_TR_11 hp_us rfl d_TR_write_30 ?_
    refine wk_run C k_TR_write_33 (pc2 := 36) (lv2 := [(6, .int ((nI k) * 5)), (0, .ref b), (1, .int u), (2, .int c), (3, .int a), (4, .int r), (5, .int p)]) (st2 := [.int u, .int ((nI k) * 5), .ref tc]) rfl ?_
    refine wk_iast C (by rw [hp_un nb]; exact hc) (ixe (N := 1000) (show (nI k) * 5 = nI (5 * k) from by rw [show (5 : Int32) = nI 5 from rfl, nI_mul, Nat.mul_comm]) (by omega) (by decide)).1 d_TR_write_36 ?_
    rw [show ((nI k) * 5).toNatClampNeg = 5 * k from (ixe (N := 1000) (show (nI k) * 5 = nI (5 * k) from by rw [show (5 : Int32) = nI 5 from rfl, nI_mul, Nat.mul_comm]) (by omega) (by decide)).2]
    refine wk_run C k_TR_write_37 (pc2 := 38) (lv2 := [(6, .int ((nI k) * 5)), (0, .ref b), (1, .int u), (2, .int c), (3, .int a), (4, .int r), (5, .int p)]) (st2 := [.ref b]) rfl ?_
    refine wk_get C fd_TR_11 (by rw [hp_un (Ne.symm nb)]; exact hp_us) rfl d_TR_write_38 ?_
    refine wk_run C k_TR_write_41 (pc2 := 46) (lv2 := [(6, .int ((nI k) * 5)), (0, .ref b), (1, .int u), (2, .int c), (3, .int a), (4, .int r), (5, .int p)]) (st2 := [.int c, .int (((nI k) * 5) + 1), .ref tc]) rfl ?_
    refine wk_iast C hp_us (ixe (N := 1000) (show ((nI k) * 5) + 1 = nI (5 * k + 1) from by rw [show (5 : Int32) = nI 5 from rfl, nI_mul, Nat.mul_comm, show (1 : Int32) = nI 1 from rfl, nI_add]) (by omega) (by decide)).1 d_TR_write_46 ?_
    rw [show (((nI k) * 5) + 1).toNatClampNeg = 5 * k + 1 from (ixe (N := 1000) (show ((nI k) * 5) + 1 = nI (5 * k + 1) from by rw [show (5 : Int32) = nI 5 from rfl, nI_mul, Nat.mul_comm, show (1 : Int32) = nI 1 from rfl, nI_add]) (by omega) (by decide)).2]
    rw [hp_uu]
    refine wk_run C k_TR_write_47 (pc2 := 48) (lv2 := [(6, .int ((nI k) * 5)), (0, .ref b), (1, .int u), (2, .int c), (3, .int a), (4, .int r), (5, .int p)]) (st2 := [.ref b]) rfl ?_
    refine wk_get C fd_TR_11 (by rw [hp_un (Ne.symm nb)]; exact hp_us) rfl d_TR_write_48 ?_
    refine wk_run C k_TR_write_51 (pc2 := 56) (lv2 := [(6, .int ((nI k) * 5)), (0, .ref b), (1, .int u), (2, .int c), (3, .int a), (4, .int r), (5, .int p)]) (st2 := [.int a, .int (((nI k) * 5) + 2), .ref tc]) rfl ?_
    refine wk_iast C hp_us (ixe (N := 1000) (show ((nI k) * 5) + 2 = nI (5 * k + 2) from by rw [show (5 : Int32) = nI 5 from rfl, nI_mul, Nat.mul_comm, show (2 : Int32) = nI 2 from rfl, nI_add]) (by omega) (by decide)).1 d_TR_write_56 ?_
    rw [show (((nI k) * 5) + 2).toNatClampNeg = 5 * k + 2 from (ixe (N := 1000) (show ((nI k) * 5) + 2 = nI (5 * k + 2) from by rw [show (5 : Int32) = nI 5 from rfl, nI_mul, Nat.mul_comm, show (2 : Int32) = nI 2 from rfl, nI_add]) (by omega) (by decide)).2]
    rw [hp_uu]
    refine wk_run C k_TR_write_57 (pc2 := 58) (lv2 := [(6, .int ((nI k) * 5)), (0, .ref b), (1, .int u), (2, .int c), (3, .int a), (4, .int r), (5, .int p)]) (st2 := [.ref b]) rfl ?_
    refine wk_get C fd_TR_11 (by rw [hp_un (Ne.symm nb)]; exact hp_us) rfl d_TR_write_58 ?_
    refine wk_run C k_TR_write_61 (pc2 := 67) (lv2 := [(6, .int ((nI k) * 5)), (0, .ref b), (1, .int u), (2, .int c), (3, .int a), (4, .int r), (5, .int p)]) (st2 := [.int r, .int (((nI k) * 5) + 3), .ref tc]) rfl ?_
    refine wk_iast C hp_us (ixe (N := 1000) (show ((nI k) * 5) + 3 = nI (5 * k + 3) from by rw [show (5 : Int32) = nI 5 from rfl, nI_mul, Nat.mul_comm, show (3 : Int32) = nI 3 from rfl, nI_add]) (by omega) (by decide)).1 d_TR_write_67 ?_
    rw [show (((nI k) * 5) + 3).toNatClampNeg = 5 * k + 3 from (ixe (N := 1000) (show ((nI k) * 5) + 3 = nI (5 * k + 3) from by rw [show (5 : Int32) = nI 5 from rfl, nI_mul, Nat.mul_comm, show (3 : Int32) = nI 3 from rfl, nI_add]) (by omega) (by decide)).2]
    rw [hp_uu]
    refine wk_run C k_TR_write_68 (pc2 := 69) (lv2 := [(6, .int ((nI k) * 5)), (0, .ref b), (1, .int u), (2, .int c), (3, .int a), (4, .int r), (5, .int p)]) (st2 := [.ref b]) rfl ?_
    refine wk_get C fd_TR_11 (by rw [hp_un (Ne.symm nb)]; exact hp_us) rfl d_TR_write_69 ?_
    refine wk_run C k_TR_write_72 (pc2 := 78) (lv2 := [(6, .int ((nI k) * 5)), (0, .ref b), (1, .int u), (2, .int c), (3, .int a), (4, .int r), (5, .int p)]) (st2 := [.int p, .int (((nI k) * 5) + 4), .ref tc]) rfl ?_
    refine wk_iast C hp_us (ixe (N := 1000) (show ((nI k) * 5) + 4 = nI (5 * k + 4) from by rw [show (5 : Int32) = nI 5 from rfl, nI_mul, Nat.mul_comm, show (4 : Int32) = nI 4 from rfl, nI_add]) (by omega) (by decide)).1 d_TR_write_78 ?_
    rw [show (((nI k) * 5) + 4).toNatClampNeg = 5 * k + 4 from (ixe (N := 1000) (show ((nI k) * 5) + 4 = nI (5 * k + 4) from by rw [show (5 : Int32) = nI 5 from rfl, nI_mul, Nat.mul_comm, show (4 : Int32) = nI 4 from rfl, nI_add]) (by omega) (by decide)).2]
    rw [hp_uu]
    refine wk_run C k_TR_write_79 (pc2 := 81) (lv2 := [(6, .int ((nI k) * 5)), (0, .ref b), (1, .int u), (2, .int c), (3, .int a), (4, .int r), (5, .int p)]) (st2 := [.ref b, .ref b]) rfl ?_
    refine wk_get C fd_TR_15 (by rw [hp_un (Ne.symm nb)]; exact hp_us) rfl d_TR_write_81 ?_
    refine wk_run C k_TR_write_84 (pc2 := 86) (lv2 := [(6, .int ((nI k) * 5)), (0, .ref b), (1, .int u), (2, .int c), (3, .int a), (4, .int r), (5, .int p)]) (st2 := [.int ((nI k) + 1), .ref b]) rfl ?_
    refine wk_put (fs2 := [.ref tc, .int (nI k + 1), .int (wr + 1)]) C fd_TR_15 (by rw [hp_un (Ne.symm nb)]; exact hp_us) rfl rfl (Nat.le_of_ble_eq_true rfl) rfl d_TR_write_86 ?_
    exact wk_vret C ⟨rfl, by rw [hp_us, if_pos hk2], by rw [hp_un nb, hp_us, if_pos hk2]; rfl, fun q h1 h3 => by rw [hp_un h1, hp_un h3, hp_un h1]⟩ (by decide) (by decide) d_TR_write_89
  ·
    have hk2 : ¬ k < 200 := fun z => c1 ((nI_ltI (b := 200) (by omega) (by decide)).mpr z)
    exact wk_vret C ⟨rfl, by rw [hp_us, if_neg hk2], by rw [hp_un nb, if_neg hk2]; exact hc, fun q h1 h3 => hp_un h1⟩ (by decide) (by decide) d_TR_write_20
