/-- the first i characters of a pattern f stand for the first j of g -/
def ft_ (f g : Nat → Int32) : Nat → Nat → Prop
  | 0, j => j = 0
  | i + 1, j => (f i = 42 ∧ ∃ k, k ≤ j ∧ ft_ f g i k) ∨ (¬ f i = 42 ∧ ∃ k, j = k + 1 ∧ (f i = 37 ∨ f i = g k) ∧ ft_ f g i k)
theorem ft_00 {f g : Nat → Int32} : ft_ f g 0 0 := rfl
theorem ft_0s {f g : Nat → Int32} {j : Nat} : ¬ ft_ f g 0 (j + 1) := fun z => nomatch (show j + 1 = 0 from z)
theorem ft_s0 {f g : Nat → Int32} {i : Nat} : ft_ f g (i + 1) 0 ↔ f i = 42 ∧ ft_ f g i 0 := by
  constructor
  · rintro (⟨h, k, hk, h2⟩ | ⟨h, k, hk, h2⟩)
    · have : k = 0 := by omega
      subst this; exact ⟨h, h2⟩
    · omega
  · rintro ⟨h, h2⟩; exact Or.inl ⟨h, 0, Nat.le_refl 0, h2⟩
theorem ft_ss {f g : Nat → Int32} {i j : Nat} : ft_ f g (i + 1) (j + 1) ↔ (f i = 42 ∧ (ft_ f g i (j + 1) ∨ ft_ f g (i + 1) j)) ∨ (¬ f i = 42 ∧ (f i = 37 ∨ f i = g j) ∧ ft_ f g i j) := by
  constructor
  · rintro (⟨h, k, hk, h2⟩ | ⟨h, k, hk, h2, h3⟩)
    · by_cases z : k = j + 1
      · subst z; exact Or.inl ⟨h, Or.inl h2⟩
      · exact Or.inl ⟨h, Or.inr (Or.inl ⟨h, k, by omega, h2⟩)⟩
    · have : k = j := by omega
      subst this; exact Or.inr ⟨h, h2, h3⟩
  · rintro (⟨h, h2 | h2⟩ | ⟨h, h2, h3⟩)
    · exact Or.inl ⟨h, j + 1, Nat.le_refl _, h2⟩
    · rcases h2 with ⟨_, k, hk, h3⟩ | ⟨h4, _⟩
      · exact Or.inl ⟨h, k, by omega, h3⟩
      · exact absurd h h4
    · exact Or.inr ⟨h, j, rfl, h2, h3⟩
theorem nI_mul (a b : Nat) : nI a * nI b = nI (a * b) := by unfold nI; rw [Int32.ofNat_mul]
theorem ixe {x : Int32} {j N : Nat} (e : x = nI j) (h : j < N) (hN : N < 2 ^ 31) : vp_in x N ∧ nu x = j := by rw [e]; exact ⟨nI_in h hN, nu_nI (by omega)⟩
/-- the table of fits: all rows before i, and row i before j -/
def ti_ (f g F : Nat → Int32) (n i j : Nat) : Prop := ∀ a b, b ≤ n → (a < i ∨ (a = i ∧ b < j)) → F (21 * a + b) = z_ (ft_ f g a b)
theorem ti_u {f g F : Nat → Int32} {n i j : Nat} {x : Int32} (h : ti_ f g F n i j) (hn : n ≤ 20) (hj : j ≤ n) (e : x = z_ (ft_ f g i j)) : ti_ f g (upd F (21 * i + j) x) n i (j + 1) := by
  intro a b hb hc
  unfold upd
  by_cases z : 21 * a + b = 21 * i + j
  · rw [if_pos z]
    have : a = i ∧ b = j := by omega
    obtain ⟨rfl, rfl⟩ := this
    exact e
  · rw [if_neg z]; exact h a b hb (by rcases hc with c | ⟨c, d⟩
                                      · exact Or.inl c
                                      · subst c; exact Or.inr ⟨rfl, by omega⟩)
theorem ti_n {f g F : Nat → Int32} {n i : Nat} (h : ti_ f g F n i (n + 1)) : ti_ f g F n (i + 1) 0 := fun a b hb hc => h a b hb (by omega)

theorem k_MD_fits_0 : px_dec prog_9_method_28_code [.aload_n 0] 0 = true := by decide +kernel
theorem d_MD_fits_1 : decode prog_9_method_28_code 1 = .ok (.getfield 38, 3) := by decide +kernel
theorem k_MD_fits_4 : px_dec prog_9_method_28_code [.iload_n 1] 4 = true := by decide +kernel
theorem d_MD_fits_5 : decode prog_9_method_28_code 5 = .ok (.iaload, 1) := by decide +kernel
theorem k_MD_fits_6 : px_dec prog_9_method_28_code [.istore_n 2, .iconst 0, .istore_n 3] 6 = true := by decide +kernel
theorem k_MD_fits_9 : px_dec prog_9_method_28_code [.iload_n 3, .iload_n 2] 9 = true := by decide +kernel
theorem d_MD_fits_11 : decode prog_9_method_28_code 11 = .ok (.if_icmp .gt 200, 3) := by decide +kernel
theorem k_MD_fits_211 : px_dec prog_9_method_28_code [.aload_n 0] 211 = true := by decide +kernel
theorem d_MD_fits_212 : decode prog_9_method_28_code 212 = .ok (.getfield 68, 3) := by decide +kernel
theorem k_MD_fits_215 : px_dec prog_9_method_28_code [.bipush 21, .iload_n 2, .imul, .aload_n 0] 215 = true := by decide +kernel
theorem d_MD_fits_220 : decode prog_9_method_28_code 220 = .ok (.getfield 115, 3) := by decide +kernel
theorem k_MD_fits_223 : px_dec prog_9_method_28_code [.iadd] 223 = true := by decide +kernel
theorem d_MD_fits_224 : decode prog_9_method_28_code 224 = .ok (.baload, 1) := by decide +kernel
theorem d_MD_fits_225 : decode prog_9_method_28_code 225 = .ok (.ireturn, 1) := by decide +kernel
theorem k_MD_fits_14 : px_dec prog_9_method_28_code [.iconst 0, .istore 4] 14 = true := by decide +kernel
theorem k_MD_fits_17 : px_dec prog_9_method_28_code [.iload 4, .aload_n 0] 17 = true := by decide +kernel
theorem d_MD_fits_20 : decode prog_9_method_28_code 20 = .ok (.getfield 115, 3) := by decide +kernel
theorem d_MD_fits_23 : decode prog_9_method_28_code 23 = .ok (.if_icmp .gt 182, 3) := by decide +kernel
theorem k_MD_fits_205 : px_dec prog_9_method_28_code [.iinc 3 1] 205 = true := by decide +kernel
theorem d_MD_fits_208 : decode prog_9_method_28_code 208 = .ok (.goto (-199), 3) := by decide +kernel
theorem k_MD_fits_26 : px_dec prog_9_method_28_code [.iload_n 3] 26 = true := by decide +kernel
theorem d_MD_fits_27 : decode prog_9_method_28_code 27 = .ok (.ifCond .ne 7, 3) := by decide +kernel
theorem k_MD_fits_30 : px_dec prog_9_method_28_code [.iconst 0] 30 = true := by decide +kernel
theorem d_MD_fits_31 : decode prog_9_method_28_code 31 = .ok (.goto 16, 3) := by decide +kernel
theorem k_MD_fits_47 : px_dec prog_9_method_28_code [.istore 5, .iload_n 3] 47 = true := by decide +kernel
theorem d_MD_fits_50 : decode prog_9_method_28_code 50 = .ok (.ifCond .ne 12, 3) := by decide +kernel
theorem k_MD_fits_53 : px_dec prog_9_method_28_code [.iload 4] 53 = true := by decide +kernel
theorem d_MD_fits_55 : decode prog_9_method_28_code 55 = .ok (.ifCond .ne 7, 3) := by decide +kernel
theorem k_MD_fits_58 : px_dec prog_9_method_28_code [.iconst 1] 58 = true := by decide +kernel
theorem d_MD_fits_59 : decode prog_9_method_28_code 59 = .ok (.goto 4, 3) := by decide +kernel
theorem k_MD_fits_63 : px_dec prog_9_method_28_code [.istore 6, .iload_n 3] 63 = true := by decide +kernel
theorem d_MD_fits_66 : decode prog_9_method_28_code 66 = .ok (.ifCond .le 56, 3) := by decide +kernel
theorem k_MD_fits_122 : px_dec prog_9_method_28_code [.iload_n 3] 122 = true := by decide +kernel
theorem d_MD_fits_123 : decode prog_9_method_28_code 123 = .ok (.ifCond .le 62, 3) := by decide +kernel
theorem k_MD_fits_185 : px_dec prog_9_method_28_code [.aload_n 0] 185 = true := by decide +kernel
theorem d_MD_fits_186 : decode prog_9_method_28_code 186 = .ok (.getfield 68, 3) := by decide +kernel
theorem k_MD_fits_189 : px_dec prog_9_method_28_code [.bipush 21, .iload_n 3, .imul, .iload 4, .iadd, .iload 6] 189 = true := by decide +kernel
theorem d_MD_fits_198 : decode prog_9_method_28_code 198 = .ok (.bastore, 1) := by decide +kernel
theorem k_MD_fits_199 : px_dec prog_9_method_28_code [.iinc 4 1] 199 = true := by decide +kernel
theorem d_MD_fits_202 : decode prog_9_method_28_code 202 = .ok (.goto (-185), 3) := by decide +kernel
theorem k_MD_fits_62 : px_dec prog_9_method_28_code [.iconst 0, .istore 6, .iload_n 3] 62 = true := by decide +kernel
theorem k_MD_fits_34 : px_dec prog_9_method_28_code [.aload_n 0] 34 = true := by decide +kernel
theorem d_MD_fits_35 : decode prog_9_method_28_code 35 = .ok (.getfield 35, 3) := by decide +kernel
theorem k_MD_fits_38 : px_dec prog_9_method_28_code [.bipush 20, .iload_n 1, .imul, .iload_n 3, .iadd, .iconst 1, .isub] 38 = true := by decide +kernel
theorem d_MD_fits_46 : decode prog_9_method_28_code 46 = .ok (.iaload, 1) := by decide +kernel
theorem k_MD_fits_69 : px_dec prog_9_method_28_code [.iload 5, .bipush 42] 69 = true := by decide +kernel
theorem d_MD_fits_73 : decode prog_9_method_28_code 73 = .ok (.if_icmp .ne 49, 3) := by decide +kernel
theorem k_MD_fits_126 : px_dec prog_9_method_28_code [.iload 4] 126 = true := by decide +kernel
theorem d_MD_fits_128 : decode prog_9_method_28_code 128 = .ok (.ifCond .le 57, 3) := by decide +kernel
theorem k_MD_fits_76 : px_dec prog_9_method_28_code [.aload_n 0] 76 = true := by decide +kernel
theorem d_MD_fits_77 : decode prog_9_method_28_code 77 = .ok (.getfield 68, 3) := by decide +kernel
theorem k_MD_fits_80 : px_dec prog_9_method_28_code [.bipush 21, .iload_n 3, .iconst 1, .isub, .imul, .iload 4, .iadd] 80 = true := by decide +kernel
theorem d_MD_fits_89 : decode prog_9_method_28_code 89 = .ok (.baload, 1) := by decide +kernel
theorem d_MD_fits_90 : decode prog_9_method_28_code 90 = .ok (.ifCond .ne 25, 3) := by decide +kernel
theorem k_MD_fits_115 : px_dec prog_9_method_28_code [.iconst 1] 115 = true := by decide +kernel
theorem d_MD_fits_116 : decode prog_9_method_28_code 116 = .ok (.goto 4, 3) := by decide +kernel
theorem k_MD_fits_120 : px_dec prog_9_method_28_code [.istore 6, .iload_n 3] 120 = true := by decide +kernel
theorem k_MD_fits_93 : px_dec prog_9_method_28_code [.iload 4] 93 = true := by decide +kernel
theorem d_MD_fits_95 : decode prog_9_method_28_code 95 = .ok (.ifCond .le 24, 3) := by decide +kernel
theorem k_MD_fits_119 : px_dec prog_9_method_28_code [.iconst 0, .istore 6, .iload_n 3] 119 = true := by decide +kernel
theorem k_MD_fits_131 : px_dec prog_9_method_28_code [.iload 5, .bipush 42] 131 = true := by decide +kernel
theorem d_MD_fits_135 : decode prog_9_method_28_code 135 = .ok (.if_icmp .eq 50, 3) := by decide +kernel
theorem k_MD_fits_138 : px_dec prog_9_method_28_code [.iload 5, .bipush 37] 138 = true := by decide +kernel
theorem d_MD_fits_142 : decode prog_9_method_28_code 142 = .ok (.if_icmp .eq 17, 3) := by decide +kernel
theorem k_MD_fits_159 : px_dec prog_9_method_28_code [.aload_n 0] 159 = true := by decide +kernel
theorem d_MD_fits_160 : decode prog_9_method_28_code 160 = .ok (.getfield 68, 3) := by decide +kernel
theorem k_MD_fits_163 : px_dec prog_9_method_28_code [.bipush 21, .iload_n 3, .iconst 1, .isub, .imul, .iload 4, .iadd, .iconst 1, .isub] 163 = true := by decide +kernel
theorem d_MD_fits_174 : decode prog_9_method_28_code 174 = .ok (.baload, 1) := by decide +kernel
theorem d_MD_fits_175 : decode prog_9_method_28_code 175 = .ok (.ifCond .eq 7, 3) := by decide +kernel
theorem k_MD_fits_182 : px_dec prog_9_method_28_code [.iconst 0, .istore 6, .aload_n 0] 182 = true := by decide +kernel
theorem k_MD_fits_178 : px_dec prog_9_method_28_code [.iconst 1] 178 = true := by decide +kernel
theorem d_MD_fits_179 : decode prog_9_method_28_code 179 = .ok (.goto 4, 3) := by decide +kernel
theorem k_MD_fits_183 : px_dec prog_9_method_28_code [.istore 6, .aload_n 0] 183 = true := by decide +kernel
theorem k_MD_fits_145 : px_dec prog_9_method_28_code [.iload 5, .aload_n 0] 145 = true := by decide +kernel
theorem d_MD_fits_148 : decode prog_9_method_28_code 148 = .ok (.getfield 62, 3) := by decide +kernel
theorem k_MD_fits_151 : px_dec prog_9_method_28_code [.iload 4, .iconst 1, .isub] 151 = true := by decide +kernel
theorem d_MD_fits_155 : decode prog_9_method_28_code 155 = .ok (.iaload, 1) := by decide +kernel
theorem d_MD_fits_156 : decode prog_9_method_28_code 156 = .ok (.if_icmp .ne 26, 3) := by decide +kernel
theorem k_MD_fits_98 : px_dec prog_9_method_28_code [.aload_n 0] 98 = true := by decide +kernel
theorem d_MD_fits_99 : decode prog_9_method_28_code 99 = .ok (.getfield 68, 3) := by decide +kernel
theorem k_MD_fits_102 : px_dec prog_9_method_28_code [.bipush 21, .iload_n 3, .imul, .iload 4, .iadd, .iconst 1, .isub] 102 = true := by decide +kernel
theorem d_MD_fits_111 : decode prog_9_method_28_code 111 = .ok (.baload, 1) := by decide +kernel
theorem d_MD_fits_112 : decode prog_9_method_28_code 112 = .ok (.ifCond .eq 7, 3) := by decide +kernel
set_option maxRecDepth 100000 in
set_option maxHeartbeats 4000000 in
theorem c_MD_fits (l : Launch) (D : va_G) (HB : Heap) (h : hp_T) (h0 : hp_T) (y : Nat) (A : Nat → Nat) (V : vT) (p : Int32) (hp : ok_ p 60) (hL : ok_ (V 13 (nu p)) 20) (hA : ok_ (V 22 0) 20) (hM : mq D h0 h y A V) : ct_M l y_MD_fits (.code y_MD_fits prog_9_method_28_code 7 (Option.some Jvm.ClassFile.FieldType.boolean)) ({ frames := 1, cells := 0, slots := 0, locals := 30 }) D HB [.ref y, .int p] h (fun o h2 => o = .inl (some (.int (z_ (ft_ (nf_ V (nu p)) (V 21) (nu (V 13 (nu p))) (nu (V 22 0)))))) ∧ ∃ F, mq D h0 h2 y A (vs V 26 F)) := by
  refine ct_of (by decide) (Nat.le_of_ble_eq_true rfl) rfl ?_
  intro p_ e_ s_ m_ r_ b_ t_ c_ C hnm
  refine wk_run C k_MD_fits_0 (pc2 := 1) (lv2 := [(0, .ref y), (1, .int p)]) (st2 := [.ref y]) rfl ?_
  refine wk_get (v := .ref (A 13)) C fd_MD_38 hM.ob rfl d_MD_fits_1 ?_
  refine wk_run C k_MD_fits_4 (pc2 := 5) (lv2 := [(0, .ref y), (1, .int p)]) (st2 := [.int p, .ref (A 13)]) rfl ?_
  refine wm_ld C hM 13 (j := nu p) rfl (vi_k hp (by decide) (by decide)) rfl d_MD_fits_5 ?_
  show Wk _ _ _ _ _ _ _ _ _ _ _ _ _ _ _ _ _ _ _ (.int (V 13 (nu p)) :: _)
  refine wk_run C k_MD_fits_6 (pc2 := 9) (lv2 := [(3, .int 0), (2, .int (V 13 (nu p))), (0, .ref y), (1, .int p)]) (st2 := []) rfl ?_
  refine Wk.sub (lv2 := [(0, .ref y), (1, .int p), (2, .int (V 13 (nu p))), (3, .int 0)]) [2, 3, 1, 0] rfl ?_
  have hL2 := hL.2
  have hA2 := hA.2
  have hp2 := hp.2
  refine wk_ind (σ := Nat × hp_T) (hF := fun b => b.2) (lvF := fun b => [(0, .ref y), (1, .int p), (2, .int (V 13 (nu p))), (3, .int (nI b.1))]) (fun b => nu (V 13 (nu p)) + 1 - b.1) (fun b => b.1 ≤ nu (V 13 (nu p)) + 1 ∧ ∃ F, mq D h0 b.2 y A (vs V 26 F) ∧ ti_ (nf_ V (nu p)) (V 21) F (nu (V 22 0)) b.1 0) (fun b hb ih => ?_) (0, h) ⟨Nat.zero_le _, V 26, by rw [vs_id rfl]; exact hM, fun a b hb hc => by omega⟩
  obtain ⟨i, h⟩ := b
  obtain ⟨hi, F, hM, hT⟩ := hb
  replace hi : i ≤ nu (V 13 (nu p)) + 1 := hi
  replace hT : ti_ (nf_ V (nu p)) (V 21) F (nu (V 22 0)) i 0 := hT
  show Wk _ _ _ _ _ _ _ _ _ _ _ _ _ _ _ _ _ _ [(0, .ref y), (1, .int p), (2, .int (V 13 (nu p))), (3, .int (nI i))] _
  refine wk_run C k_MD_fits_9 (pc2 := 11) (lv2 := [(0, .ref y), (1, .int p), (2, .int (V 13 (nu p))), (3, .int (nI i))]) (st2 := [.int (V 13 (nu p)), .int (nI i)]) rfl ?_
  refine wk_br C d_MD_fits_11 (P := (V 13 (nu p)) < (nI i)) (tgt := 211) (rest := []) rfl (by decide) (fun c21 => ?_) (fun c21 => ?_)
  ·
    have hie : i = nu (V 13 (nu p)) + 1 := by have := c21; rw [hL.1, nI_ltI (by omega) (by omega)] at this; omega
    refine wk_run C k_MD_fits_211 (pc2 := 212) (lv2 := [(0, .ref y), (1, .int p), (2, .int (V 13 (nu p))), (3, .int (nI i))]) (st2 := [.ref y]) rfl ?_
    refine wk_get (v := .ref (A 26)) C fd_MD_68 hM.ob rfl d_MD_fits_212 ?_
    refine wk_run C k_MD_fits_215 (pc2 := 220) (lv2 := [(0, .ref y), (1, .int p), (2, .int (V 13 (nu p))), (3, .int (nI i))]) (st2 := [.ref y, .int (21 * (V 13 (nu p))), .ref (A 26)]) rfl ?_
    refine wk_get (v := .int (V 22 0)) C fd_MD_115 hM.ob rfl d_MD_fits_220 ?_
    refine wk_run C k_MD_fits_223 (pc2 := 224) (lv2 := [(0, .ref y), (1, .int p), (2, .int (V 13 (nu p))), (3, .int (nI i))]) (st2 := [.int ((21 * (V 13 (nu p))) + (V 22 0)), .ref (A 26)]) rfl ?_
    refine wm_ldz C hM 26 (j := 21 * nu (V 13 (nu p)) + nu (V 22 0)) rfl (nx_ (k := 21) (m := 20) (n := 20) (N := 441) hL hA (by decide) (by decide)).1 (nx_ (k := 21) (m := 20) (n := 20) (N := 441) hL hA (by decide) (by decide)).2 d_MD_fits_224 ?_
    show Wk _ _ _ _ _ _ _ _ _ _ _ _ _ _ _ _ _ _ _ (.int (F (21 * nu (V 13 (nu p)) + nu (V 22 0))) :: _)
    rw [hT (nu (V 13 (nu p))) (nu (V 22 0)) (Nat.le_refl _) (Or.inl (by omega))]
    exact wk_zret C (nb_z (z_b _)) ⟨rfl, F, hM⟩ (by decide) (by decide) d_MD_fits_225
  ·
    have hlt : i ≤ nu (V 13 (nu p)) := by rcases Nat.lt_or_ge (nu (V 13 (nu p))) i with z | z; exact absurd (by rw [hL.1]; exact nI_lt z (by omega)) c21; exact z
    refine wk_run C k_MD_fits_14 (pc2 := 17) (lv2 := [(4, .int 0), (0, .ref y), (1, .int p), (2, .int (V 13 (nu p))), (3, .int (nI i))]) (st2 := []) rfl ?_
    refine Wk.sub (lv2 := [(0, .ref y), (1, .int p), (2, .int (V 13 (nu p))), (3, .int (nI i)), (4, .int 0)]) [1, 2, 3, 4, 0] rfl ?_
    refine wk_ind (σ := Nat × hp_T) (hF := fun b => b.2) (lvF := fun b => [(0, .ref y), (1, .int p), (2, .int (V 13 (nu p))), (3, .int (nI i)), (4, .int (nI b.1))]) (fun b => nu (V 22 0) + 1 - b.1) (fun b => b.1 ≤ nu (V 22 0) + 1 ∧ ∃ F, mq D h0 b.2 y A (vs V 26 F) ∧ ti_ (nf_ V (nu p)) (V 21) F (nu (V 22 0)) i b.1) (fun b hb ih2 => ?_) (0, h) ⟨Nat.zero_le _, F, hM, hT⟩
    clear hT hM
    obtain ⟨j, h⟩ := b
    obtain ⟨hj, F, hM, hT⟩ := hb
    replace hj : j ≤ nu (V 22 0) + 1 := hj
    replace hT : ti_ (nf_ V (nu p)) (V 21) F (nu (V 22 0)) i j := hT
    show Wk _ _ _ _ _ _ _ _ _ _ _ _ _ _ _ _ _ _ [(0, .ref y), (1, .int p), (2, .int (V 13 (nu p))), (3, .int (nI i)), (4, .int (nI j))] _
    refine wk_run C k_MD_fits_17 (pc2 := 20) (lv2 := [(0, .ref y), (1, .int p), (2, .int (V 13 (nu p))), (3, .int (nI i)), (4, .int (nI j))]) (st2 := [.ref y, .int (nI j)]) rfl ?_
    refine wk_get (v := .int (V 22 0)) C fd_MD_115 hM.ob rfl d_MD_fits_20 ?_
    refine wk_br C d_MD_fits_23 (P := (V 22 0) < (nI j)) (tgt := 205) (rest := []) rfl (by decide) (fun c41 => ?_) (fun c41 => ?_)
    ·
      have hje : j = nu (V 22 0) + 1 := by have := c41; rw [hA.1, nI_ltI (by omega) (by omega)] at this; omega
      refine wk_run C k_MD_fits_205 (pc2 := 208) (lv2 := [(3, .int ((nI i) + 1)), (0, .ref y), (1, .int p), (2, .int (V 13 (nu p))), (4, .int (nI j))]) (st2 := []) rfl ?_
      refine wk_goto C d_MD_fits_208 (tgt := 9) (by decide) ?_
      refine Wk.sub (lv2 := [(0, .ref y), (1, .int p), (2, .int (V 13 (nu p))), (3, .int ((nI i) + 1))]) [1, 2, 3, 0] rfl ?_
      rw [nI_1]
      exact ih (i + 1, h) ⟨by show i + 1 ≤ _; omega, F, hM, ti_n (by rw [← hje]; exact hT)⟩ (by show _ - (i + 1) < _ - i; omega)
    ·
      have hjl : j ≤ nu (V 22 0) := by rcases Nat.lt_or_ge (nu (V 22 0)) j with z | z; exact absurd (by rw [hA.1]; exact nI_lt z (by omega)) c41; exact z
      cases i with
      | zero =>
        cases j with
        | zero =>
          show Wk _ _ _ _ _ _ _ _ _ _ _ _ _ _ _ _ _ _ [(0, .ref y), (1, .int p), (2, .int (V 13 (nu p))), (3, .int 0), (4, .int 0)] _
          refine wk_run C k_MD_fits_26 (pc2 := 27) (lv2 := [(0, .ref y), (1, .int p), (2, .int (V 13 (nu p))), (3, .int 0), (4, .int 0)]) (st2 := [.int 0]) rfl ?_
          refine wk_br C d_MD_fits_27 (P := ¬ 0 = 0) (tgt := 34) (rest := []) rfl (by decide) (fun c61 => ?_) (fun c61 => ?_)
          ·
            exact absurd c61 (by decide)
          ·
            refine wk_run C k_MD_fits_30 (pc2 := 31) (lv2 := [(0, .ref y), (1, .int p), (2, .int (V 13 (nu p))), (3, .int 0), (4, .int 0)]) (st2 := [.int 0]) rfl ?_
            refine wk_goto C d_MD_fits_31 (tgt := 47) (by decide) ?_
            refine wk_run C k_MD_fits_47 (pc2 := 50) (lv2 := [(5, .int 0), (0, .ref y), (1, .int p), (2, .int (V 13 (nu p))), (3, .int 0), (4, .int 0)]) (st2 := [.int 0]) rfl ?_
            refine wk_br C d_MD_fits_50 (P := ¬ 0 = 0) (tgt := 62) (rest := []) rfl (by decide) (fun c62 => ?_) (fun c62 => ?_)
            ·
              exact absurd c62 (by decide)
            ·
              refine wk_run C k_MD_fits_53 (pc2 := 55) (lv2 := [(5, .int 0), (0, .ref y), (1, .int p), (2, .int (V 13 (nu p))), (3, .int 0), (4, .int 0)]) (st2 := [.int 0]) rfl ?_
              refine wk_br C d_MD_fits_55 (P := ¬ 0 = 0) (tgt := 62) (rest := []) rfl (by decide) (fun c63 => ?_) (fun c63 => ?_)
              ·
                exact absurd c63 (by decide)
              ·
                refine wk_run C k_MD_fits_58 (pc2 := 59) (lv2 := [(5, .int 0), (0, .ref y), (1, .int p), (2, .int (V 13 (nu p))), (3, .int 0), (4, .int 0)]) (st2 := [.int 1]) rfl ?_
                refine wk_goto C d_MD_fits_59 (tgt := 63) (by decide) ?_
                refine wk_run C k_MD_fits_63 (pc2 := 66) (lv2 := [(6, .int 1), (5, .int 0), (0, .ref y), (1, .int p), (2, .int (V 13 (nu p))), (3, .int 0), (4, .int 0)]) (st2 := [.int 0]) rfl ?_
                refine wk_br C d_MD_fits_66 (P := 0 ≤ 0) (tgt := 122) (rest := []) rfl (by decide) (fun c64 => ?_) (fun c64 => ?_)
                ·
                  refine wk_run C k_MD_fits_122 (pc2 := 123) (lv2 := [(6, .int 1), (5, .int 0), (0, .ref y), (1, .int p), (2, .int (V 13 (nu p))), (3, .int 0), (4, .int 0)]) (st2 := [.int 0]) rfl ?_
                  refine wk_br C d_MD_fits_123 (P := 0 ≤ 0) (tgt := 185) (rest := []) rfl (by decide) (fun c65 => ?_) (fun c65 => ?_)
                  ·
                    refine wk_run C k_MD_fits_185 (pc2 := 186) (lv2 := [(6, .int 1), (5, .int 0), (0, .ref y), (1, .int p), (2, .int (V 13 (nu p))), (3, .int 0), (4, .int 0)]) (st2 := [.ref y]) rfl ?_
                    refine wk_get (v := .ref (A 26)) C fd_MD_68 hM.ob rfl d_MD_fits_186 ?_
                    refine wk_run C k_MD_fits_189 (pc2 := 198) (lv2 := [(6, .int 1), (5, .int 0), (0, .ref y), (1, .int p), (2, .int (V 13 (nu p))), (3, .int 0), (4, .int 0)]) (st2 := [.int 1, .int ((21 * 0) + 0), .ref (A 26)]) rfl ?_
                    refine wm_stz C hM 26 (j := (21 * 0 + 0)) rfl (ixe (N := 441) (show (21 * 0) + 0 = nI (21 * 0 + 0) from rfl) (by omega) (by decide)).1 (ixe (N := 441) (show (21 * 0) + 0 = nI (21 * 0 + 0) from rfl) (by omega) (by decide)).2 (by rfl) d_MD_fits_198 (fun h (hM : mq D h0 h y A (vs (vs V 26 F) 26 (upd (F) (21 * 0 + 0) 1))) => ?_)
                    refine wk_run C k_MD_fits_199 (pc2 := 202) (lv2 := [(4, .int (0 + 1)), (6, .int 1), (5, .int 0), (0, .ref y), (1, .int p), (2, .int (V 13 (nu p))), (3, .int 0)]) (st2 := []) rfl ?_
                    refine wk_goto C d_MD_fits_202 (tgt := 17) (by decide) ?_
                    refine Wk.sub (lv2 := [(0, .ref y), (1, .int p), (2, .int (V 13 (nu p))), (3, .int 0), (4, .int (0 + 1))]) [3, 4, 5, 6, 0] rfl ?_
                    have hv : (1 : Int32) = z_ (ft_ (nf_ V (nu p)) (V 21) 0 0) := (z_p ft_00).symm
                    exact ih2 (0 + 1, h) ⟨by show 0 + 1 ≤ _; omega, _, by rw [vs_vs] at hM; exact hM, ti_u hT hA2 (by omega) hv⟩ (by show _ - (0 + 1) < _ - 0; omega)
                  ·
                    exact absurd (by decide) c65
                ·
                  exact absurd (by decide) c64
        | succ j =>
          show Wk _ _ _ _ _ _ _ _ _ _ _ _ _ _ _ _ _ _ [(0, .ref y), (1, .int p), (2, .int (V 13 (nu p))), (3, .int 0), (4, .int (nI (j + 1)))] _
          have hj0 : ¬ nI (j + 1) = 0 := nI_ne0 (by omega) (by omega)
          have hj1 : ¬ nI (j + 1) ≤ 0 := nI_nle (by omega) (by omega)
          have ej : nI (j + 1) - 1 = nI j := nI_pred j
          refine wk_run C k_MD_fits_26 (pc2 := 27) (lv2 := [(0, .ref y), (1, .int p), (2, .int (V 13 (nu p))), (3, .int 0), (4, .int (nI (j + 1)))]) (st2 := [.int 0]) rfl ?_
          refine wk_br C d_MD_fits_27 (P := ¬ 0 = 0) (tgt := 34) (rest := []) rfl (by decide) (fun c61 => ?_) (fun c61 => ?_)
          ·
            exact absurd c61 (by decide)
          ·
            refine wk_run C k_MD_fits_30 (pc2 := 31) (lv2 := [(0, .ref y), (1, .int p), (2, .int (V 13 (nu p))), (3, .int 0), (4, .int (nI (j + 1)))]) (st2 := [.int 0]) rfl ?_
            refine wk_goto C d_MD_fits_31 (tgt := 47) (by decide) ?_
            refine wk_run C k_MD_fits_47 (pc2 := 50) (lv2 := [(5, .int 0), (0, .ref y), (1, .int p), (2, .int (V 13 (nu p))), (3, .int 0), (4, .int (nI (j + 1)))]) (st2 := [.int 0]) rfl ?_
            refine wk_br C d_MD_fits_50 (P := ¬ 0 = 0) (tgt := 62) (rest := []) rfl (by decide) (fun c62 => ?_) (fun c62 => ?_)
            ·
              exact absurd c62 (by decide)
            ·
              refine wk_run C k_MD_fits_53 (pc2 := 55) (lv2 := [(5, .int 0), (0, .ref y), (1, .int p), (2, .int (V 13 (nu p))), (3, .int 0), (4, .int (nI (j + 1)))]) (st2 := [.int (nI (j + 1))]) rfl ?_
              refine wk_br C d_MD_fits_55 (P := ¬ (nI (j + 1)) = 0) (tgt := 62) (rest := []) rfl (by decide) (fun c63 => ?_) (fun c63 => ?_)
              ·
                refine wk_run C k_MD_fits_62 (pc2 := 66) (lv2 := [(6, .int 0), (5, .int 0), (0, .ref y), (1, .int p), (2, .int (V 13 (nu p))), (3, .int 0), (4, .int (nI (j + 1)))]) (st2 := [.int 0]) rfl ?_
                refine wk_br C d_MD_fits_66 (P := 0 ≤ 0) (tgt := 122) (rest := []) rfl (by decide) (fun c64 => ?_) (fun c64 => ?_)
                ·
                  refine wk_run C k_MD_fits_122 (pc2 := 123) (lv2 := [(6, .int 0), (5, .int 0), (0, .ref y), (1, .int p), (2, .int (V 13 (nu p))), (3, .int 0), (4, .int (nI (j + 1)))]) (st2 := [.int 0]) rfl ?_
                  refine wk_br C d_MD_fits_123 (P := 0 ≤ 0) (tgt := 185) (rest := []) rfl (by decide) (fun c65 => ?_) (fun c65 => ?_)
                  ·
                    refine wk_run C k_MD_fits_185 (pc2 := 186) (lv2 := [(6, .int 0), (5, .int 0), (0, .ref y), (1, .int p), (2, .int (V 13 (nu p))), (3, .int 0), (4, .int (nI (j + 1)))]) (st2 := [.ref y]) rfl ?_
                    refine wk_get (v := .ref (A 26)) C fd_MD_68 hM.ob rfl d_MD_fits_186 ?_
                    refine wk_run C k_MD_fits_189 (pc2 := 198) (lv2 := [(6, .int 0), (5, .int 0), (0, .ref y), (1, .int p), (2, .int (V 13 (nu p))), (3, .int 0), (4, .int (nI (j + 1)))]) (st2 := [.int 0, .int ((21 * 0) + (nI (j + 1))), .ref (A 26)]) rfl ?_
                    refine wm_stz C hM 26 (j := (21 * 0 + (j + 1))) rfl (ixe (N := 441) (show (21 * 0) + (nI (j + 1)) = nI (21 * 0 + (j + 1)) from by rw [show (21 : Int32) * 0 = nI 0 from rfl, nI_add]) (by omega) (by decide)).1 (ixe (N := 441) (show (21 * 0) + (nI (j + 1)) = nI (21 * 0 + (j + 1)) from by rw [show (21 : Int32) * 0 = nI 0 from rfl, nI_add]) (by omega) (by decide)).2 (by rfl) d_MD_fits_198 (fun h (hM : mq D h0 h y A (vs (vs V 26 F) 26 (upd (F) (21 * 0 + (j + 1)) 0))) => ?_)
                    refine wk_run C k_MD_fits_199 (pc2 := 202) (lv2 := [(4, .int ((nI (j + 1)) + 1)), (6, .int 0), (5, .int 0), (0, .ref y), (1, .int p), (2, .int (V 13 (nu p))), (3, .int 0)]) (st2 := []) rfl ?_
                    refine wk_goto C d_MD_fits_202 (tgt := 17) (by decide) ?_
                    refine Wk.sub (lv2 := [(0, .ref y), (1, .int p), (2, .int (V 13 (nu p))), (3, .int 0), (4, .int ((nI (j + 1)) + 1))]) [3, 4, 5, 6, 0] rfl ?_
                    have hv : (0 : Int32) = z_ (ft_ (nf_ V (nu p)) (V 21) 0 (j + 1)) := (z_n ft_0s).symm
                    rw [nI_1]
                    exact ih2 ((j + 1) + 1, h) ⟨by show (j + 1) + 1 ≤ _; omega, _, by rw [vs_vs] at hM; exact hM, ti_u hT hA2 (by omega) hv⟩ (by show _ - ((j + 1) + 1) < _ - (j + 1); omega)
                  ·
                    exact absurd (by decide) c65
                ·
                  exact absurd (by decide) c64
              ·
                exact absurd hj0 c63
      | succ i =>
        cases j with
        | zero =>
          show Wk _ _ _ _ _ _ _ _ _ _ _ _ _ _ _ _ _ _ [(0, .ref y), (1, .int p), (2, .int (V 13 (nu p))), (3, .int (nI (i + 1))), (4, .int 0)] _
          have hi0 : ¬ nI (i + 1) = 0 := nI_ne0 (by omega) (by omega)
          have hi1 : ¬ nI (i + 1) ≤ 0 := nI_nle (by omega) (by omega)
          have ei : nI (i + 1) - 1 = nI i := nI_pred i
          refine wk_run C k_MD_fits_26 (pc2 := 27) (lv2 := [(0, .ref y), (1, .int p), (2, .int (V 13 (nu p))), (3, .int (nI (i + 1))), (4, .int 0)]) (st2 := [.int (nI (i + 1))]) rfl ?_
          refine wk_br C d_MD_fits_27 (P := ¬ (nI (i + 1)) = 0) (tgt := 34) (rest := []) rfl (by decide) (fun c61 => ?_) (fun c61 => ?_)
          ·
            refine wk_run C k_MD_fits_34 (pc2 := 35) (lv2 := [(0, .ref y), (1, .int p), (2, .int (V 13 (nu p))), (3, .int (nI (i + 1))), (4, .int 0)]) (st2 := [.ref y]) rfl ?_
            refine wk_get (v := .ref (A 12)) C fd_MD_35 hM.ob rfl d_MD_fits_35 ?_
            refine wk_run C k_MD_fits_38 (pc2 := 46) (lv2 := [(0, .ref y), (1, .int p), (2, .int (V 13 (nu p))), (3, .int (nI (i + 1))), (4, .int 0)]) (st2 := [.int (((20 * p) + (nI (i + 1))) - 1), .ref (A 12)]) rfl ?_
            refine wm_ld C hM 12 (j := 20 * nu p + i) rfl (ixe (N := 1220) (show ((20 * p) + (nI (i + 1))) - 1 = nI (20 * nu p + i) from by rw [show (20 : Int32) = nI 20 from rfl, hp.1, nI_mul, nI_add, show 20 * nu p + (i + 1) = (20 * nu p + i) + 1 from rfl, nI_pred, ← hp.1]) (by omega) (by decide)).1 (ixe (N := 1220) (show ((20 * p) + (nI (i + 1))) - 1 = nI (20 * nu p + i) from by rw [show (20 : Int32) = nI 20 from rfl, hp.1, nI_mul, nI_add, show 20 * nu p + (i + 1) = (20 * nu p + i) + 1 from rfl, nI_pred, ← hp.1]) (by omega) (by decide)).2 d_MD_fits_46 ?_
            show Wk _ _ _ _ _ _ _ _ _ _ _ _ _ _ _ _ _ _ _ (.int (V 12 (20 * nu p + i)) :: _)
            refine wk_run C k_MD_fits_47 (pc2 := 50) (lv2 := [(5, .int (V 12 (20 * nu p + i))), (0, .ref y), (1, .int p), (2, .int (V 13 (nu p))), (3, .int (nI (i + 1))), (4, .int 0)]) (st2 := [.int (nI (i + 1))]) rfl ?_
            refine wk_br C d_MD_fits_50 (P := ¬ (nI (i + 1)) = 0) (tgt := 62) (rest := []) rfl (by decide) (fun c62 => ?_) (fun c62 => ?_)
            ·
              refine wk_run C k_MD_fits_62 (pc2 := 66) (lv2 := [(6, .int 0), (5, .int (V 12 (20 * nu p + i))), (0, .ref y), (1, .int p), (2, .int (V 13 (nu p))), (3, .int (nI (i + 1))), (4, .int 0)]) (st2 := [.int (nI (i + 1))]) rfl ?_
              refine wk_br C d_MD_fits_66 (P := (nI (i + 1)) ≤ 0) (tgt := 122) (rest := []) rfl (by decide) (fun c63 => ?_) (fun c63 => ?_)
              ·
                exact absurd c63 hi1
              ·
                refine wk_run C k_MD_fits_69 (pc2 := 73) (lv2 := [(6, .int 0), (5, .int (V 12 (20 * nu p + i))), (0, .ref y), (1, .int p), (2, .int (V 13 (nu p))), (3, .int (nI (i + 1))), (4, .int 0)]) (st2 := [.int 42, .int (V 12 (20 * nu p + i))]) rfl ?_
                refine wk_br C d_MD_fits_73 (P := ¬ (V 12 (20 * nu p + i)) = 42) (tgt := 122) (rest := []) rfl (by decide) (fun c64 => ?_) (fun c64 => ?_)
                ·
                  refine wk_run C k_MD_fits_122 (pc2 := 123) (lv2 := [(6, .int 0), (5, .int (V 12 (20 * nu p + i))), (0, .ref y), (1, .int p), (2, .int (V 13 (nu p))), (3, .int (nI (i + 1))), (4, .int 0)]) (st2 := [.int (nI (i + 1))]) rfl ?_
                  refine wk_br C d_MD_fits_123 (P := (nI (i + 1)) ≤ 0) (tgt := 185) (rest := []) rfl (by decide) (fun c65 => ?_) (fun c65 => ?_)
                  ·
                    exact absurd c65 hi1
                  ·
                    refine wk_run C k_MD_fits_126 (pc2 := 128) (lv2 := [(6, .int 0), (5, .int (V 12 (20 * nu p + i))), (0, .ref y), (1, .int p), (2, .int (V 13 (nu p))), (3, .int (nI (i + 1))), (4, .int 0)]) (st2 := [.int 0]) rfl ?_
                    refine wk_br C d_MD_fits_128 (P := 0 ≤ 0) (tgt := 185) (rest := []) rfl (by decide) (fun c66 => ?_) (fun c66 => ?_)
                    ·
                      refine wk_run C k_MD_fits_185 (pc2 := 186) (lv2 := [(6, .int 0), (5, .int (V 12 (20 * nu p + i))), (0, .ref y), (1, .int p), (2, .int (V 13 (nu p))), (3, .int (nI (i + 1))), (4, .int 0)]) (st2 := [.ref y]) rfl ?_
                      refine wk_get (v := .ref (A 26)) C fd_MD_68 hM.ob rfl d_MD_fits_186 ?_
                      refine wk_run C k_MD_fits_189 (pc2 := 198) (lv2 := [(6, .int 0), (5, .int (V 12 (20 * nu p + i))), (0, .ref y), (1, .int p), (2, .int (V 13 (nu p))), (3, .int (nI (i + 1))), (4, .int 0)]) (st2 := [.int 0, .int ((21 * (nI (i + 1))) + 0), .ref (A 26)]) rfl ?_
                      refine wm_stz C hM 26 (j := (21 * (i + 1) + 0)) rfl (ixe (N := 441) (show (21 * (nI (i + 1))) + 0 = nI (21 * (i + 1) + 0) from by rw [show (21 : Int32) = nI 21 from rfl, nI_mul, show (0 : Int32) = nI 0 from rfl, nI_add]) (by omega) (by decide)).1 (ixe (N := 441) (show (21 * (nI (i + 1))) + 0 = nI (21 * (i + 1) + 0) from by rw [show (21 : Int32) = nI 21 from rfl, nI_mul, show (0 : Int32) = nI 0 from rfl, nI_add]) (by omega) (by decide)).2 (by rfl) d_MD_fits_198 (fun h (hM : mq D h0 h y A (vs (vs V 26 F) 26 (upd (F) (21 * (i + 1) + 0) 0))) => ?_)
                      refine wk_run C k_MD_fits_199 (pc2 := 202) (lv2 := [(4, .int (0 + 1)), (6, .int 0), (5, .int (V 12 (20 * nu p + i))), (0, .ref y), (1, .int p), (2, .int (V 13 (nu p))), (3, .int (nI (i + 1)))]) (st2 := []) rfl ?_
                      refine wk_goto C d_MD_fits_202 (tgt := 17) (by decide) ?_
                      refine Wk.sub (lv2 := [(0, .ref y), (1, .int p), (2, .int (V 13 (nu p))), (3, .int (nI (i + 1))), (4, .int (0 + 1))]) [3, 4, 5, 6, 0] rfl ?_
                      have hfi : V 12 (20 * nu p + i) = nf_ V (nu p) i := rfl
                      have ha := hT i 0 (by omega) (Or.inl (Nat.lt_succ_self i))
                      have hv : (0 : Int32) = z_ (ft_ (nf_ V (nu p)) (V 21) (i + 1) 0) := by
                        refine (z_n ?_).symm
                        rw [ft_s0]
                        clear C hM ih ih2 hT
                        simp only [hfi] at *
                        grind [z_p, z_n, z_0, z_1]
                      exact ih2 (0 + 1, h) ⟨by show 0 + 1 ≤ _; omega, _, by rw [vs_vs] at hM; exact hM, ti_u hT hA2 (by omega) hv⟩ (by show _ - (0 + 1) < _ - 0; omega)
                    ·
                      exact absurd (by decide) c66
                ·
                  refine wk_run C k_MD_fits_76 (pc2 := 77) (lv2 := [(6, .int 0), (5, .int (V 12 (20 * nu p + i))), (0, .ref y), (1, .int p), (2, .int (V 13 (nu p))), (3, .int (nI (i + 1))), (4, .int 0)]) (st2 := [.ref y]) rfl ?_
                  refine wk_get (v := .ref (A 26)) C fd_MD_68 hM.ob rfl d_MD_fits_77 ?_
                  refine wk_run C k_MD_fits_80 (pc2 := 89) (lv2 := [(6, .int 0), (5, .int (V 12 (20 * nu p + i))), (0, .ref y), (1, .int p), (2, .int (V 13 (nu p))), (3, .int (nI (i + 1))), (4, .int 0)]) (st2 := [.int ((21 * ((nI (i + 1)) - 1)) + 0), .ref (A 26)]) rfl ?_
                  refine wm_ldz C hM 26 (j := 21 * i + 0) rfl (ixe (N := 441) (show (21 * ((nI (i + 1)) - 1)) + 0 = nI (21 * i + 0) from by rw [ei, show (21 : Int32) = nI 21 from rfl, nI_mul, show (0 : Int32) = nI 0 from rfl, nI_add]) (by omega) (by decide)).1 (ixe (N := 441) (show (21 * ((nI (i + 1)) - 1)) + 0 = nI (21 * i + 0) from by rw [ei, show (21 : Int32) = nI 21 from rfl, nI_mul, show (0 : Int32) = nI 0 from rfl, nI_add]) (by omega) (by decide)).2 d_MD_fits_89 ?_
                  show Wk _ _ _ _ _ _ _ _ _ _ _ _ _ _ _ _ _ _ _ (.int (F (21 * i + 0)) :: _)
                  refine wk_br C d_MD_fits_90 (P := ¬ (F (21 * i + 0)) = 0) (tgt := 115) (rest := []) rfl (by decide) (fun c67 => ?_) (fun c67 => ?_)
                  ·
                    refine wk_run C k_MD_fits_115 (pc2 := 116) (lv2 := [(6, .int 0), (5, .int (V 12 (20 * nu p + i))), (0, .ref y), (1, .int p), (2, .int (V 13 (nu p))), (3, .int (nI (i + 1))), (4, .int 0)]) (st2 := [.int 1]) rfl ?_
                    refine wk_goto C d_MD_fits_116 (tgt := 120) (by decide) ?_
                    refine wk_run C k_MD_fits_120 (pc2 := 123) (lv2 := [(6, .int 1), (5, .int (V 12 (20 * nu p + i))), (0, .ref y), (1, .int p), (2, .int (V 13 (nu p))), (3, .int (nI (i + 1))), (4, .int 0)]) (st2 := [.int (nI (i + 1))]) rfl ?_
                    refine wk_br C d_MD_fits_123 (P := (nI (i + 1)) ≤ 0) (tgt := 185) (rest := []) rfl (by decide) (fun c68 => ?_) (fun c68 => ?_)
                    ·
                      exact absurd c68 hi1
                    ·
                      refine wk_run C k_MD_fits_126 (pc2 := 128) (lv2 := [(6, .int 1), (5, .int (V 12 (20 * nu p + i))), (0, .ref y), (1, .int p), (2, .int (V 13 (nu p))), (3, .int (nI (i + 1))), (4, .int 0)]) (st2 := [.int 0]) rfl ?_
                      refine wk_br C d_MD_fits_128 (P := 0 ≤ 0) (tgt := 185) (rest := []) rfl (by decide) (fun c69 => ?_) (fun c69 => ?_)
                      ·
                        refine wk_run C k_MD_fits_185 (pc2 := 186) (lv2 := [(6, .int 1), (5, .int (V 12 (20 * nu p + i))), (0, .ref y), (1, .int p), (2, .int (V 13 (nu p))), (3, .int (nI (i + 1))), (4, .int 0)]) (st2 := [.ref y]) rfl ?_
                        refine wk_get (v := .ref (A 26)) C fd_MD_68 hM.ob rfl d_MD_fits_186 ?_
                        refine wk_run C k_MD_fits_189 (pc2 := 198) (lv2 := [(6, .int 1), (5, .int (V 12 (20 * nu p + i))), (0, .ref y), (1, .int p), (2, .int (V 13 (nu p))), (3, .int (nI (i + 1))), (4, .int 0)]) (st2 := [.int 1, .int ((21 * (nI (i + 1))) + 0), .ref (A 26)]) rfl ?_
                        refine wm_stz C hM 26 (j := (21 * (i + 1) + 0)) rfl (ixe (N := 441) (show (21 * (nI (i + 1))) + 0 = nI (21 * (i + 1) + 0) from by rw [show (21 : Int32) = nI 21 from rfl, nI_mul, show (0 : Int32) = nI 0 from rfl, nI_add]) (by omega) (by decide)).1 (ixe (N := 441) (show (21 * (nI (i + 1))) + 0 = nI (21 * (i + 1) + 0) from by rw [show (21 : Int32) = nI 21 from rfl, nI_mul, show (0 : Int32) = nI 0 from rfl, nI_add]) (by omega) (by decide)).2 (by rfl) d_MD_fits_198 (fun h (hM : mq D h0 h y A (vs (vs V 26 F) 26 (upd (F) (21 * (i + 1) + 0) 1))) => ?_)
                        refine wk_run C k_MD_fits_199 (pc2 := 202) (lv2 := [(4, .int (0 + 1)), (6, .int 1), (5, .int (V 12 (20 * nu p + i))), (0, .ref y), (1, .int p), (2, .int (V 13 (nu p))), (3, .int (nI (i + 1)))]) (st2 := []) rfl ?_
                        refine wk_goto C d_MD_fits_202 (tgt := 17) (by decide) ?_
                        refine Wk.sub (lv2 := [(0, .ref y), (1, .int p), (2, .int (V 13 (nu p))), (3, .int (nI (i + 1))), (4, .int (0 + 1))]) [3, 4, 5, 6, 0] rfl ?_
                        have hfi : V 12 (20 * nu p + i) = nf_ V (nu p) i := rfl
                        have ha := hT i 0 (by omega) (Or.inl (Nat.lt_succ_self i))
                        have hv : (1 : Int32) = z_ (ft_ (nf_ V (nu p)) (V 21) (i + 1) 0) := by
                          refine (z_p ?_).symm
                          rw [ft_s0]
                          clear C hM ih ih2 hT
                          simp only [hfi] at *
                          grind [z_p, z_n, z_0, z_1]
                        exact ih2 (0 + 1, h) ⟨by show 0 + 1 ≤ _; omega, _, by rw [vs_vs] at hM; exact hM, ti_u hT hA2 (by omega) hv⟩ (by show _ - (0 + 1) < _ - 0; omega)
                      ·
                        exact absurd (by decide) c69
                  ·
                    refine wk_run C k_MD_fits_93 (pc2 := 95) (lv2 := [(6, .int 0), (5, .int (V 12 (20 * nu p + i))), (0, .ref y), (1, .int p), (2, .int (V 13 (nu p))), (3, .int (nI (i + 1))), (4, .int 0)]) (st2 := [.int 0]) rfl ?_
                    refine wk_br C d_MD_fits_95 (P := 0 ≤ 0) (tgt := 119) (rest := []) rfl (by decide) (fun c70 => ?_) (fun c70 => ?_)
                    ·
                      refine wk_run C k_MD_fits_119 (pc2 := 123) (lv2 := [(6, .int 0), (5, .int (V 12 (20 * nu p + i))), (0, .ref y), (1, .int p), (2, .int (V 13 (nu p))), (3, .int (nI (i + 1))), (4, .int 0)]) (st2 := [.int (nI (i + 1))]) rfl ?_
                      refine wk_br C d_MD_fits_123 (P := (nI (i + 1)) ≤ 0) (tgt := 185) (rest := []) rfl (by decide) (fun c71 => ?_) (fun c71 => ?_)
                      ·
                        exact absurd c71 hi1
                      ·
                        refine wk_run C k_MD_fits_126 (pc2 := 128) (lv2 := [(6, .int 0), (5, .int (V 12 (20 * nu p + i))), (0, .ref y), (1, .int p), (2, .int (V 13 (nu p))), (3, .int (nI (i + 1))), (4, .int 0)]) (st2 := [.int 0]) rfl ?_
                        refine wk_br C d_MD_fits_128 (P := 0 ≤ 0) (tgt := 185) (rest := []) rfl (by decide) (fun c72 => ?_) (fun c72 => ?_)
                        ·
                          refine wk_run C k_MD_fits_185 (pc2 := 186) (lv2 := [(6, .int 0), (5, .int (V 12 (20 * nu p + i))), (0, .ref y), (1, .int p), (2, .int (V 13 (nu p))), (3, .int (nI (i + 1))), (4, .int 0)]) (st2 := [.ref y]) rfl ?_
                          refine wk_get (v := .ref (A 26)) C fd_MD_68 hM.ob rfl d_MD_fits_186 ?_
                          refine wk_run C k_MD_fits_189 (pc2 := 198) (lv2 := [(6, .int 0), (5, .int (V 12 (20 * nu p + i))), (0, .ref y), (1, .int p), (2, .int (V 13 (nu p))), (3, .int (nI (i + 1))), (4, .int 0)]) (st2 := [.int 0, .int ((21 * (nI (i + 1))) + 0), .ref (A 26)]) rfl ?_
                          refine wm_stz C hM 26 (j := (21 * (i + 1) + 0)) rfl (ixe (N := 441) (show (21 * (nI (i + 1))) + 0 = nI (21 * (i + 1) + 0) from by rw [show (21 : Int32) = nI 21 from rfl, nI_mul, show (0 : Int32) = nI 0 from rfl, nI_add]) (by omega) (by decide)).1 (ixe (N := 441) (show (21 * (nI (i + 1))) + 0 = nI (21 * (i + 1) + 0) from by rw [show (21 : Int32) = nI 21 from rfl, nI_mul, show (0 : Int32) = nI 0 from rfl, nI_add]) (by omega) (by decide)).2 (by rfl) d_MD_fits_198 (fun h (hM : mq D h0 h y A (vs (vs V 26 F) 26 (upd (F) (21 * (i + 1) + 0) 0))) => ?_)
                          refine wk_run C k_MD_fits_199 (pc2 := 202) (lv2 := [(4, .int (0 + 1)), (6, .int 0), (5, .int (V 12 (20 * nu p + i))), (0, .ref y), (1, .int p), (2, .int (V 13 (nu p))), (3, .int (nI (i + 1)))]) (st2 := []) rfl ?_
                          refine wk_goto C d_MD_fits_202 (tgt := 17) (by decide) ?_
                          refine Wk.sub (lv2 := [(0, .ref y), (1, .int p), (2, .int (V 13 (nu p))), (3, .int (nI (i + 1))), (4, .int (0 + 1))]) [3, 4, 5, 6, 0] rfl ?_
                          have hfi : V 12 (20 * nu p + i) = nf_ V (nu p) i := rfl
                          have ha := hT i 0 (by omega) (Or.inl (Nat.lt_succ_self i))
                          have hv : (0 : Int32) = z_ (ft_ (nf_ V (nu p)) (V 21) (i + 1) 0) := by
                            refine (z_n ?_).symm
                            rw [ft_s0]
                            clear C hM ih ih2 hT
                            simp only [hfi] at *
                            grind [z_p, z_n, z_0, z_1]
                          exact ih2 (0 + 1, h) ⟨by show 0 + 1 ≤ _; omega, _, by rw [vs_vs] at hM; exact hM, ti_u hT hA2 (by omega) hv⟩ (by show _ - (0 + 1) < _ - 0; omega)
                        ·
                          exact absurd (by decide) c72
                    ·
                      exact absurd (by decide) c70
            ·
              exact absurd hi0 c62
          ·
            exact absurd hi0 c61
        | succ j =>
          show Wk _ _ _ _ _ _ _ _ _ _ _ _ _ _ _ _ _ _ [(0, .ref y), (1, .int p), (2, .int (V 13 (nu p))), (3, .int (nI (i + 1))), (4, .int (nI (j + 1)))] _
          have hi0 : ¬ nI (i + 1) = 0 := nI_ne0 (by omega) (by omega)
          have hi1 : ¬ nI (i + 1) ≤ 0 := nI_nle (by omega) (by omega)
          have ei : nI (i + 1) - 1 = nI i := nI_pred i
          have hj0 : ¬ nI (j + 1) = 0 := nI_ne0 (by omega) (by omega)
          have hj1 : ¬ nI (j + 1) ≤ 0 := nI_nle (by omega) (by omega)
          have ej : nI (j + 1) - 1 = nI j := nI_pred j
          refine wk_run C k_MD_fits_26 (pc2 := 27) (lv2 := [(0, .ref y), (1, .int p), (2, .int (V 13 (nu p))), (3, .int (nI (i + 1))), (4, .int (nI (j + 1)))]) (st2 := [.int (nI (i + 1))]) rfl ?_
          refine wk_br C d_MD_fits_27 (P := ¬ (nI (i + 1)) = 0) (tgt := 34) (rest := []) rfl (by decide) (fun c61 => ?_) (fun c61 => ?_)
          ·
            refine wk_run C k_MD_fits_34 (pc2 := 35) (lv2 := [(0, .ref y), (1, .int p), (2, .int (V 13 (nu p))), (3, .int (nI (i + 1))), (4, .int (nI (j + 1)))]) (st2 := [.ref y]) rfl ?_
            refine wk_get (v := .ref (A 12)) C fd_MD_35 hM.ob rfl d_MD_fits_35 ?_
            refine wk_run C k_MD_fits_38 (pc2 := 46) (lv2 := [(0, .ref y), (1, .int p), (2, .int (V 13 (nu p))), (3, .int (nI (i + 1))), (4, .int (nI (j + 1)))]) (st2 := [.int (((20 * p) + (nI (i + 1))) - 1), .ref (A 12)]) rfl ?_
            refine wm_ld C hM 12 (j := 20 * nu p + i) rfl (ixe (N := 1220) (show ((20 * p) + (nI (i + 1))) - 1 = nI (20 * nu p + i) from by rw [show (20 : Int32) = nI 20 from rfl, hp.1, nI_mul, nI_add, show 20 * nu p + (i + 1) = (20 * nu p + i) + 1 from rfl, nI_pred, ← hp.1]) (by omega) (by decide)).1 (ixe (N := 1220) (show ((20 * p) + (nI (i + 1))) - 1 = nI (20 * nu p + i) from by rw [show (20 : Int32) = nI 20 from rfl, hp.1, nI_mul, nI_add, show 20 * nu p + (i + 1) = (20 * nu p + i) + 1 from rfl, nI_pred, ← hp.1]) (by omega) (by decide)).2 d_MD_fits_46 ?_
            show Wk _ _ _ _ _ _ _ _ _ _ _ _ _ _ _ _ _ _ _ (.int (V 12 (20 * nu p + i)) :: _)
            refine wk_run C k_MD_fits_47 (pc2 := 50) (lv2 := [(5, .int (V 12 (20 * nu p + i))), (0, .ref y), (1, .int p), (2, .int (V 13 (nu p))), (3, .int (nI (i + 1))), (4, .int (nI (j + 1)))]) (st2 := [.int (nI (i + 1))]) rfl ?_
            refine wk_br C d_MD_fits_50 (P := ¬ (nI (i + 1)) = 0) (tgt := 62) (rest := []) rfl (by decide) (fun c62 => ?_) (fun c62 => ?_)
            ·
              refine wk_run C k_MD_fits_62 (pc2 := 66) (lv2 := [(6, .int 0), (5, .int (V 12 (20 * nu p + i))), (0, .ref y), (1, .int p), (2, .int (V 13 (nu p))), (3, .int (nI (i + 1))), (4, .int (nI (j + 1)))]) (st2 := [.int (nI (i + 1))]) rfl ?_
              refine wk_br C d_MD_fits_66 (P := (nI (i + 1)) ≤ 0) (tgt := 122) (rest := []) rfl (by decide) (fun c63 => ?_) (fun c63 => ?_)
              ·
                exact absurd c63 hi1
              ·
                refine wk_run C k_MD_fits_69 (pc2 := 73) (lv2 := [(6, .int 0), (5, .int (V 12 (20 * nu p + i))), (0, .ref y), (1, .int p), (2, .int (V 13 (nu p))), (3, .int (nI (i + 1))), (4, .int (nI (j + 1)))]) (st2 := [.int 42, .int (V 12 (20 * nu p + i))]) rfl ?_
                refine wk_br C d_MD_fits_73 (P := ¬ (V 12 (20 * nu p + i)) = 42) (tgt := 122) (rest := []) rfl (by decide) (fun c64 => ?_) (fun c64 => ?_)
                ·
                  refine wk_run C k_MD_fits_122 (pc2 := 123) (lv2 := [(6, .int 0), (5, .int (V 12 (20 * nu p + i))), (0, .ref y), (1, .int p), (2, .int (V 13 (nu p))), (3, .int (nI (i + 1))), (4, .int (nI (j + 1)))]) (st2 := [.int (nI (i + 1))]) rfl ?_
                  refine wk_br C d_MD_fits_123 (P := (nI (i + 1)) ≤ 0) (tgt := 185) (rest := []) rfl (by decide) (fun c65 => ?_) (fun c65 => ?_)
                  ·
                    exact absurd c65 hi1
                  ·
                    refine wk_run C k_MD_fits_126 (pc2 := 128) (lv2 := [(6, .int 0), (5, .int (V 12 (20 * nu p + i))), (0, .ref y), (1, .int p), (2, .int (V 13 (nu p))), (3, .int (nI (i + 1))), (4, .int (nI (j + 1)))]) (st2 := [.int (nI (j + 1))]) rfl ?_
                    refine wk_br C d_MD_fits_128 (P := (nI (j + 1)) ≤ 0) (tgt := 185) (rest := []) rfl (by decide) (fun c66 => ?_) (fun c66 => ?_)
                    ·
                      exact absurd c66 hj1
                    ·
                      refine wk_run C k_MD_fits_131 (pc2 := 135) (lv2 := [(6, .int 0), (5, .int (V 12 (20 * nu p + i))), (0, .ref y), (1, .int p), (2, .int (V 13 (nu p))), (3, .int (nI (i + 1))), (4, .int (nI (j + 1)))]) (st2 := [.int 42, .int (V 12 (20 * nu p + i))]) rfl ?_
                      refine wk_br C d_MD_fits_135 (P := (V 12 (20 * nu p + i)) = 42) (tgt := 185) (rest := []) rfl (by decide) (fun c67 => ?_) (fun c67 => ?_)
                      ·
                        refine wk_run C k_MD_fits_185 (pc2 := 186) (lv2 := [(6, .int 0), (5, .int (V 12 (20 * nu p + i))), (0, .ref y), (1, .int p), (2, .int (V 13 (nu p))), (3, .int (nI (i + 1))), (4, .int (nI (j + 1)))]) (st2 := [.ref y]) rfl ?_
                        refine wk_get (v := .ref (A 26)) C fd_MD_68 hM.ob rfl d_MD_fits_186 ?_
                        refine wk_run C k_MD_fits_189 (pc2 := 198) (lv2 := [(6, .int 0), (5, .int (V 12 (20 * nu p + i))), (0, .ref y), (1, .int p), (2, .int (V 13 (nu p))), (3, .int (nI (i + 1))), (4, .int (nI (j + 1)))]) (st2 := [.int 0, .int ((21 * (nI (i + 1))) + (nI (j + 1))), .ref (A 26)]) rfl ?_
                        refine wm_stz C hM 26 (j := (21 * (i + 1) + (j + 1))) rfl (ixe (N := 441) (show (21 * (nI (i + 1))) + (nI (j + 1)) = nI (21 * (i + 1) + (j + 1)) from by rw [show (21 : Int32) = nI 21 from rfl, nI_mul, nI_add]) (by omega) (by decide)).1 (ixe (N := 441) (show (21 * (nI (i + 1))) + (nI (j + 1)) = nI (21 * (i + 1) + (j + 1)) from by rw [show (21 : Int32) = nI 21 from rfl, nI_mul, nI_add]) (by omega) (by decide)).2 (by rfl) d_MD_fits_198 (fun h (hM : mq D h0 h y A (vs (vs V 26 F) 26 (upd (F) (21 * (i + 1) + (j + 1)) 0))) => ?_)
                        refine wk_run C k_MD_fits_199 (pc2 := 202) (lv2 := [(4, .int ((nI (j + 1)) + 1)), (6, .int 0), (5, .int (V 12 (20 * nu p + i))), (0, .ref y), (1, .int p), (2, .int (V 13 (nu p))), (3, .int (nI (i + 1)))]) (st2 := []) rfl ?_
                        refine wk_goto C d_MD_fits_202 (tgt := 17) (by decide) ?_
                        refine Wk.sub (lv2 := [(0, .ref y), (1, .int p), (2, .int (V 13 (nu p))), (3, .int (nI (i + 1))), (4, .int ((nI (j + 1)) + 1))]) [3, 4, 5, 6, 0] rfl ?_
                        have hfi : V 12 (20 * nu p + i) = nf_ V (nu p) i := rfl
                        have ha := hT i (j + 1) (by omega) (Or.inl (Nat.lt_succ_self i))
                        have hb := hT i j (by omega) (Or.inl (Nat.lt_succ_self i))
                        have hc := hT (i + 1) j (by omega) (Or.inr ⟨rfl, Nat.lt_succ_self j⟩)
                        have hv : (0 : Int32) = z_ (ft_ (nf_ V (nu p)) (V 21) (i + 1) (j + 1)) := by
                          refine (z_n ?_).symm
                          rw [ft_ss]
                          clear C hM ih ih2 hT
                          simp only [hfi] at *
                          grind [z_p, z_n, z_0, z_1]
                        rw [nI_1]
                        exact ih2 ((j + 1) + 1, h) ⟨by show (j + 1) + 1 ≤ _; omega, _, by rw [vs_vs] at hM; exact hM, ti_u hT hA2 (by omega) hv⟩ (by show _ - ((j + 1) + 1) < _ - (j + 1); omega)
                      ·
                        refine wk_run C k_MD_fits_138 (pc2 := 142) (lv2 := [(6, .int 0), (5, .int (V 12 (20 * nu p + i))), (0, .ref y), (1, .int p), (2, .int (V 13 (nu p))), (3, .int (nI (i + 1))), (4, .int (nI (j + 1)))]) (st2 := [.int 37, .int (V 12 (20 * nu p + i))]) rfl ?_
                        refine wk_br C d_MD_fits_142 (P := (V 12 (20 * nu p + i)) = 37) (tgt := 159) (rest := []) rfl (by decide) (fun c68 => ?_) (fun c68 => ?_)
                        ·
                          refine wk_run C k_MD_fits_159 (pc2 := 160) (lv2 := [(6, .int 0), (5, .int (V 12 (20 * nu p + i))), (0, .ref y), (1, .int p), (2, .int (V 13 (nu p))), (3, .int (nI (i + 1))), (4, .int (nI (j + 1)))]) (st2 := [.ref y]) rfl ?_
                          refine wk_get (v := .ref (A 26)) C fd_MD_68 hM.ob rfl d_MD_fits_160 ?_
                          refine wk_run C k_MD_fits_163 (pc2 := 174) (lv2 := [(6, .int 0), (5, .int (V 12 (20 * nu p + i))), (0, .ref y), (1, .int p), (2, .int (V 13 (nu p))), (3, .int (nI (i + 1))), (4, .int (nI (j + 1)))]) (st2 := [.int (((21 * ((nI (i + 1)) - 1)) + (nI (j + 1))) - 1), .ref (A 26)]) rfl ?_
                          refine wm_ldz C hM 26 (j := 21 * i + j) rfl (ixe (N := 441) (show ((21 * ((nI (i + 1)) - 1)) + (nI (j + 1))) - 1 = nI (21 * i + j) from by rw [ei, show (21 : Int32) = nI 21 from rfl, nI_mul, nI_add, show 21 * i + (j + 1) = (21 * i + j) + 1 from rfl, nI_pred]) (by omega) (by decide)).1 (ixe (N := 441) (show ((21 * ((nI (i + 1)) - 1)) + (nI (j + 1))) - 1 = nI (21 * i + j) from by rw [ei, show (21 : Int32) = nI 21 from rfl, nI_mul, nI_add, show 21 * i + (j + 1) = (21 * i + j) + 1 from rfl, nI_pred]) (by omega) (by decide)).2 d_MD_fits_174 ?_
                          show Wk _ _ _ _ _ _ _ _ _ _ _ _ _ _ _ _ _ _ _ (.int (F (21 * i + j)) :: _)
                          refine wk_br C d_MD_fits_175 (P := (F (21 * i + j)) = 0) (tgt := 182) (rest := []) rfl (by decide) (fun c69 => ?_) (fun c69 => ?_)
                          ·
                            refine wk_run C k_MD_fits_182 (pc2 := 186) (lv2 := [(6, .int 0), (5, .int (V 12 (20 * nu p + i))), (0, .ref y), (1, .int p), (2, .int (V 13 (nu p))), (3, .int (nI (i + 1))), (4, .int (nI (j + 1)))]) (st2 := [.ref y]) rfl ?_
                            refine wk_get (v := .ref (A 26)) C fd_MD_68 hM.ob rfl d_MD_fits_186 ?_
                            refine wk_run C k_MD_fits_189 (pc2 := 198) (lv2 := [(6, .int 0), (5, .int (V 12 (20 * nu p + i))), (0, .ref y), (1, .int p), (2, .int (V 13 (nu p))), (3, .int (nI (i + 1))), (4, .int (nI (j + 1)))]) (st2 := [.int 0, .int ((21 * (nI (i + 1))) + (nI (j + 1))), .ref (A 26)]) rfl ?_
                            refine wm_stz C hM 26 (j := (21 * (i + 1) + (j + 1))) rfl (ixe (N := 441) (show (21 * (nI (i + 1))) + (nI (j + 1)) = nI (21 * (i + 1) + (j + 1)) from by rw [show (21 : Int32) = nI 21 from rfl, nI_mul, nI_add]) (by omega) (by decide)).1 (ixe (N := 441) (show (21 * (nI (i + 1))) + (nI (j + 1)) = nI (21 * (i + 1) + (j + 1)) from by rw [show (21 : Int32) = nI 21 from rfl, nI_mul, nI_add]) (by omega) (by decide)).2 (by rfl) d_MD_fits_198 (fun h (hM : mq D h0 h y A (vs (vs V 26 F) 26 (upd (F) (21 * (i + 1) + (j + 1)) 0))) => ?_)
                            refine wk_run C k_MD_fits_199 (pc2 := 202) (lv2 := [(4, .int ((nI (j + 1)) + 1)), (6, .int 0), (5, .int (V 12 (20 * nu p + i))), (0, .ref y), (1, .int p), (2, .int (V 13 (nu p))), (3, .int (nI (i + 1)))]) (st2 := []) rfl ?_
                            refine wk_goto C d_MD_fits_202 (tgt := 17) (by decide) ?_
                            refine Wk.sub (lv2 := [(0, .ref y), (1, .int p), (2, .int (V 13 (nu p))), (3, .int (nI (i + 1))), (4, .int ((nI (j + 1)) + 1))]) [3, 4, 5, 6, 0] rfl ?_
                            have hfi : V 12 (20 * nu p + i) = nf_ V (nu p) i := rfl
                            have ha := hT i (j + 1) (by omega) (Or.inl (Nat.lt_succ_self i))
                            have hb := hT i j (by omega) (Or.inl (Nat.lt_succ_self i))
                            have hc := hT (i + 1) j (by omega) (Or.inr ⟨rfl, Nat.lt_succ_self j⟩)
                            have hv : (0 : Int32) = z_ (ft_ (nf_ V (nu p)) (V 21) (i + 1) (j + 1)) := by
                              refine (z_n ?_).symm
                              rw [ft_ss]
                              clear C hM ih ih2 hT
                              simp only [hfi] at *
                              grind [z_p, z_n, z_0, z_1]
                            rw [nI_1]
                            exact ih2 ((j + 1) + 1, h) ⟨by show (j + 1) + 1 ≤ _; omega, _, by rw [vs_vs] at hM; exact hM, ti_u hT hA2 (by omega) hv⟩ (by show _ - ((j + 1) + 1) < _ - (j + 1); omega)
                          ·
                            refine wk_run C k_MD_fits_178 (pc2 := 179) (lv2 := [(6, .int 0), (5, .int (V 12 (20 * nu p + i))), (0, .ref y), (1, .int p), (2, .int (V 13 (nu p))), (3, .int (nI (i + 1))), (4, .int (nI (j + 1)))]) (st2 := [.int 1]) rfl ?_
                            refine wk_goto C d_MD_fits_179 (tgt := 183) (by decide) ?_
                            refine wk_run C k_MD_fits_183 (pc2 := 186) (lv2 := [(6, .int 1), (5, .int (V 12 (20 * nu p + i))), (0, .ref y), (1, .int p), (2, .int (V 13 (nu p))), (3, .int (nI (i + 1))), (4, .int (nI (j + 1)))]) (st2 := [.ref y]) rfl ?_
                            refine wk_get (v := .ref (A 26)) C fd_MD_68 hM.ob rfl d_MD_fits_186 ?_
                            refine wk_run C k_MD_fits_189 (pc2 := 198) (lv2 := [(6, .int 1), (5, .int (V 12 (20 * nu p + i))), (0, .ref y), (1, .int p), (2, .int (V 13 (nu p))), (3, .int (nI (i + 1))), (4, .int (nI (j + 1)))]) (st2 := [.int 1, .int ((21 * (nI (i + 1))) + (nI (j + 1))), .ref (A 26)]) rfl ?_
                            refine wm_stz C hM 26 (j := (21 * (i + 1) + (j + 1))) rfl (ixe (N := 441) (show (21 * (nI (i + 1))) + (nI (j + 1)) = nI (21 * (i + 1) + (j + 1)) from by rw [show (21 : Int32) = nI 21 from rfl, nI_mul, nI_add]) (by omega) (by decide)).1 (ixe (N := 441) (show (21 * (nI (i + 1))) + (nI (j + 1)) = nI (21 * (i + 1) + (j + 1)) from by rw [show (21 : Int32) = nI 21 from rfl, nI_mul, nI_add]) (by omega) (by decide)).2 (by rfl) d_MD_fits_198 (fun h (hM : mq D h0 h y A (vs (vs V 26 F) 26 (upd (F) (21 * (i + 1) + (j + 1)) 1))) => ?_)
                            refine wk_run C k_MD_fits_199 (pc2 := 202) (lv2 := [(4, .int ((nI (j + 1)) + 1)), (6, .int 1), (5, .int (V 12 (20 * nu p + i))), (0, .ref y), (1, .int p), (2, .int (V 13 (nu p))), (3, .int (nI (i + 1)))]) (st2 := []) rfl ?_
                            refine wk_goto C d_MD_fits_202 (tgt := 17) (by decide) ?_
                            refine Wk.sub (lv2 := [(0, .ref y), (1, .int p), (2, .int (V 13 (nu p))), (3, .int (nI (i + 1))), (4, .int ((nI (j + 1)) + 1))]) [3, 4, 5, 6, 0] rfl ?_
                            have hfi : V 12 (20 * nu p + i) = nf_ V (nu p) i := rfl
                            have ha := hT i (j + 1) (by omega) (Or.inl (Nat.lt_succ_self i))
                            have hb := hT i j (by omega) (Or.inl (Nat.lt_succ_self i))
                            have hc := hT (i + 1) j (by omega) (Or.inr ⟨rfl, Nat.lt_succ_self j⟩)
                            have hv : (1 : Int32) = z_ (ft_ (nf_ V (nu p)) (V 21) (i + 1) (j + 1)) := by
                              refine (z_p ?_).symm
                              rw [ft_ss]
                              clear C hM ih ih2 hT
                              simp only [hfi] at *
                              grind [z_p, z_n, z_0, z_1]
                            rw [nI_1]
                            exact ih2 ((j + 1) + 1, h) ⟨by show (j + 1) + 1 ≤ _; omega, _, by rw [vs_vs] at hM; exact hM, ti_u hT hA2 (by omega) hv⟩ (by show _ - ((j + 1) + 1) < _ - (j + 1); omega)
                        ·
                          refine wk_run C k_MD_fits_145 (pc2 := 148) (lv2 := [(6, .int 0), (5, .int (V 12 (20 * nu p + i))), (0, .ref y), (1, .int p), (2, .int (V 13 (nu p))), (3, .int (nI (i + 1))), (4, .int (nI (j + 1)))]) (st2 := [.ref y, .int (V 12 (20 * nu p + i))]) rfl ?_
                          refine wk_get (v := .ref (A 21)) C fd_MD_62 hM.ob rfl d_MD_fits_148 ?_
                          refine wk_run C k_MD_fits_151 (pc2 := 155) (lv2 := [(6, .int 0), (5, .int (V 12 (20 * nu p + i))), (0, .ref y), (1, .int p), (2, .int (V 13 (nu p))), (3, .int (nI (i + 1))), (4, .int (nI (j + 1)))]) (st2 := [.int ((nI (j + 1)) - 1), .ref (A 21), .int (V 12 (20 * nu p + i))]) rfl ?_
                          refine wm_ld C hM 21 (j := j) rfl (ixe (N := 20) (show (nI (j + 1)) - 1 = nI (j) from ej) (by omega) (by decide)).1 (ixe (N := 20) (show (nI (j + 1)) - 1 = nI (j) from ej) (by omega) (by decide)).2 d_MD_fits_155 ?_
                          show Wk _ _ _ _ _ _ _ _ _ _ _ _ _ _ _ _ _ _ _ (.int (V 21 j) :: _)
                          refine wk_br C d_MD_fits_156 (P := ¬ (V 12 (20 * nu p + i)) = (V 21 j)) (tgt := 182) (rest := []) rfl (by decide) (fun c70 => ?_) (fun c70 => ?_)
                          ·
                            refine wk_run C k_MD_fits_182 (pc2 := 186) (lv2 := [(6, .int 0), (5, .int (V 12 (20 * nu p + i))), (0, .ref y), (1, .int p), (2, .int (V 13 (nu p))), (3, .int (nI (i + 1))), (4, .int (nI (j + 1)))]) (st2 := [.ref y]) rfl ?_
                            refine wk_get (v := .ref (A 26)) C fd_MD_68 hM.ob rfl d_MD_fits_186 ?_
                            refine wk_run C k_MD_fits_189 (pc2 := 198) (lv2 := [(6, .int 0), (5, .int (V 12 (20 * nu p + i))), (0, .ref y), (1, .int p), (2, .int (V 13 (nu p))), (3, .int (nI (i + 1))), (4, .int (nI (j + 1)))]) (st2 := [.int 0, .int ((21 * (nI (i + 1))) + (nI (j + 1))), .ref (A 26)]) rfl ?_
                            refine wm_stz C hM 26 (j := (21 * (i + 1) + (j + 1))) rfl (ixe (N := 441) (show (21 * (nI (i + 1))) + (nI (j + 1)) = nI (21 * (i + 1) + (j + 1)) from by rw [show (21 : Int32) = nI 21 from rfl, nI_mul, nI_add]) (by omega) (by decide)).1 (ixe (N := 441) (show (21 * (nI (i + 1))) + (nI (j + 1)) = nI (21 * (i + 1) + (j + 1)) from by rw [show (21 : Int32) = nI 21 from rfl, nI_mul, nI_add]) (by omega) (by decide)).2 (by rfl) d_MD_fits_198 (fun h (hM : mq D h0 h y A (vs (vs V 26 F) 26 (upd (F) (21 * (i + 1) + (j + 1)) 0))) => ?_)
                            refine wk_run C k_MD_fits_199 (pc2 := 202) (lv2 := [(4, .int ((nI (j + 1)) + 1)), (6, .int 0), (5, .int (V 12 (20 * nu p + i))), (0, .ref y), (1, .int p), (2, .int (V 13 (nu p))), (3, .int (nI (i + 1)))]) (st2 := []) rfl ?_
                            refine wk_goto C d_MD_fits_202 (tgt := 17) (by decide) ?_
                            refine Wk.sub (lv2 := [(0, .ref y), (1, .int p), (2, .int (V 13 (nu p))), (3, .int (nI (i + 1))), (4, .int ((nI (j + 1)) + 1))]) [3, 4, 5, 6, 0] rfl ?_
                            have hfi : V 12 (20 * nu p + i) = nf_ V (nu p) i := rfl
                            have ha := hT i (j + 1) (by omega) (Or.inl (Nat.lt_succ_self i))
                            have hb := hT i j (by omega) (Or.inl (Nat.lt_succ_self i))
                            have hc := hT (i + 1) j (by omega) (Or.inr ⟨rfl, Nat.lt_succ_self j⟩)
                            have hv : (0 : Int32) = z_ (ft_ (nf_ V (nu p)) (V 21) (i + 1) (j + 1)) := by
                              refine (z_n ?_).symm
                              rw [ft_ss]
                              clear C hM ih ih2 hT
                              simp only [hfi] at *
                              grind [z_p, z_n, z_0, z_1]
                            rw [nI_1]
                            exact ih2 ((j + 1) + 1, h) ⟨by show (j + 1) + 1 ≤ _; omega, _, by rw [vs_vs] at hM; exact hM, ti_u hT hA2 (by omega) hv⟩ (by show _ - ((j + 1) + 1) < _ - (j + 1); omega)
                          ·
                            refine wk_run C k_MD_fits_159 (pc2 := 160) (lv2 := [(6, .int 0), (5, .int (V 12 (20 * nu p + i))), (0, .ref y), (1, .int p), (2, .int (V 13 (nu p))), (3, .int (nI (i + 1))), (4, .int (nI (j + 1)))]) (st2 := [.ref y]) rfl ?_
                            refine wk_get (v := .ref (A 26)) C fd_MD_68 hM.ob rfl d_MD_fits_160 ?_
                            refine wk_run C k_MD_fits_163 (pc2 := 174) (lv2 := [(6, .int 0), (5, .int (V 12 (20 * nu p + i))), (0, .ref y), (1, .int p), (2, .int (V 13 (nu p))), (3, .int (nI (i + 1))), (4, .int (nI (j + 1)))]) (st2 := [.int (((21 * ((nI (i + 1)) - 1)) + (nI (j + 1))) - 1), .ref (A 26)]) rfl ?_
                            refine wm_ldz C hM 26 (j := 21 * i + j) rfl (ixe (N := 441) (show ((21 * ((nI (i + 1)) - 1)) + (nI (j + 1))) - 1 = nI (21 * i + j) from by rw [ei, show (21 : Int32) = nI 21 from rfl, nI_mul, nI_add, show 21 * i + (j + 1) = (21 * i + j) + 1 from rfl, nI_pred]) (by omega) (by decide)).1 (ixe (N := 441) (show ((21 * ((nI (i + 1)) - 1)) + (nI (j + 1))) - 1 = nI (21 * i + j) from by rw [ei, show (21 : Int32) = nI 21 from rfl, nI_mul, nI_add, show 21 * i + (j + 1) = (21 * i + j) + 1 from rfl, nI_pred]) (by omega) (by decide)).2 d_MD_fits_174 ?_
                            show Wk _ _ _ _ _ _ _ _ _ _ _ _ _ _ _ _ _ _ _ (.int (F (21 * i + j)) :: _)
                            refine wk_br C d_MD_fits_175 (P := (F (21 * i + j)) = 0) (tgt := 182) (rest := []) rfl (by decide) (fun c71 => ?_) (fun c71 => ?_)
                            ·
                              refine wk_run C k_MD_fits_182 (pc2 := 186) (lv2 := [(6, .int 0), (5, .int (V 12 (20 * nu p + i))), (0, .ref y), (1, .int p), (2, .int (V 13 (nu p))), (3, .int (nI (i + 1))), (4, .int (nI (j + 1)))]) (st2 := [.ref y]) rfl ?_
                              refine wk_get (v := .ref (A 26)) C fd_MD_68 hM.ob rfl d_MD_fits_186 ?_
                              refine wk_run C k_MD_fits_189 (pc2 := 198) (lv2 := [(6, .int 0), (5, .int (V 12 (20 * nu p + i))), (0, .ref y), (1, .int p), (2, .int (V 13 (nu p))), (3, .int (nI (i + 1))), (4, .int (nI (j + 1)))]) (st2 := [.int 0, .int ((21 * (nI (i + 1))) + (nI (j + 1))), .ref (A 26)]) rfl ?_
                              refine wm_stz C hM 26 (j := (21 * (i + 1) + (j + 1))) rfl (ixe (N := 441) (show (21 * (nI (i + 1))) + (nI (j + 1)) = nI (21 * (i + 1) + (j + 1)) from by rw [show (21 : Int32) = nI 21 from rfl, nI_mul, nI_add]) (by omega) (by decide)).1 (ixe (N := 441) (show (21 * (nI (i + 1))) + (nI (j + 1)) = nI (21 * (i + 1) + (j + 1)) from by rw [show (21 : Int32) = nI 21 from rfl, nI_mul, nI_add]) (by omega) (by decide)).2 (by rfl) d_MD_fits_198 (fun h (hM : mq D h0 h y A (vs (vs V 26 F) 26 (upd (F) (21 * (i + 1) + (j + 1)) 0))) => ?_)
                              refine wk_run C k_MD_fits_199 (pc2 := 202) (lv2 := [(4, .int ((nI (j + 1)) + 1)), (6, .int 0), (5, .int (V 12 (20 * nu p + i))), (0, .ref y), (1, .int p), (2, .int (V 13 (nu p))), (3, .int (nI (i + 1)))]) (st2 := []) rfl ?_
                              refine wk_goto C d_MD_fits_202 (tgt := 17) (by decide) ?_
                              refine Wk.sub (lv2 := [(0, .ref y), (1, .int p), (2, .int (V 13 (nu p))), (3, .int (nI (i + 1))), (4, .int ((nI (j + 1)) + 1))]) [3, 4, 5, 6, 0] rfl ?_
                              have hfi : V 12 (20 * nu p + i) = nf_ V (nu p) i := rfl
                              have ha := hT i (j + 1) (by omega) (Or.inl (Nat.lt_succ_self i))
                              have hb := hT i j (by omega) (Or.inl (Nat.lt_succ_self i))
                              have hc := hT (i + 1) j (by omega) (Or.inr ⟨rfl, Nat.lt_succ_self j⟩)
                              have hv : (0 : Int32) = z_ (ft_ (nf_ V (nu p)) (V 21) (i + 1) (j + 1)) := by
                                refine (z_n ?_).symm
                                rw [ft_ss]
                                clear C hM ih ih2 hT
                                simp only [hfi] at *
                                grind [z_p, z_n, z_0, z_1]
                              rw [nI_1]
                              exact ih2 ((j + 1) + 1, h) ⟨by show (j + 1) + 1 ≤ _; omega, _, by rw [vs_vs] at hM; exact hM, ti_u hT hA2 (by omega) hv⟩ (by show _ - ((j + 1) + 1) < _ - (j + 1); omega)
                            ·
                              refine wk_run C k_MD_fits_178 (pc2 := 179) (lv2 := [(6, .int 0), (5, .int (V 12 (20 * nu p + i))), (0, .ref y), (1, .int p), (2, .int (V 13 (nu p))), (3, .int (nI (i + 1))), (4, .int (nI (j + 1)))]) (st2 := [.int 1]) rfl ?_
                              refine wk_goto C d_MD_fits_179 (tgt := 183) (by decide) ?_
                              refine wk_run C k_MD_fits_183 (pc2 := 186) (lv2 := [(6, .int 1), (5, .int (V 12 (20 * nu p + i))), (0, .ref y), (1, .int p), (2, .int (V 13 (nu p))), (3, .int (nI (i + 1))), (4, .int (nI (j + 1)))]) (st2 := [.ref y]) rfl ?_
                              refine wk_get (v := .ref (A 26)) C fd_MD_68 hM.ob rfl d_MD_fits_186 ?_
                              refine wk_run C k_MD_fits_189 (pc2 := 198) (lv2 := [(6, .int 1), (5, .int (V 12 (20 * nu p + i))), (0, .ref y), (1, .int p), (2, .int (V 13 (nu p))), (3, .int (nI (i + 1))), (4, .int (nI (j + 1)))]) (st2 := [.int 1, .int ((21 * (nI (i + 1))) + (nI (j + 1))), .ref (A 26)]) rfl ?_
                              refine wm_stz C hM 26 (j := (21 * (i + 1) + (j + 1))) rfl (ixe (N := 441) (show (21 * (nI (i + 1))) + (nI (j + 1)) = nI (21 * (i + 1) + (j + 1)) from by rw [show (21 : Int32) = nI 21 from rfl, nI_mul, nI_add]) (by omega) (by decide)).1 (ixe (N := 441) (show (21 * (nI (i + 1))) + (nI (j + 1)) = nI (21 * (i + 1) + (j + 1)) from by rw [show (21 : Int32) = nI 21 from rfl, nI_mul, nI_add]) (by omega) (by decide)).2 (by rfl) d_MD_fits_198 (fun h (hM : mq D h0 h y A (vs (vs V 26 F) 26 (upd (F) (21 * (i + 1) + (j + 1)) 1))) => ?_)
                              refine wk_run C k_MD_fits_199 (pc2 := 202) (lv2 := [(4, .int ((nI (j + 1)) + 1)), (6, .int 1), (5, .int (V 12 (20 * nu p + i))), (0, .ref y), (1, .int p), (2, .int (V 13 (nu p))), (3, .int (nI (i + 1)))]) (st2 := []) rfl ?_
                              refine wk_goto C d_MD_fits_202 (tgt := 17) (by decide) ?_
                              refine Wk.sub (lv2 := [(0, .ref y), (1, .int p), (2, .int (V 13 (nu p))), (3, .int (nI (i + 1))), (4, .int ((nI (j + 1)) + 1))]) [3, 4, 5, 6, 0] rfl ?_
                              have hfi : V 12 (20 * nu p + i) = nf_ V (nu p) i := rfl
                              have ha := hT i (j + 1) (by omega) (Or.inl (Nat.lt_succ_self i))
                              have hb := hT i j (by omega) (Or.inl (Nat.lt_succ_self i))
                              have hc := hT (i + 1) j (by omega) (Or.inr ⟨rfl, Nat.lt_succ_self j⟩)
                              have hv : (1 : Int32) = z_ (ft_ (nf_ V (nu p)) (V 21) (i + 1) (j + 1)) := by
                                refine (z_p ?_).symm
                                rw [ft_ss]
                                clear C hM ih ih2 hT
                                simp only [hfi] at *
                                grind [z_p, z_n, z_0, z_1]
                              rw [nI_1]
                              exact ih2 ((j + 1) + 1, h) ⟨by show (j + 1) + 1 ≤ _; omega, _, by rw [vs_vs] at hM; exact hM, ti_u hT hA2 (by omega) hv⟩ (by show _ - ((j + 1) + 1) < _ - (j + 1); omega)
                ·
                  refine wk_run C k_MD_fits_76 (pc2 := 77) (lv2 := [(6, .int 0), (5, .int (V 12 (20 * nu p + i))), (0, .ref y), (1, .int p), (2, .int (V 13 (nu p))), (3, .int (nI (i + 1))), (4, .int (nI (j + 1)))]) (st2 := [.ref y]) rfl ?_
                  refine wk_get (v := .ref (A 26)) C fd_MD_68 hM.ob rfl d_MD_fits_77 ?_
                  refine wk_run C k_MD_fits_80 (pc2 := 89) (lv2 := [(6, .int 0), (5, .int (V 12 (20 * nu p + i))), (0, .ref y), (1, .int p), (2, .int (V 13 (nu p))), (3, .int (nI (i + 1))), (4, .int (nI (j + 1)))]) (st2 := [.int ((21 * ((nI (i + 1)) - 1)) + (nI (j + 1))), .ref (A 26)]) rfl ?_
                  refine wm_ldz C hM 26 (j := 21 * i + (j + 1)) rfl (ixe (N := 441) (show (21 * ((nI (i + 1)) - 1)) + (nI (j + 1)) = nI (21 * i + (j + 1)) from by rw [ei, show (21 : Int32) = nI 21 from rfl, nI_mul, nI_add]) (by omega) (by decide)).1 (ixe (N := 441) (show (21 * ((nI (i + 1)) - 1)) + (nI (j + 1)) = nI (21 * i + (j + 1)) from by rw [ei, show (21 : Int32) = nI 21 from rfl, nI_mul, nI_add]) (by omega) (by decide)).2 d_MD_fits_89 ?_
                  show Wk _ _ _ _ _ _ _ _ _ _ _ _ _ _ _ _ _ _ _ (.int (F (21 * i + (j + 1))) :: _)
                  refine wk_br C d_MD_fits_90 (P := ¬ (F (21 * i + (j + 1))) = 0) (tgt := 115) (rest := []) rfl (by decide) (fun c72 => ?_) (fun c72 => ?_)
                  ·
                    refine wk_run C k_MD_fits_115 (pc2 := 116) (lv2 := [(6, .int 0), (5, .int (V 12 (20 * nu p + i))), (0, .ref y), (1, .int p), (2, .int (V 13 (nu p))), (3, .int (nI (i + 1))), (4, .int (nI (j + 1)))]) (st2 := [.int 1]) rfl ?_
                    refine wk_goto C d_MD_fits_116 (tgt := 120) (by decide) ?_
                    refine wk_run C k_MD_fits_120 (pc2 := 123) (lv2 := [(6, .int 1), (5, .int (V 12 (20 * nu p + i))), (0, .ref y), (1, .int p), (2, .int (V 13 (nu p))), (3, .int (nI (i + 1))), (4, .int (nI (j + 1)))]) (st2 := [.int (nI (i + 1))]) rfl ?_
                    refine wk_br C d_MD_fits_123 (P := (nI (i + 1)) ≤ 0) (tgt := 185) (rest := []) rfl (by decide) (fun c73 => ?_) (fun c73 => ?_)
                    ·
                      exact absurd c73 hi1
                    ·
                      refine wk_run C k_MD_fits_126 (pc2 := 128) (lv2 := [(6, .int 1), (5, .int (V 12 (20 * nu p + i))), (0, .ref y), (1, .int p), (2, .int (V 13 (nu p))), (3, .int (nI (i + 1))), (4, .int (nI (j + 1)))]) (st2 := [.int (nI (j + 1))]) rfl ?_
                      refine wk_br C d_MD_fits_128 (P := (nI (j + 1)) ≤ 0) (tgt := 185) (rest := []) rfl (by decide) (fun c74 => ?_) (fun c74 => ?_)
                      ·
                        exact absurd c74 hj1
                      ·
                        refine wk_run C k_MD_fits_131 (pc2 := 135) (lv2 := [(6, .int 1), (5, .int (V 12 (20 * nu p + i))), (0, .ref y), (1, .int p), (2, .int (V 13 (nu p))), (3, .int (nI (i + 1))), (4, .int (nI (j + 1)))]) (st2 := [.int 42, .int (V 12 (20 * nu p + i))]) rfl ?_
                        refine wk_br C d_MD_fits_135 (P := (V 12 (20 * nu p + i)) = 42) (tgt := 185) (rest := []) rfl (by decide) (fun c75 => ?_) (fun c75 => ?_)
                        ·
                          refine wk_run C k_MD_fits_185 (pc2 := 186) (lv2 := [(6, .int 1), (5, .int (V 12 (20 * nu p + i))), (0, .ref y), (1, .int p), (2, .int (V 13 (nu p))), (3, .int (nI (i + 1))), (4, .int (nI (j + 1)))]) (st2 := [.ref y]) rfl ?_
                          refine wk_get (v := .ref (A 26)) C fd_MD_68 hM.ob rfl d_MD_fits_186 ?_
                          refine wk_run C k_MD_fits_189 (pc2 := 198) (lv2 := [(6, .int 1), (5, .int (V 12 (20 * nu p + i))), (0, .ref y), (1, .int p), (2, .int (V 13 (nu p))), (3, .int (nI (i + 1))), (4, .int (nI (j + 1)))]) (st2 := [.int 1, .int ((21 * (nI (i + 1))) + (nI (j + 1))), .ref (A 26)]) rfl ?_
                          refine wm_stz C hM 26 (j := (21 * (i + 1) + (j + 1))) rfl (ixe (N := 441) (show (21 * (nI (i + 1))) + (nI (j + 1)) = nI (21 * (i + 1) + (j + 1)) from by rw [show (21 : Int32) = nI 21 from rfl, nI_mul, nI_add]) (by omega) (by decide)).1 (ixe (N := 441) (show (21 * (nI (i + 1))) + (nI (j + 1)) = nI (21 * (i + 1) + (j + 1)) from by rw [show (21 : Int32) = nI 21 from rfl, nI_mul, nI_add]) (by omega) (by decide)).2 (by rfl) d_MD_fits_198 (fun h (hM : mq D h0 h y A (vs (vs V 26 F) 26 (upd (F) (21 * (i + 1) + (j + 1)) 1))) => ?_)
                          refine wk_run C k_MD_fits_199 (pc2 := 202) (lv2 := [(4, .int ((nI (j + 1)) + 1)), (6, .int 1), (5, .int (V 12 (20 * nu p + i))), (0, .ref y), (1, .int p), (2, .int (V 13 (nu p))), (3, .int (nI (i + 1)))]) (st2 := []) rfl ?_
                          refine wk_goto C d_MD_fits_202 (tgt := 17) (by decide) ?_
                          refine Wk.sub (lv2 := [(0, .ref y), (1, .int p), (2, .int (V 13 (nu p))), (3, .int (nI (i + 1))), (4, .int ((nI (j + 1)) + 1))]) [3, 4, 5, 6, 0] rfl ?_
                          have hfi : V 12 (20 * nu p + i) = nf_ V (nu p) i := rfl
                          have ha := hT i (j + 1) (by omega) (Or.inl (Nat.lt_succ_self i))
                          have hb := hT i j (by omega) (Or.inl (Nat.lt_succ_self i))
                          have hc := hT (i + 1) j (by omega) (Or.inr ⟨rfl, Nat.lt_succ_self j⟩)
                          have hv : (1 : Int32) = z_ (ft_ (nf_ V (nu p)) (V 21) (i + 1) (j + 1)) := by
                            refine (z_p ?_).symm
                            rw [ft_ss]
                            clear C hM ih ih2 hT
                            simp only [hfi] at *
                            grind [z_p, z_n, z_0, z_1]
                          rw [nI_1]
                          exact ih2 ((j + 1) + 1, h) ⟨by show (j + 1) + 1 ≤ _; omega, _, by rw [vs_vs] at hM; exact hM, ti_u hT hA2 (by omega) hv⟩ (by show _ - ((j + 1) + 1) < _ - (j + 1); omega)
                        ·
                          refine wk_run C k_MD_fits_138 (pc2 := 142) (lv2 := [(6, .int 1), (5, .int (V 12 (20 * nu p + i))), (0, .ref y), (1, .int p), (2, .int (V 13 (nu p))), (3, .int (nI (i + 1))), (4, .int (nI (j + 1)))]) (st2 := [.int 37, .int (V 12 (20 * nu p + i))]) rfl ?_
                          refine wk_br C d_MD_fits_142 (P := (V 12 (20 * nu p + i)) = 37) (tgt := 159) (rest := []) rfl (by decide) (fun c76 => ?_) (fun c76 => ?_)
                          ·
                            refine wk_run C k_MD_fits_159 (pc2 := 160) (lv2 := [(6, .int 1), (5, .int (V 12 (20 * nu p + i))), (0, .ref y), (1, .int p), (2, .int (V 13 (nu p))), (3, .int (nI (i + 1))), (4, .int (nI (j + 1)))]) (st2 := [.ref y]) rfl ?_
                            refine wk_get (v := .ref (A 26)) C fd_MD_68 hM.ob rfl d_MD_fits_160 ?_
                            refine wk_run C k_MD_fits_163 (pc2 := 174) (lv2 := [(6, .int 1), (5, .int (V 12 (20 * nu p + i))), (0, .ref y), (1, .int p), (2, .int (V 13 (nu p))), (3, .int (nI (i + 1))), (4, .int (nI (j + 1)))]) (st2 := [.int (((21 * ((nI (i + 1)) - 1)) + (nI (j + 1))) - 1), .ref (A 26)]) rfl ?_
                            refine wm_ldz C hM 26 (j := 21 * i + j) rfl (ixe (N := 441) (show ((21 * ((nI (i + 1)) - 1)) + (nI (j + 1))) - 1 = nI (21 * i + j) from by rw [ei, show (21 : Int32) = nI 21 from rfl, nI_mul, nI_add, show 21 * i + (j + 1) = (21 * i + j) + 1 from rfl, nI_pred]) (by omega) (by decide)).1 (ixe (N := 441) (show ((21 * ((nI (i + 1)) - 1)) + (nI (j + 1))) - 1 = nI (21 * i + j) from by rw [ei, show (21 : Int32) = nI 21 from rfl, nI_mul, nI_add, show 21 * i + (j + 1) = (21 * i + j) + 1 from rfl, nI_pred]) (by omega) (by decide)).2 d_MD_fits_174 ?_
                            show Wk _ _ _ _ _ _ _ _ _ _ _ _ _ _ _ _ _ _ _ (.int (F (21 * i + j)) :: _)
                            refine wk_br C d_MD_fits_175 (P := (F (21 * i + j)) = 0) (tgt := 182) (rest := []) rfl (by decide) (fun c77 => ?_) (fun c77 => ?_)
                            ·
                              refine wk_run C k_MD_fits_182 (pc2 := 186) (lv2 := [(6, .int 0), (5, .int (V 12 (20 * nu p + i))), (0, .ref y), (1, .int p), (2, .int (V 13 (nu p))), (3, .int (nI (i + 1))), (4, .int (nI (j + 1)))]) (st2 := [.ref y]) rfl ?_
                              refine wk_get (v := .ref (A 26)) C fd_MD_68 hM.ob rfl d_MD_fits_186 ?_
                              refine wk_run C k_MD_fits_189 (pc2 := 198) (lv2 := [(6, .int 0), (5, .int (V 12 (20 * nu p + i))), (0, .ref y), (1, .int p), (2, .int (V 13 (nu p))), (3, .int (nI (i + 1))), (4, .int (nI (j + 1)))]) (st2 := [.int 0, .int ((21 * (nI (i + 1))) + (nI (j + 1))), .ref (A 26)]) rfl ?_
                              refine wm_stz C hM 26 (j := (21 * (i + 1) + (j + 1))) rfl (ixe (N := 441) (show (21 * (nI (i + 1))) + (nI (j + 1)) = nI (21 * (i + 1) + (j + 1)) from by rw [show (21 : Int32) = nI 21 from rfl, nI_mul, nI_add]) (by omega) (by decide)).1 (ixe (N := 441) (show (21 * (nI (i + 1))) + (nI (j + 1)) = nI (21 * (i + 1) + (j + 1)) from by rw [show (21 : Int32) = nI 21 from rfl, nI_mul, nI_add]) (by omega) (by decide)).2 (by rfl) d_MD_fits_198 (fun h (hM : mq D h0 h y A (vs (vs V 26 F) 26 (upd (F) (21 * (i + 1) + (j + 1)) 0))) => ?_)
                              refine wk_run C k_MD_fits_199 (pc2 := 202) (lv2 := [(4, .int ((nI (j + 1)) + 1)), (6, .int 0), (5, .int (V 12 (20 * nu p + i))), (0, .ref y), (1, .int p), (2, .int (V 13 (nu p))), (3, .int (nI (i + 1)))]) (st2 := []) rfl ?_
                              refine wk_goto C d_MD_fits_202 (tgt := 17) (by decide) ?_
                              refine Wk.sub (lv2 := [(0, .ref y), (1, .int p), (2, .int (V 13 (nu p))), (3, .int (nI (i + 1))), (4, .int ((nI (j + 1)) + 1))]) [3, 4, 5, 6, 0] rfl ?_
                              have hfi : V 12 (20 * nu p + i) = nf_ V (nu p) i := rfl
                              have ha := hT i (j + 1) (by omega) (Or.inl (Nat.lt_succ_self i))
                              have hb := hT i j (by omega) (Or.inl (Nat.lt_succ_self i))
                              have hc := hT (i + 1) j (by omega) (Or.inr ⟨rfl, Nat.lt_succ_self j⟩)
                              have hv : (0 : Int32) = z_ (ft_ (nf_ V (nu p)) (V 21) (i + 1) (j + 1)) := by
                                refine (z_n ?_).symm
                                rw [ft_ss]
                                clear C hM ih ih2 hT
                                simp only [hfi] at *
                                grind [z_p, z_n, z_0, z_1]
                              rw [nI_1]
                              exact ih2 ((j + 1) + 1, h) ⟨by show (j + 1) + 1 ≤ _; omega, _, by rw [vs_vs] at hM; exact hM, ti_u hT hA2 (by omega) hv⟩ (by show _ - ((j + 1) + 1) < _ - (j + 1); omega)
                            ·
                              refine wk_run C k_MD_fits_178 (pc2 := 179) (lv2 := [(6, .int 1), (5, .int (V 12 (20 * nu p + i))), (0, .ref y), (1, .int p), (2, .int (V 13 (nu p))), (3, .int (nI (i + 1))), (4, .int (nI (j + 1)))]) (st2 := [.int 1]) rfl ?_
                              refine wk_goto C d_MD_fits_179 (tgt := 183) (by decide) ?_
                              refine wk_run C k_MD_fits_183 (pc2 := 186) (lv2 := [(6, .int 1), (5, .int (V 12 (20 * nu p + i))), (0, .ref y), (1, .int p), (2, .int (V 13 (nu p))), (3, .int (nI (i + 1))), (4, .int (nI (j + 1)))]) (st2 := [.ref y]) rfl ?_
                              refine wk_get (v := .ref (A 26)) C fd_MD_68 hM.ob rfl d_MD_fits_186 ?_
                              refine wk_run C k_MD_fits_189 (pc2 := 198) (lv2 := [(6, .int 1), (5, .int (V 12 (20 * nu p + i))), (0, .ref y), (1, .int p), (2, .int (V 13 (nu p))), (3, .int (nI (i + 1))), (4, .int (nI (j + 1)))]) (st2 := [.int 1, .int ((21 * (nI (i + 1))) + (nI (j + 1))), .ref (A 26)]) rfl ?_
                              refine wm_stz C hM 26 (j := (21 * (i + 1) + (j + 1))) rfl (ixe (N := 441) (show (21 * (nI (i + 1))) + (nI (j + 1)) = nI (21 * (i + 1) + (j + 1)) from by rw [show (21 : Int32) = nI 21 from rfl, nI_mul, nI_add]) (by omega) (by decide)).1 (ixe (N := 441) (show (21 * (nI (i + 1))) + (nI (j + 1)) = nI (21 * (i + 1) + (j + 1)) from by rw [show (21 : Int32) = nI 21 from rfl, nI_mul, nI_add]) (by omega) (by decide)).2 (by rfl) d_MD_fits_198 (fun h (hM : mq D h0 h y A (vs (vs V 26 F) 26 (upd (F) (21 * (i + 1) + (j + 1)) 1))) => ?_)
                              refine wk_run C k_MD_fits_199 (pc2 := 202) (lv2 := [(4, .int ((nI (j + 1)) + 1)), (6, .int 1), (5, .int (V 12 (20 * nu p + i))), (0, .ref y), (1, .int p), (2, .int (V 13 (nu p))), (3, .int (nI (i + 1)))]) (st2 := []) rfl ?_
                              refine wk_goto C d_MD_fits_202 (tgt := 17) (by decide) ?_
                              refine Wk.sub (lv2 := [(0, .ref y), (1, .int p), (2, .int (V 13 (nu p))), (3, .int (nI (i + 1))), (4, .int ((nI (j + 1)) + 1))]) [3, 4, 5, 6, 0] rfl ?_
                              have hfi : V 12 (20 * nu p + i) = nf_ V (nu p) i := rfl
                              have ha := hT i (j + 1) (by omega) (Or.inl (Nat.lt_succ_self i))
                              have hb := hT i j (by omega) (Or.inl (Nat.lt_succ_self i))
                              have hc := hT (i + 1) j (by omega) (Or.inr ⟨rfl, Nat.lt_succ_self j⟩)
                              have hv : (1 : Int32) = z_ (ft_ (nf_ V (nu p)) (V 21) (i + 1) (j + 1)) := by
                                refine (z_p ?_).symm
                                rw [ft_ss]
                                clear C hM ih ih2 hT
                                simp only [hfi] at *
                                grind [z_p, z_n, z_0, z_1]
                              rw [nI_1]
                              exact ih2 ((j + 1) + 1, h) ⟨by show (j + 1) + 1 ≤ _; omega, _, by rw [vs_vs] at hM; exact hM, ti_u hT hA2 (by omega) hv⟩ (by show _ - ((j + 1) + 1) < _ - (j + 1); omega)
                          ·
                            refine wk_run C k_MD_fits_145 (pc2 := 148) (lv2 := [(6, .int 1), (5, .int (V 12 (20 * nu p + i))), (0, .ref y), (1, .int p), (2, .int (V 13 (nu p))), (3, .int (nI (i + 1))), (4, .int (nI (j + 1)))]) (st2 := [.ref y, .int (V 12 (20 * nu p + i))]) rfl ?_
                            refine wk_get (v := .ref (A 21)) C fd_MD_62 hM.ob rfl d_MD_fits_148 ?_
                            refine wk_run C k_MD_fits_151 (pc2 := 155) (lv2 := [(6, .int 1), (5, .int (V 12 (20 * nu p + i))), (0, .ref y), (1, .int p), (2, .int (V 13 (nu p))), (3, .int (nI (i + 1))), (4, .int (nI (j + 1)))]) (st2 := [.int ((nI (j + 1)) - 1), .ref (A 21), .int (V 12 (20 * nu p + i))]) rfl ?_
                            refine wm_ld C hM 21 (j := j) rfl (ixe (N := 20) (show (nI (j + 1)) - 1 = nI (j) from ej) (by omega) (by decide)).1 (ixe (N := 20) (show (nI (j + 1)) - 1 = nI (j) from ej) (by omega) (by decide)).2 d_MD_fits_155 ?_
                            show Wk _ _ _ _ _ _ _ _ _ _ _ _ _ _ _ _ _ _ _ (.int (V 21 j) :: _)
                            refine wk_br C d_MD_fits_156 (P := ¬ (V 12 (20 * nu p + i)) = (V 21 j)) (tgt := 182) (rest := []) rfl (by decide) (fun c78 => ?_) (fun c78 => ?_)
                            ·
                              refine wk_run C k_MD_fits_182 (pc2 := 186) (lv2 := [(6, .int 0), (5, .int (V 12 (20 * nu p + i))), (0, .ref y), (1, .int p), (2, .int (V 13 (nu p))), (3, .int (nI (i + 1))), (4, .int (nI (j + 1)))]) (st2 := [.ref y]) rfl ?_
                              refine wk_get (v := .ref (A 26)) C fd_MD_68 hM.ob rfl d_MD_fits_186 ?_
                              refine wk_run C k_MD_fits_189 (pc2 := 198) (lv2 := [(6, .int 0), (5, .int (V 12 (20 * nu p + i))), (0, .ref y), (1, .int p), (2, .int (V 13 (nu p))), (3, .int (nI (i + 1))), (4, .int (nI (j + 1)))]) (st2 := [.int 0, .int ((21 * (nI (i + 1))) + (nI (j + 1))), .ref (A 26)]) rfl ?_
                              refine wm_stz C hM 26 (j := (21 * (i + 1) + (j + 1))) rfl (ixe (N := 441) (show (21 * (nI (i + 1))) + (nI (j + 1)) = nI (21 * (i + 1) + (j + 1)) from by rw [show (21 : Int32) = nI 21 from rfl, nI_mul, nI_add]) (by omega) (by decide)).1 (ixe (N := 441) (show (21 * (nI (i + 1))) + (nI (j + 1)) = nI (21 * (i + 1) + (j + 1)) from by rw [show (21 : Int32) = nI 21 from rfl, nI_mul, nI_add]) (by omega) (by decide)).2 (by rfl) d_MD_fits_198 (fun h (hM : mq D h0 h y A (vs (vs V 26 F) 26 (upd (F) (21 * (i + 1) + (j + 1)) 0))) => ?_)
                              refine wk_run C k_MD_fits_199 (pc2 := 202) (lv2 := [(4, .int ((nI (j + 1)) + 1)), (6, .int 0), (5, .int (V 12 (20 * nu p + i))), (0, .ref y), (1, .int p), (2, .int (V 13 (nu p))), (3, .int (nI (i + 1)))]) (st2 := []) rfl ?_
                              refine wk_goto C d_MD_fits_202 (tgt := 17) (by decide) ?_
                              refine Wk.sub (lv2 := [(0, .ref y), (1, .int p), (2, .int (V 13 (nu p))), (3, .int (nI (i + 1))), (4, .int ((nI (j + 1)) + 1))]) [3, 4, 5, 6, 0] rfl ?_
                              have hfi : V 12 (20 * nu p + i) = nf_ V (nu p) i := rfl
                              have ha := hT i (j + 1) (by omega) (Or.inl (Nat.lt_succ_self i))
                              have hb := hT i j (by omega) (Or.inl (Nat.lt_succ_self i))
                              have hc := hT (i + 1) j (by omega) (Or.inr ⟨rfl, Nat.lt_succ_self j⟩)
                              have hv : (0 : Int32) = z_ (ft_ (nf_ V (nu p)) (V 21) (i + 1) (j + 1)) := by
                                refine (z_n ?_).symm
                                rw [ft_ss]
                                clear C hM ih ih2 hT
                                simp only [hfi] at *
                                grind [z_p, z_n, z_0, z_1]
                              rw [nI_1]
                              exact ih2 ((j + 1) + 1, h) ⟨by show (j + 1) + 1 ≤ _; omega, _, by rw [vs_vs] at hM; exact hM, ti_u hT hA2 (by omega) hv⟩ (by show _ - ((j + 1) + 1) < _ - (j + 1); omega)
                            ·
                              refine wk_run C k_MD_fits_159 (pc2 := 160) (lv2 := [(6, .int 1), (5, .int (V 12 (20 * nu p + i))), (0, .ref y), (1, .int p), (2, .int (V 13 (nu p))), (3, .int (nI (i + 1))), (4, .int (nI (j + 1)))]) (st2 := [.ref y]) rfl ?_
                              refine wk_get (v := .ref (A 26)) C fd_MD_68 hM.ob rfl d_MD_fits_160 ?_
                              refine wk_run C k_MD_fits_163 (pc2 := 174) (lv2 := [(6, .int 1), (5, .int (V 12 (20 * nu p + i))), (0, .ref y), (1, .int p), (2, .int (V 13 (nu p))), (3, .int (nI (i + 1))), (4, .int (nI (j + 1)))]) (st2 := [.int (((21 * ((nI (i + 1)) - 1)) + (nI (j + 1))) - 1), .ref (A 26)]) rfl ?_
                              refine wm_ldz C hM 26 (j := 21 * i + j) rfl (ixe (N := 441) (show ((21 * ((nI (i + 1)) - 1)) + (nI (j + 1))) - 1 = nI (21 * i + j) from by rw [ei, show (21 : Int32) = nI 21 from rfl, nI_mul, nI_add, show 21 * i + (j + 1) = (21 * i + j) + 1 from rfl, nI_pred]) (by omega) (by decide)).1 (ixe (N := 441) (show ((21 * ((nI (i + 1)) - 1)) + (nI (j + 1))) - 1 = nI (21 * i + j) from by rw [ei, show (21 : Int32) = nI 21 from rfl, nI_mul, nI_add, show 21 * i + (j + 1) = (21 * i + j) + 1 from rfl, nI_pred]) (by omega) (by decide)).2 d_MD_fits_174 ?_
                              show Wk _ _ _ _ _ _ _ _ _ _ _ _ _ _ _ _ _ _ _ (.int (F (21 * i + j)) :: _)
                              refine wk_br C d_MD_fits_175 (P := (F (21 * i + j)) = 0) (tgt := 182) (rest := []) rfl (by decide) (fun c79 => ?_) (fun c79 => ?_)
                              ·
                                refine wk_run C k_MD_fits_182 (pc2 := 186) (lv2 := [(6, .int 0), (5, .int (V 12 (20 * nu p + i))), (0, .ref y), (1, .int p), (2, .int (V 13 (nu p))), (3, .int (nI (i + 1))), (4, .int (nI (j + 1)))]) (st2 := [.ref y]) rfl ?_
                                refine wk_get (v := .ref (A 26)) C fd_MD_68 hM.ob rfl d_MD_fits_186 ?_
                                refine wk_run C k_MD_fits_189 (pc2 := 198) (lv2 := [(6, .int 0), (5, .int (V 12 (20 * nu p + i))), (0, .ref y), (1, .int p), (2, .int (V 13 (nu p))), (3, .int (nI (i + 1))), (4, .int (nI (j + 1)))]) (st2 := [.int 0, .int ((21 * (nI (i + 1))) + (nI (j + 1))), .ref (A 26)]) rfl ?_
                                refine wm_stz C hM 26 (j := (21 * (i + 1) + (j + 1))) rfl (ixe (N := 441) (show (21 * (nI (i + 1))) + (nI (j + 1)) = nI (21 * (i + 1) + (j + 1)) from by rw [show (21 : Int32) = nI 21 from rfl, nI_mul, nI_add]) (by omega) (by decide)).1 (ixe (N := 441) (show (21 * (nI (i + 1))) + (nI (j + 1)) = nI (21 * (i + 1) + (j + 1)) from by rw [show (21 : Int32) = nI 21 from rfl, nI_mul, nI_add]) (by omega) (by decide)).2 (by rfl) d_MD_fits_198 (fun h (hM : mq D h0 h y A (vs (vs V 26 F) 26 (upd (F) (21 * (i + 1) + (j + 1)) 0))) => ?_)
                                refine wk_run C k_MD_fits_199 (pc2 := 202) (lv2 := [(4, .int ((nI (j + 1)) + 1)), (6, .int 0), (5, .int (V 12 (20 * nu p + i))), (0, .ref y), (1, .int p), (2, .int (V 13 (nu p))), (3, .int (nI (i + 1)))]) (st2 := []) rfl ?_
                                refine wk_goto C d_MD_fits_202 (tgt := 17) (by decide) ?_
                                refine Wk.sub (lv2 := [(0, .ref y), (1, .int p), (2, .int (V 13 (nu p))), (3, .int (nI (i + 1))), (4, .int ((nI (j + 1)) + 1))]) [3, 4, 5, 6, 0] rfl ?_
                                have hfi : V 12 (20 * nu p + i) = nf_ V (nu p) i := rfl
                                have ha := hT i (j + 1) (by omega) (Or.inl (Nat.lt_succ_self i))
                                have hb := hT i j (by omega) (Or.inl (Nat.lt_succ_self i))
                                have hc := hT (i + 1) j (by omega) (Or.inr ⟨rfl, Nat.lt_succ_self j⟩)
                                have hv : (0 : Int32) = z_ (ft_ (nf_ V (nu p)) (V 21) (i + 1) (j + 1)) := by
                                  refine (z_n ?_).symm
                                  rw [ft_ss]
                                  clear C hM ih ih2 hT
                                  simp only [hfi] at *
                                  grind [z_p, z_n, z_0, z_1]
                                rw [nI_1]
                                exact ih2 ((j + 1) + 1, h) ⟨by show (j + 1) + 1 ≤ _; omega, _, by rw [vs_vs] at hM; exact hM, ti_u hT hA2 (by omega) hv⟩ (by show _ - ((j + 1) + 1) < _ - (j + 1); omega)
                              ·
                                refine wk_run C k_MD_fits_178 (pc2 := 179) (lv2 := [(6, .int 1), (5, .int (V 12 (20 * nu p + i))), (0, .ref y), (1, .int p), (2, .int (V 13 (nu p))), (3, .int (nI (i + 1))), (4, .int (nI (j + 1)))]) (st2 := [.int 1]) rfl ?_
                                refine wk_goto C d_MD_fits_179 (tgt := 183) (by decide) ?_
                                refine wk_run C k_MD_fits_183 (pc2 := 186) (lv2 := [(6, .int 1), (5, .int (V 12 (20 * nu p + i))), (0, .ref y), (1, .int p), (2, .int (V 13 (nu p))), (3, .int (nI (i + 1))), (4, .int (nI (j + 1)))]) (st2 := [.ref y]) rfl ?_
                                refine wk_get (v := .ref (A 26)) C fd_MD_68 hM.ob rfl d_MD_fits_186 ?_
                                refine wk_run C k_MD_fits_189 (pc2 := 198) (lv2 := [(6, .int 1), (5, .int (V 12 (20 * nu p + i))), (0, .ref y), (1, .int p), (2, .int (V 13 (nu p))), (3, .int (nI (i + 1))), (4, .int (nI (j + 1)))]) (st2 := [.int 1, .int ((21 * (nI (i + 1))) + (nI (j + 1))), .ref (A 26)]) rfl ?_
                                refine wm_stz C hM 26 (j := (21 * (i + 1) + (j + 1))) rfl (ixe (N := 441) (show (21 * (nI (i + 1))) + (nI (j + 1)) = nI (21 * (i + 1) + (j + 1)) from by rw [show (21 : Int32) = nI 21 from rfl, nI_mul, nI_add]) (by omega) (by decide)).1 (ixe (N := 441) (show (21 * (nI (i + 1))) + (nI (j + 1)) = nI (21 * (i + 1) + (j + 1)) from by rw [show (21 : Int32) = nI 21 from rfl, nI_mul, nI_add]) (by omega) (by decide)).2 (by rfl) d_MD_fits_198 (fun h (hM : mq D h0 h y A (vs (vs V 26 F) 26 (upd (F) (21 * (i + 1) + (j + 1)) 1))) => ?_)
                                refine wk_run C k_MD_fits_199 (pc2 := 202) (lv2 := [(4, .int ((nI (j + 1)) + 1)), (6, .int 1), (5, .int (V 12 (20 * nu p + i))), (0, .ref y), (1, .int p), (2, .int (V 13 (nu p))), (3, .int (nI (i + 1)))]) (st2 := []) rfl ?_
                                refine wk_goto C d_MD_fits_202 (tgt := 17) (by decide) ?_
                                refine Wk.sub (lv2 := [(0, .ref y), (1, .int p), (2, .int (V 13 (nu p))), (3, .int (nI (i + 1))), (4, .int ((nI (j + 1)) + 1))]) [3, 4, 5, 6, 0] rfl ?_
                                have hfi : V 12 (20 * nu p + i) = nf_ V (nu p) i := rfl
                                have ha := hT i (j + 1) (by omega) (Or.inl (Nat.lt_succ_self i))
                                have hb := hT i j (by omega) (Or.inl (Nat.lt_succ_self i))
                                have hc := hT (i + 1) j (by omega) (Or.inr ⟨rfl, Nat.lt_succ_self j⟩)
                                have hv : (1 : Int32) = z_ (ft_ (nf_ V (nu p)) (V 21) (i + 1) (j + 1)) := by
                                  refine (z_p ?_).symm
                                  rw [ft_ss]
                                  clear C hM ih ih2 hT
                                  simp only [hfi] at *
                                  grind [z_p, z_n, z_0, z_1]
                                rw [nI_1]
                                exact ih2 ((j + 1) + 1, h) ⟨by show (j + 1) + 1 ≤ _; omega, _, by rw [vs_vs] at hM; exact hM, ti_u hT hA2 (by omega) hv⟩ (by show _ - ((j + 1) + 1) < _ - (j + 1); omega)
                  ·
                    refine wk_run C k_MD_fits_93 (pc2 := 95) (lv2 := [(6, .int 0), (5, .int (V 12 (20 * nu p + i))), (0, .ref y), (1, .int p), (2, .int (V 13 (nu p))), (3, .int (nI (i + 1))), (4, .int (nI (j + 1)))]) (st2 := [.int (nI (j + 1))]) rfl ?_
                    refine wk_br C d_MD_fits_95 (P := (nI (j + 1)) ≤ 0) (tgt := 119) (rest := []) rfl (by decide) (fun c80 => ?_) (fun c80 => ?_)
                    ·
                      exact absurd c80 hj1
                    ·
                      refine wk_run C k_MD_fits_98 (pc2 := 99) (lv2 := [(6, .int 0), (5, .int (V 12 (20 * nu p + i))), (0, .ref y), (1, .int p), (2, .int (V 13 (nu p))), (3, .int (nI (i + 1))), (4, .int (nI (j + 1)))]) (st2 := [.ref y]) rfl ?_
                      refine wk_get (v := .ref (A 26)) C fd_MD_68 hM.ob rfl d_MD_fits_99 ?_
                      refine wk_run C k_MD_fits_102 (pc2 := 111) (lv2 := [(6, .int 0), (5, .int (V 12 (20 * nu p + i))), (0, .ref y), (1, .int p), (2, .int (V 13 (nu p))), (3, .int (nI (i + 1))), (4, .int (nI (j + 1)))]) (st2 := [.int (((21 * (nI (i + 1))) + (nI (j + 1))) - 1), .ref (A 26)]) rfl ?_
                      refine wm_ldz C hM 26 (j := 21 * (i + 1) + j) rfl (ixe (N := 441) (show ((21 * (nI (i + 1))) + (nI (j + 1))) - 1 = nI (21 * (i + 1) + j) from by rw [show (21 : Int32) = nI 21 from rfl, nI_mul, nI_add, show 21 * (i + 1) + (j + 1) = (21 * (i + 1) + j) + 1 from rfl, nI_pred]) (by omega) (by decide)).1 (ixe (N := 441) (show ((21 * (nI (i + 1))) + (nI (j + 1))) - 1 = nI (21 * (i + 1) + j) from by rw [show (21 : Int32) = nI 21 from rfl, nI_mul, nI_add, show 21 * (i + 1) + (j + 1) = (21 * (i + 1) + j) + 1 from rfl, nI_pred]) (by omega) (by decide)).2 d_MD_fits_111 ?_
                      show Wk _ _ _ _ _ _ _ _ _ _ _ _ _ _ _ _ _ _ _ (.int (F (21 * (i + 1) + j)) :: _)
                      refine wk_br C d_MD_fits_112 (P := (F (21 * (i + 1) + j)) = 0) (tgt := 119) (rest := []) rfl (by decide) (fun c81 => ?_) (fun c81 => ?_)
                      ·
                        refine wk_run C k_MD_fits_119 (pc2 := 123) (lv2 := [(6, .int 0), (5, .int (V 12 (20 * nu p + i))), (0, .ref y), (1, .int p), (2, .int (V 13 (nu p))), (3, .int (nI (i + 1))), (4, .int (nI (j + 1)))]) (st2 := [.int (nI (i + 1))]) rfl ?_
                        refine wk_br C d_MD_fits_123 (P := (nI (i + 1)) ≤ 0) (tgt := 185) (rest := []) rfl (by decide) (fun c82 => ?_) (fun c82 => ?_)
                        ·
                          exact absurd c82 hi1
                        ·
                          refine wk_run C k_MD_fits_126 (pc2 := 128) (lv2 := [(6, .int 0), (5, .int (V 12 (20 * nu p + i))), (0, .ref y), (1, .int p), (2, .int (V 13 (nu p))), (3, .int (nI (i + 1))), (4, .int (nI (j + 1)))]) (st2 := [.int (nI (j + 1))]) rfl ?_
                          refine wk_br C d_MD_fits_128 (P := (nI (j + 1)) ≤ 0) (tgt := 185) (rest := []) rfl (by decide) (fun c83 => ?_) (fun c83 => ?_)
                          ·
                            exact absurd c83 hj1
                          ·
                            refine wk_run C k_MD_fits_131 (pc2 := 135) (lv2 := [(6, .int 0), (5, .int (V 12 (20 * nu p + i))), (0, .ref y), (1, .int p), (2, .int (V 13 (nu p))), (3, .int (nI (i + 1))), (4, .int (nI (j + 1)))]) (st2 := [.int 42, .int (V 12 (20 * nu p + i))]) rfl ?_
                            refine wk_br C d_MD_fits_135 (P := (V 12 (20 * nu p + i)) = 42) (tgt := 185) (rest := []) rfl (by decide) (fun c84 => ?_) (fun c84 => ?_)
                            ·
                              refine wk_run C k_MD_fits_185 (pc2 := 186) (lv2 := [(6, .int 0), (5, .int (V 12 (20 * nu p + i))), (0, .ref y), (1, .int p), (2, .int (V 13 (nu p))), (3, .int (nI (i + 1))), (4, .int (nI (j + 1)))]) (st2 := [.ref y]) rfl ?_
                              refine wk_get (v := .ref (A 26)) C fd_MD_68 hM.ob rfl d_MD_fits_186 ?_
                              refine wk_run C k_MD_fits_189 (pc2 := 198) (lv2 := [(6, .int 0), (5, .int (V 12 (20 * nu p + i))), (0, .ref y), (1, .int p), (2, .int (V 13 (nu p))), (3, .int (nI (i + 1))), (4, .int (nI (j + 1)))]) (st2 := [.int 0, .int ((21 * (nI (i + 1))) + (nI (j + 1))), .ref (A 26)]) rfl ?_
                              refine wm_stz C hM 26 (j := (21 * (i + 1) + (j + 1))) rfl (ixe (N := 441) (show (21 * (nI (i + 1))) + (nI (j + 1)) = nI (21 * (i + 1) + (j + 1)) from by rw [show (21 : Int32) = nI 21 from rfl, nI_mul, nI_add]) (by omega) (by decide)).1 (ixe (N := 441) (show (21 * (nI (i + 1))) + (nI (j + 1)) = nI (21 * (i + 1) + (j + 1)) from by rw [show (21 : Int32) = nI 21 from rfl, nI_mul, nI_add]) (by omega) (by decide)).2 (by rfl) d_MD_fits_198 (fun h (hM : mq D h0 h y A (vs (vs V 26 F) 26 (upd (F) (21 * (i + 1) + (j + 1)) 0))) => ?_)
                              refine wk_run C k_MD_fits_199 (pc2 := 202) (lv2 := [(4, .int ((nI (j + 1)) + 1)), (6, .int 0), (5, .int (V 12 (20 * nu p + i))), (0, .ref y), (1, .int p), (2, .int (V 13 (nu p))), (3, .int (nI (i + 1)))]) (st2 := []) rfl ?_
                              refine wk_goto C d_MD_fits_202 (tgt := 17) (by decide) ?_
                              refine Wk.sub (lv2 := [(0, .ref y), (1, .int p), (2, .int (V 13 (nu p))), (3, .int (nI (i + 1))), (4, .int ((nI (j + 1)) + 1))]) [3, 4, 5, 6, 0] rfl ?_
                              have hfi : V 12 (20 * nu p + i) = nf_ V (nu p) i := rfl
                              have ha := hT i (j + 1) (by omega) (Or.inl (Nat.lt_succ_self i))
                              have hb := hT i j (by omega) (Or.inl (Nat.lt_succ_self i))
                              have hc := hT (i + 1) j (by omega) (Or.inr ⟨rfl, Nat.lt_succ_self j⟩)
                              have hv : (0 : Int32) = z_ (ft_ (nf_ V (nu p)) (V 21) (i + 1) (j + 1)) := by
                                refine (z_n ?_).symm
                                rw [ft_ss]
                                clear C hM ih ih2 hT
                                simp only [hfi] at *
                                grind [z_p, z_n, z_0, z_1]
                              rw [nI_1]
                              exact ih2 ((j + 1) + 1, h) ⟨by show (j + 1) + 1 ≤ _; omega, _, by rw [vs_vs] at hM; exact hM, ti_u hT hA2 (by omega) hv⟩ (by show _ - ((j + 1) + 1) < _ - (j + 1); omega)
                            ·
                              refine wk_run C k_MD_fits_138 (pc2 := 142) (lv2 := [(6, .int 0), (5, .int (V 12 (20 * nu p + i))), (0, .ref y), (1, .int p), (2, .int (V 13 (nu p))), (3, .int (nI (i + 1))), (4, .int (nI (j + 1)))]) (st2 := [.int 37, .int (V 12 (20 * nu p + i))]) rfl ?_
                              refine wk_br C d_MD_fits_142 (P := (V 12 (20 * nu p + i)) = 37) (tgt := 159) (rest := []) rfl (by decide) (fun c85 => ?_) (fun c85 => ?_)
                              ·
                                refine wk_run C k_MD_fits_159 (pc2 := 160) (lv2 := [(6, .int 0), (5, .int (V 12 (20 * nu p + i))), (0, .ref y), (1, .int p), (2, .int (V 13 (nu p))), (3, .int (nI (i + 1))), (4, .int (nI (j + 1)))]) (st2 := [.ref y]) rfl ?_
                                refine wk_get (v := .ref (A 26)) C fd_MD_68 hM.ob rfl d_MD_fits_160 ?_
                                refine wk_run C k_MD_fits_163 (pc2 := 174) (lv2 := [(6, .int 0), (5, .int (V 12 (20 * nu p + i))), (0, .ref y), (1, .int p), (2, .int (V 13 (nu p))), (3, .int (nI (i + 1))), (4, .int (nI (j + 1)))]) (st2 := [.int (((21 * ((nI (i + 1)) - 1)) + (nI (j + 1))) - 1), .ref (A 26)]) rfl ?_
                                refine wm_ldz C hM 26 (j := 21 * i + j) rfl (ixe (N := 441) (show ((21 * ((nI (i + 1)) - 1)) + (nI (j + 1))) - 1 = nI (21 * i + j) from by rw [ei, show (21 : Int32) = nI 21 from rfl, nI_mul, nI_add, show 21 * i + (j + 1) = (21 * i + j) + 1 from rfl, nI_pred]) (by omega) (by decide)).1 (ixe (N := 441) (show ((21 * ((nI (i + 1)) - 1)) + (nI (j + 1))) - 1 = nI (21 * i + j) from by rw [ei, show (21 : Int32) = nI 21 from rfl, nI_mul, nI_add, show 21 * i + (j + 1) = (21 * i + j) + 1 from rfl, nI_pred]) (by omega) (by decide)).2 d_MD_fits_174 ?_
                                show Wk _ _ _ _ _ _ _ _ _ _ _ _ _ _ _ _ _ _ _ (.int (F (21 * i + j)) :: _)
                                refine wk_br C d_MD_fits_175 (P := (F (21 * i + j)) = 0) (tgt := 182) (rest := []) rfl (by decide) (fun c86 => ?_) (fun c86 => ?_)
                                ·
                                  refine wk_run C k_MD_fits_182 (pc2 := 186) (lv2 := [(6, .int 0), (5, .int (V 12 (20 * nu p + i))), (0, .ref y), (1, .int p), (2, .int (V 13 (nu p))), (3, .int (nI (i + 1))), (4, .int (nI (j + 1)))]) (st2 := [.ref y]) rfl ?_
                                  refine wk_get (v := .ref (A 26)) C fd_MD_68 hM.ob rfl d_MD_fits_186 ?_
                                  refine wk_run C k_MD_fits_189 (pc2 := 198) (lv2 := [(6, .int 0), (5, .int (V 12 (20 * nu p + i))), (0, .ref y), (1, .int p), (2, .int (V 13 (nu p))), (3, .int (nI (i + 1))), (4, .int (nI (j + 1)))]) (st2 := [.int 0, .int ((21 * (nI (i + 1))) + (nI (j + 1))), .ref (A 26)]) rfl ?_
                                  refine wm_stz C hM 26 (j := (21 * (i + 1) + (j + 1))) rfl (ixe (N := 441) (show (21 * (nI (i + 1))) + (nI (j + 1)) = nI (21 * (i + 1) + (j + 1)) from by rw [show (21 : Int32) = nI 21 from rfl, nI_mul, nI_add]) (by omega) (by decide)).1 (ixe (N := 441) (show (21 * (nI (i + 1))) + (nI (j + 1)) = nI (21 * (i + 1) + (j + 1)) from by rw [show (21 : Int32) = nI 21 from rfl, nI_mul, nI_add]) (by omega) (by decide)).2 (by rfl) d_MD_fits_198 (fun h (hM : mq D h0 h y A (vs (vs V 26 F) 26 (upd (F) (21 * (i + 1) + (j + 1)) 0))) => ?_)
                                  refine wk_run C k_MD_fits_199 (pc2 := 202) (lv2 := [(4, .int ((nI (j + 1)) + 1)), (6, .int 0), (5, .int (V 12 (20 * nu p + i))), (0, .ref y), (1, .int p), (2, .int (V 13 (nu p))), (3, .int (nI (i + 1)))]) (st2 := []) rfl ?_
                                  refine wk_goto C d_MD_fits_202 (tgt := 17) (by decide) ?_
                                  refine Wk.sub (lv2 := [(0, .ref y), (1, .int p), (2, .int (V 13 (nu p))), (3, .int (nI (i + 1))), (4, .int ((nI (j + 1)) + 1))]) [3, 4, 5, 6, 0] rfl ?_
                                  have hfi : V 12 (20 * nu p + i) = nf_ V (nu p) i := rfl
                                  have ha := hT i (j + 1) (by omega) (Or.inl (Nat.lt_succ_self i))
                                  have hb := hT i j (by omega) (Or.inl (Nat.lt_succ_self i))
                                  have hc := hT (i + 1) j (by omega) (Or.inr ⟨rfl, Nat.lt_succ_self j⟩)
                                  have hv : (0 : Int32) = z_ (ft_ (nf_ V (nu p)) (V 21) (i + 1) (j + 1)) := by
                                    refine (z_n ?_).symm
                                    rw [ft_ss]
                                    clear C hM ih ih2 hT
                                    simp only [hfi] at *
                                    grind [z_p, z_n, z_0, z_1]
                                  rw [nI_1]
                                  exact ih2 ((j + 1) + 1, h) ⟨by show (j + 1) + 1 ≤ _; omega, _, by rw [vs_vs] at hM; exact hM, ti_u hT hA2 (by omega) hv⟩ (by show _ - ((j + 1) + 1) < _ - (j + 1); omega)
                                ·
                                  refine wk_run C k_MD_fits_178 (pc2 := 179) (lv2 := [(6, .int 0), (5, .int (V 12 (20 * nu p + i))), (0, .ref y), (1, .int p), (2, .int (V 13 (nu p))), (3, .int (nI (i + 1))), (4, .int (nI (j + 1)))]) (st2 := [.int 1]) rfl ?_
                                  refine wk_goto C d_MD_fits_179 (tgt := 183) (by decide) ?_
                                  refine wk_run C k_MD_fits_183 (pc2 := 186) (lv2 := [(6, .int 1), (5, .int (V 12 (20 * nu p + i))), (0, .ref y), (1, .int p), (2, .int (V 13 (nu p))), (3, .int (nI (i + 1))), (4, .int (nI (j + 1)))]) (st2 := [.ref y]) rfl ?_
                                  refine wk_get (v := .ref (A 26)) C fd_MD_68 hM.ob rfl d_MD_fits_186 ?_
                                  refine wk_run C k_MD_fits_189 (pc2 := 198) (lv2 := [(6, .int 1), (5, .int (V 12 (20 * nu p + i))), (0, .ref y), (1, .int p), (2, .int (V 13 (nu p))), (3, .int (nI (i + 1))), (4, .int (nI (j + 1)))]) (st2 := [.int 1, .int ((21 * (nI (i + 1))) + (nI (j + 1))), .ref (A 26)]) rfl ?_
                                  refine wm_stz C hM 26 (j := (21 * (i + 1) + (j + 1))) rfl (ixe (N := 441) (show (21 * (nI (i + 1))) + (nI (j + 1)) = nI (21 * (i + 1) + (j + 1)) from by rw [show (21 : Int32) = nI 21 from rfl, nI_mul, nI_add]) (by omega) (by decide)).1 (ixe (N := 441) (show (21 * (nI (i + 1))) + (nI (j + 1)) = nI (21 * (i + 1) + (j + 1)) from by rw [show (21 : Int32) = nI 21 from rfl, nI_mul, nI_add]) (by omega) (by decide)).2 (by rfl) d_MD_fits_198 (fun h (hM : mq D h0 h y A (vs (vs V 26 F) 26 (upd (F) (21 * (i + 1) + (j + 1)) 1))) => ?_)
                                  refine wk_run C k_MD_fits_199 (pc2 := 202) (lv2 := [(4, .int ((nI (j + 1)) + 1)), (6, .int 1), (5, .int (V 12 (20 * nu p + i))), (0, .ref y), (1, .int p), (2, .int (V 13 (nu p))), (3, .int (nI (i + 1)))]) (st2 := []) rfl ?_
                                  refine wk_goto C d_MD_fits_202 (tgt := 17) (by decide) ?_
                                  refine Wk.sub (lv2 := [(0, .ref y), (1, .int p), (2, .int (V 13 (nu p))), (3, .int (nI (i + 1))), (4, .int ((nI (j + 1)) + 1))]) [3, 4, 5, 6, 0] rfl ?_
                                  have hfi : V 12 (20 * nu p + i) = nf_ V (nu p) i := rfl
                                  have ha := hT i (j + 1) (by omega) (Or.inl (Nat.lt_succ_self i))
                                  have hb := hT i j (by omega) (Or.inl (Nat.lt_succ_self i))
                                  have hc := hT (i + 1) j (by omega) (Or.inr ⟨rfl, Nat.lt_succ_self j⟩)
                                  have hv : (1 : Int32) = z_ (ft_ (nf_ V (nu p)) (V 21) (i + 1) (j + 1)) := by
                                    refine (z_p ?_).symm
                                    rw [ft_ss]
                                    clear C hM ih ih2 hT
                                    simp only [hfi] at *
                                    grind [z_p, z_n, z_0, z_1]
                                  rw [nI_1]
                                  exact ih2 ((j + 1) + 1, h) ⟨by show (j + 1) + 1 ≤ _; omega, _, by rw [vs_vs] at hM; exact hM, ti_u hT hA2 (by omega) hv⟩ (by show _ - ((j + 1) + 1) < _ - (j + 1); omega)
                              ·
                                refine wk_run C k_MD_fits_145 (pc2 := 148) (lv2 := [(6, .int 0), (5, .int (V 12 (20 * nu p + i))), (0, .ref y), (1, .int p), (2, .int (V 13 (nu p))), (3, .int (nI (i + 1))), (4, .int (nI (j + 1)))]) (st2 := [.ref y, .int (V 12 (20 * nu p + i))]) rfl ?_
                                refine wk_get (v := .ref (A 21)) C fd_MD_62 hM.ob rfl d_MD_fits_148 ?_
                                refine wk_run C k_MD_fits_151 (pc2 := 155) (lv2 := [(6, .int 0), (5, .int (V 12 (20 * nu p + i))), (0, .ref y), (1, .int p), (2, .int (V 13 (nu p))), (3, .int (nI (i + 1))), (4, .int (nI (j + 1)))]) (st2 := [.int ((nI (j + 1)) - 1), .ref (A 21), .int (V 12 (20 * nu p + i))]) rfl ?_
                                refine wm_ld C hM 21 (j := j) rfl (ixe (N := 20) (show (nI (j + 1)) - 1 = nI (j) from ej) (by omega) (by decide)).1 (ixe (N := 20) (show (nI (j + 1)) - 1 = nI (j) from ej) (by omega) (by decide)).2 d_MD_fits_155 ?_
                                show Wk _ _ _ _ _ _ _ _ _ _ _ _ _ _ _ _ _ _ _ (.int (V 21 j) :: _)
                                refine wk_br C d_MD_fits_156 (P := ¬ (V 12 (20 * nu p + i)) = (V 21 j)) (tgt := 182) (rest := []) rfl (by decide) (fun c87 => ?_) (fun c87 => ?_)
                                ·
                                  refine wk_run C k_MD_fits_182 (pc2 := 186) (lv2 := [(6, .int 0), (5, .int (V 12 (20 * nu p + i))), (0, .ref y), (1, .int p), (2, .int (V 13 (nu p))), (3, .int (nI (i + 1))), (4, .int (nI (j + 1)))]) (st2 := [.ref y]) rfl ?_
                                  refine wk_get (v := .ref (A 26)) C fd_MD_68 hM.ob rfl d_MD_fits_186 ?_
                                  refine wk_run C k_MD_fits_189 (pc2 := 198) (lv2 := [(6, .int 0), (5, .int (V 12 (20 * nu p + i))), (0, .ref y), (1, .int p), (2, .int (V 13 (nu p))), (3, .int (nI (i + 1))), (4, .int (nI (j + 1)))]) (st2 := [.int 0, .int ((21 * (nI (i + 1))) + (nI (j + 1))), .ref (A 26)]) rfl ?_
                                  refine wm_stz C hM 26 (j := (21 * (i + 1) + (j + 1))) rfl (ixe (N := 441) (show (21 * (nI (i + 1))) + (nI (j + 1)) = nI (21 * (i + 1) + (j + 1)) from by rw [show (21 : Int32) = nI 21 from rfl, nI_mul, nI_add]) (by omega) (by decide)).1 (ixe (N := 441) (show (21 * (nI (i + 1))) + (nI (j + 1)) = nI (21 * (i + 1) + (j + 1)) from by rw [show (21 : Int32) = nI 21 from rfl, nI_mul, nI_add]) (by omega) (by decide)).2 (by rfl) d_MD_fits_198 (fun h (hM : mq D h0 h y A (vs (vs V 26 F) 26 (upd (F) (21 * (i + 1) + (j + 1)) 0))) => ?_)
                                  refine wk_run C k_MD_fits_199 (pc2 := 202) (lv2 := [(4, .int ((nI (j + 1)) + 1)), (6, .int 0), (5, .int (V 12 (20 * nu p + i))), (0, .ref y), (1, .int p), (2, .int (V 13 (nu p))), (3, .int (nI (i + 1)))]) (st2 := []) rfl ?_
                                  refine wk_goto C d_MD_fits_202 (tgt := 17) (by decide) ?_
                                  refine Wk.sub (lv2 := [(0, .ref y), (1, .int p), (2, .int (V 13 (nu p))), (3, .int (nI (i + 1))), (4, .int ((nI (j + 1)) + 1))]) [3, 4, 5, 6, 0] rfl ?_
                                  have hfi : V 12 (20 * nu p + i) = nf_ V (nu p) i := rfl
                                  have ha := hT i (j + 1) (by omega) (Or.inl (Nat.lt_succ_self i))
                                  have hb := hT i j (by omega) (Or.inl (Nat.lt_succ_self i))
                                  have hc := hT (i + 1) j (by omega) (Or.inr ⟨rfl, Nat.lt_succ_self j⟩)
                                  have hv : (0 : Int32) = z_ (ft_ (nf_ V (nu p)) (V 21) (i + 1) (j + 1)) := by
                                    refine (z_n ?_).symm
                                    rw [ft_ss]
                                    clear C hM ih ih2 hT
                                    simp only [hfi] at *
                                    grind [z_p, z_n, z_0, z_1]
                                  rw [nI_1]
                                  exact ih2 ((j + 1) + 1, h) ⟨by show (j + 1) + 1 ≤ _; omega, _, by rw [vs_vs] at hM; exact hM, ti_u hT hA2 (by omega) hv⟩ (by show _ - ((j + 1) + 1) < _ - (j + 1); omega)
                                ·
                                  refine wk_run C k_MD_fits_159 (pc2 := 160) (lv2 := [(6, .int 0), (5, .int (V 12 (20 * nu p + i))), (0, .ref y), (1, .int p), (2, .int (V 13 (nu p))), (3, .int (nI (i + 1))), (4, .int (nI (j + 1)))]) (st2 := [.ref y]) rfl ?_
                                  refine wk_get (v := .ref (A 26)) C fd_MD_68 hM.ob rfl d_MD_fits_160 ?_
                                  refine wk_run C k_MD_fits_163 (pc2 := 174) (lv2 := [(6, .int 0), (5, .int (V 12 (20 * nu p + i))), (0, .ref y), (1, .int p), (2, .int (V 13 (nu p))), (3, .int (nI (i + 1))), (4, .int (nI (j + 1)))]) (st2 := [.int (((21 * ((nI (i + 1)) - 1)) + (nI (j + 1))) - 1), .ref (A 26)]) rfl ?_
                                  refine wm_ldz C hM 26 (j := 21 * i + j) rfl (ixe (N := 441) (show ((21 * ((nI (i + 1)) - 1)) + (nI (j + 1))) - 1 = nI (21 * i + j) from by rw [ei, show (21 : Int32) = nI 21 from rfl, nI_mul, nI_add, show 21 * i + (j + 1) = (21 * i + j) + 1 from rfl, nI_pred]) (by omega) (by decide)).1 (ixe (N := 441) (show ((21 * ((nI (i + 1)) - 1)) + (nI (j + 1))) - 1 = nI (21 * i + j) from by rw [ei, show (21 : Int32) = nI 21 from rfl, nI_mul, nI_add, show 21 * i + (j + 1) = (21 * i + j) + 1 from rfl, nI_pred]) (by omega) (by decide)).2 d_MD_fits_174 ?_
                                  show Wk _ _ _ _ _ _ _ _ _ _ _ _ _ _ _ _ _ _ _ (.int (F (21 * i + j)) :: _)
                                  refine wk_br C d_MD_fits_175 (P := (F (21 * i + j)) = 0) (tgt := 182) (rest := []) rfl (by decide) (fun c88 => ?_) (fun c88 => ?_)
                                  ·
                                    refine wk_run C k_MD_fits_182 (pc2 := 186) (lv2 := [(6, .int 0), (5, .int (V 12 (20 * nu p + i))), (0, .ref y), (1, .int p), (2, .int (V 13 (nu p))), (3, .int (nI (i + 1))), (4, .int (nI (j + 1)))]) (st2 := [.ref y]) rfl ?_
                                    refine wk_get (v := .ref (A 26)) C fd_MD_68 hM.ob rfl d_MD_fits_186 ?_
                                    refine wk_run C k_MD_fits_189 (pc2 := 198) (lv2 := [(6, .int 0), (5, .int (V 12 (20 * nu p + i))), (0, .ref y), (1, .int p), (2, .int (V 13 (nu p))), (3, .int (nI (i + 1))), (4, .int (nI (j + 1)))]) (st2 := [.int 0, .int ((21 * (nI (i + 1))) + (nI (j + 1))), .ref (A 26)]) rfl ?_
                                    refine wm_stz C hM 26 (j := (21 * (i + 1) + (j + 1))) rfl (ixe (N := 441) (show (21 * (nI (i + 1))) + (nI (j + 1)) = nI (21 * (i + 1) + (j + 1)) from by rw [show (21 : Int32) = nI 21 from rfl, nI_mul, nI_add]) (by omega) (by decide)).1 (ixe (N := 441) (show (21 * (nI (i + 1))) + (nI (j + 1)) = nI (21 * (i + 1) + (j + 1)) from by rw [show (21 : Int32) = nI 21 from rfl, nI_mul, nI_add]) (by omega) (by decide)).2 (by rfl) d_MD_fits_198 (fun h (hM : mq D h0 h y A (vs (vs V 26 F) 26 (upd (F) (21 * (i + 1) + (j + 1)) 0))) => ?_)
                                    refine wk_run C k_MD_fits_199 (pc2 := 202) (lv2 := [(4, .int ((nI (j + 1)) + 1)), (6, .int 0), (5, .int (V 12 (20 * nu p + i))), (0, .ref y), (1, .int p), (2, .int (V 13 (nu p))), (3, .int (nI (i + 1)))]) (st2 := []) rfl ?_
                                    refine wk_goto C d_MD_fits_202 (tgt := 17) (by decide) ?_
                                    refine Wk.sub (lv2 := [(0, .ref y), (1, .int p), (2, .int (V 13 (nu p))), (3, .int (nI (i + 1))), (4, .int ((nI (j + 1)) + 1))]) [3, 4, 5, 6, 0] rfl ?_
                                    have hfi : V 12 (20 * nu p + i) = nf_ V (nu p) i := rfl
                                    have ha := hT i (j + 1) (by omega) (Or.inl (Nat.lt_succ_self i))
                                    have hb := hT i j (by omega) (Or.inl (Nat.lt_succ_self i))
                                    have hc := hT (i + 1) j (by omega) (Or.inr ⟨rfl, Nat.lt_succ_self j⟩)
                                    have hv : (0 : Int32) = z_ (ft_ (nf_ V (nu p)) (V 21) (i + 1) (j + 1)) := by
                                      refine (z_n ?_).symm
                                      rw [ft_ss]
                                      clear C hM ih ih2 hT
                                      simp only [hfi] at *
                                      grind [z_p, z_n, z_0, z_1]
                                    rw [nI_1]
                                    exact ih2 ((j + 1) + 1, h) ⟨by show (j + 1) + 1 ≤ _; omega, _, by rw [vs_vs] at hM; exact hM, ti_u hT hA2 (by omega) hv⟩ (by show _ - ((j + 1) + 1) < _ - (j + 1); omega)
                                  ·
                                    refine wk_run C k_MD_fits_178 (pc2 := 179) (lv2 := [(6, .int 0), (5, .int (V 12 (20 * nu p + i))), (0, .ref y), (1, .int p), (2, .int (V 13 (nu p))), (3, .int (nI (i + 1))), (4, .int (nI (j + 1)))]) (st2 := [.int 1]) rfl ?_
                                    refine wk_goto C d_MD_fits_179 (tgt := 183) (by decide) ?_
                                    refine wk_run C k_MD_fits_183 (pc2 := 186) (lv2 := [(6, .int 1), (5, .int (V 12 (20 * nu p + i))), (0, .ref y), (1, .int p), (2, .int (V 13 (nu p))), (3, .int (nI (i + 1))), (4, .int (nI (j + 1)))]) (st2 := [.ref y]) rfl ?_
                                    refine wk_get (v := .ref (A 26)) C fd_MD_68 hM.ob rfl d_MD_fits_186 ?_
                                    refine wk_run C k_MD_fits_189 (pc2 := 198) (lv2 := [(6, .int 1), (5, .int (V 12 (20 * nu p + i))), (0, .ref y), (1, .int p), (2, .int (V 13 (nu p))), (3, .int (nI (i + 1))), (4, .int (nI (j + 1)))]) (st2 := [.int 1, .int ((21 * (nI (i + 1))) + (nI (j + 1))), .ref (A 26)]) rfl ?_
                                    refine wm_stz C hM 26 (j := (21 * (i + 1) + (j + 1))) rfl (ixe (N := 441) (show (21 * (nI (i + 1))) + (nI (j + 1)) = nI (21 * (i + 1) + (j + 1)) from by rw [show (21 : Int32) = nI 21 from rfl, nI_mul, nI_add]) (by omega) (by decide)).1 (ixe (N := 441) (show (21 * (nI (i + 1))) + (nI (j + 1)) = nI (21 * (i + 1) + (j + 1)) from by rw [show (21 : Int32) = nI 21 from rfl, nI_mul, nI_add]) (by omega) (by decide)).2 (by rfl) d_MD_fits_198 (fun h (hM : mq D h0 h y A (vs (vs V 26 F) 26 (upd (F) (21 * (i + 1) + (j + 1)) 1))) => ?_)
                                    refine wk_run C k_MD_fits_199 (pc2 := 202) (lv2 := [(4, .int ((nI (j + 1)) + 1)), (6, .int 1), (5, .int (V 12 (20 * nu p + i))), (0, .ref y), (1, .int p), (2, .int (V 13 (nu p))), (3, .int (nI (i + 1)))]) (st2 := []) rfl ?_
                                    refine wk_goto C d_MD_fits_202 (tgt := 17) (by decide) ?_
                                    refine Wk.sub (lv2 := [(0, .ref y), (1, .int p), (2, .int (V 13 (nu p))), (3, .int (nI (i + 1))), (4, .int ((nI (j + 1)) + 1))]) [3, 4, 5, 6, 0] rfl ?_
                                    have hfi : V 12 (20 * nu p + i) = nf_ V (nu p) i := rfl
                                    have ha := hT i (j + 1) (by omega) (Or.inl (Nat.lt_succ_self i))
                                    have hb := hT i j (by omega) (Or.inl (Nat.lt_succ_self i))
                                    have hc := hT (i + 1) j (by omega) (Or.inr ⟨rfl, Nat.lt_succ_self j⟩)
                                    have hv : (1 : Int32) = z_ (ft_ (nf_ V (nu p)) (V 21) (i + 1) (j + 1)) := by
                                      refine (z_p ?_).symm
                                      rw [ft_ss]
                                      clear C hM ih ih2 hT
                                      simp only [hfi] at *
                                      grind [z_p, z_n, z_0, z_1]
                                    rw [nI_1]
                                    exact ih2 ((j + 1) + 1, h) ⟨by show (j + 1) + 1 ≤ _; omega, _, by rw [vs_vs] at hM; exact hM, ti_u hT hA2 (by omega) hv⟩ (by show _ - ((j + 1) + 1) < _ - (j + 1); omega)
                      ·
                        refine wk_run C k_MD_fits_115 (pc2 := 116) (lv2 := [(6, .int 0), (5, .int (V 12 (20 * nu p + i))), (0, .ref y), (1, .int p), (2, .int (V 13 (nu p))), (3, .int (nI (i + 1))), (4, .int (nI (j + 1)))]) (st2 := [.int 1]) rfl ?_
                        refine wk_goto C d_MD_fits_116 (tgt := 120) (by decide) ?_
                        refine wk_run C k_MD_fits_120 (pc2 := 123) (lv2 := [(6, .int 1), (5, .int (V 12 (20 * nu p + i))), (0, .ref y), (1, .int p), (2, .int (V 13 (nu p))), (3, .int (nI (i + 1))), (4, .int (nI (j + 1)))]) (st2 := [.int (nI (i + 1))]) rfl ?_
                        refine wk_br C d_MD_fits_123 (P := (nI (i + 1)) ≤ 0) (tgt := 185) (rest := []) rfl (by decide) (fun c89 => ?_) (fun c89 => ?_)
                        ·
                          exact absurd c89 hi1
                        ·
                          refine wk_run C k_MD_fits_126 (pc2 := 128) (lv2 := [(6, .int 1), (5, .int (V 12 (20 * nu p + i))), (0, .ref y), (1, .int p), (2, .int (V 13 (nu p))), (3, .int (nI (i + 1))), (4, .int (nI (j + 1)))]) (st2 := [.int (nI (j + 1))]) rfl ?_
                          refine wk_br C d_MD_fits_128 (P := (nI (j + 1)) ≤ 0) (tgt := 185) (rest := []) rfl (by decide) (fun c90 => ?_) (fun c90 => ?_)
                          ·
                            exact absurd c90 hj1
                          ·
                            refine wk_run C k_MD_fits_131 (pc2 := 135) (lv2 := [(6, .int 1), (5, .int (V 12 (20 * nu p + i))), (0, .ref y), (1, .int p), (2, .int (V 13 (nu p))), (3, .int (nI (i + 1))), (4, .int (nI (j + 1)))]) (st2 := [.int 42, .int (V 12 (20 * nu p + i))]) rfl ?_
                            refine wk_br C d_MD_fits_135 (P := (V 12 (20 * nu p + i)) = 42) (tgt := 185) (rest := []) rfl (by decide) (fun c91 => ?_) (fun c91 => ?_)
                            ·
                              refine wk_run C k_MD_fits_185 (pc2 := 186) (lv2 := [(6, .int 1), (5, .int (V 12 (20 * nu p + i))), (0, .ref y), (1, .int p), (2, .int (V 13 (nu p))), (3, .int (nI (i + 1))), (4, .int (nI (j + 1)))]) (st2 := [.ref y]) rfl ?_
                              refine wk_get (v := .ref (A 26)) C fd_MD_68 hM.ob rfl d_MD_fits_186 ?_
                              refine wk_run C k_MD_fits_189 (pc2 := 198) (lv2 := [(6, .int 1), (5, .int (V 12 (20 * nu p + i))), (0, .ref y), (1, .int p), (2, .int (V 13 (nu p))), (3, .int (nI (i + 1))), (4, .int (nI (j + 1)))]) (st2 := [.int 1, .int ((21 * (nI (i + 1))) + (nI (j + 1))), .ref (A 26)]) rfl ?_
                              refine wm_stz C hM 26 (j := (21 * (i + 1) + (j + 1))) rfl (ixe (N := 441) (show (21 * (nI (i + 1))) + (nI (j + 1)) = nI (21 * (i + 1) + (j + 1)) from by rw [show (21 : Int32) = nI 21 from rfl, nI_mul, nI_add]) (by omega) (by decide)).1 (ixe (N := 441) (show (21 * (nI (i + 1))) + (nI (j + 1)) = nI (21 * (i + 1) + (j + 1)) from by rw [show (21 : Int32) = nI 21 from rfl, nI_mul, nI_add]) (by omega) (by decide)).2 (by rfl) d_MD_fits_198 (fun h (hM : mq D h0 h y A (vs (vs V 26 F) 26 (upd (F) (21 * (i + 1) + (j + 1)) 1))) => ?_)
                              refine wk_run C k_MD_fits_199 (pc2 := 202) (lv2 := [(4, .int ((nI (j + 1)) + 1)), (6, .int 1), (5, .int (V 12 (20 * nu p + i))), (0, .ref y), (1, .int p), (2, .int (V 13 (nu p))), (3, .int (nI (i + 1)))]) (st2 := []) rfl ?_
                              refine wk_goto C d_MD_fits_202 (tgt := 17) (by decide) ?_
                              refine Wk.sub (lv2 := [(0, .ref y), (1, .int p), (2, .int (V 13 (nu p))), (3, .int (nI (i + 1))), (4, .int ((nI (j + 1)) + 1))]) [3, 4, 5, 6, 0] rfl ?_
                              have hfi : V 12 (20 * nu p + i) = nf_ V (nu p) i := rfl
                              have ha := hT i (j + 1) (by omega) (Or.inl (Nat.lt_succ_self i))
                              have hb := hT i j (by omega) (Or.inl (Nat.lt_succ_self i))
                              have hc := hT (i + 1) j (by omega) (Or.inr ⟨rfl, Nat.lt_succ_self j⟩)
                              have hv : (1 : Int32) = z_ (ft_ (nf_ V (nu p)) (V 21) (i + 1) (j + 1)) := by
                                refine (z_p ?_).symm
                                rw [ft_ss]
                                clear C hM ih ih2 hT
                                simp only [hfi] at *
                                grind [z_p, z_n, z_0, z_1]
                              rw [nI_1]
                              exact ih2 ((j + 1) + 1, h) ⟨by show (j + 1) + 1 ≤ _; omega, _, by rw [vs_vs] at hM; exact hM, ti_u hT hA2 (by omega) hv⟩ (by show _ - ((j + 1) + 1) < _ - (j + 1); omega)
                            ·
                              refine wk_run C k_MD_fits_138 (pc2 := 142) (lv2 := [(6, .int 1), (5, .int (V 12 (20 * nu p + i))), (0, .ref y), (1, .int p), (2, .int (V 13 (nu p))), (3, .int (nI (i + 1))), (4, .int (nI (j + 1)))]) (st2 := [.int 37, .int (V 12 (20 * nu p + i))]) rfl ?_
                              refine wk_br C d_MD_fits_142 (P := (V 12 (20 * nu p + i)) = 37) (tgt := 159) (rest := []) rfl (by decide) (fun c92 => ?_) (fun c92 => ?_)
                              ·
                                refine wk_run C k_MD_fits_159 (pc2 := 160) (lv2 := [(6, .int 1), (5, .int (V 12 (20 * nu p + i))), (0, .ref y), (1, .int p), (2, .int (V 13 (nu p))), (3, .int (nI (i + 1))), (4, .int (nI (j + 1)))]) (st2 := [.ref y]) rfl ?_
                                refine wk_get (v := .ref (A 26)) C fd_MD_68 hM.ob rfl d_MD_fits_160 ?_
                                refine wk_run C k_MD_fits_163 (pc2 := 174) (lv2 := [(6, .int 1), (5, .int (V 12 (20 * nu p + i))), (0, .ref y), (1, .int p), (2, .int (V 13 (nu p))), (3, .int (nI (i + 1))), (4, .int (nI (j + 1)))]) (st2 := [.int (((21 * ((nI (i + 1)) - 1)) + (nI (j + 1))) - 1), .ref (A 26)]) rfl ?_
                                refine wm_ldz C hM 26 (j := 21 * i + j) rfl (ixe (N := 441) (show ((21 * ((nI (i + 1)) - 1)) + (nI (j + 1))) - 1 = nI (21 * i + j) from by rw [ei, show (21 : Int32) = nI 21 from rfl, nI_mul, nI_add, show 21 * i + (j + 1) = (21 * i + j) + 1 from rfl, nI_pred]) (by omega) (by decide)).1 (ixe (N := 441) (show ((21 * ((nI (i + 1)) - 1)) + (nI (j + 1))) - 1 = nI (21 * i + j) from by rw [ei, show (21 : Int32) = nI 21 from rfl, nI_mul, nI_add, show 21 * i + (j + 1) = (21 * i + j) + 1 from rfl, nI_pred]) (by omega) (by decide)).2 d_MD_fits_174 ?_
                                show Wk _ _ _ _ _ _ _ _ _ _ _ _ _ _ _ _ _ _ _ (.int (F (21 * i + j)) :: _)
                                refine wk_br C d_MD_fits_175 (P := (F (21 * i + j)) = 0) (tgt := 182) (rest := []) rfl (by decide) (fun c93 => ?_) (fun c93 => ?_)
                                ·
                                  refine wk_run C k_MD_fits_182 (pc2 := 186) (lv2 := [(6, .int 0), (5, .int (V 12 (20 * nu p + i))), (0, .ref y), (1, .int p), (2, .int (V 13 (nu p))), (3, .int (nI (i + 1))), (4, .int (nI (j + 1)))]) (st2 := [.ref y]) rfl ?_
                                  refine wk_get (v := .ref (A 26)) C fd_MD_68 hM.ob rfl d_MD_fits_186 ?_
                                  refine wk_run C k_MD_fits_189 (pc2 := 198) (lv2 := [(6, .int 0), (5, .int (V 12 (20 * nu p + i))), (0, .ref y), (1, .int p), (2, .int (V 13 (nu p))), (3, .int (nI (i + 1))), (4, .int (nI (j + 1)))]) (st2 := [.int 0, .int ((21 * (nI (i + 1))) + (nI (j + 1))), .ref (A 26)]) rfl ?_
                                  refine wm_stz C hM 26 (j := (21 * (i + 1) + (j + 1))) rfl (ixe (N := 441) (show (21 * (nI (i + 1))) + (nI (j + 1)) = nI (21 * (i + 1) + (j + 1)) from by rw [show (21 : Int32) = nI 21 from rfl, nI_mul, nI_add]) (by omega) (by decide)).1 (ixe (N := 441) (show (21 * (nI (i + 1))) + (nI (j + 1)) = nI (21 * (i + 1) + (j + 1)) from by rw [show (21 : Int32) = nI 21 from rfl, nI_mul, nI_add]) (by omega) (by decide)).2 (by rfl) d_MD_fits_198 (fun h (hM : mq D h0 h y A (vs (vs V 26 F) 26 (upd (F) (21 * (i + 1) + (j + 1)) 0))) => ?_)
                                  refine wk_run C k_MD_fits_199 (pc2 := 202) (lv2 := [(4, .int ((nI (j + 1)) + 1)), (6, .int 0), (5, .int (V 12 (20 * nu p + i))), (0, .ref y), (1, .int p), (2, .int (V 13 (nu p))), (3, .int (nI (i + 1)))]) (st2 := []) rfl ?_
                                  refine wk_goto C d_MD_fits_202 (tgt := 17) (by decide) ?_
                                  refine Wk.sub (lv2 := [(0, .ref y), (1, .int p), (2, .int (V 13 (nu p))), (3, .int (nI (i + 1))), (4, .int ((nI (j + 1)) + 1))]) [3, 4, 5, 6, 0] rfl ?_
                                  have hfi : V 12 (20 * nu p + i) = nf_ V (nu p) i := rfl
                                  have ha := hT i (j + 1) (by omega) (Or.inl (Nat.lt_succ_self i))
                                  have hb := hT i j (by omega) (Or.inl (Nat.lt_succ_self i))
                                  have hc := hT (i + 1) j (by omega) (Or.inr ⟨rfl, Nat.lt_succ_self j⟩)
                                  have hv : (0 : Int32) = z_ (ft_ (nf_ V (nu p)) (V 21) (i + 1) (j + 1)) := by
                                    refine (z_n ?_).symm
                                    rw [ft_ss]
                                    clear C hM ih ih2 hT
                                    simp only [hfi] at *
                                    grind [z_p, z_n, z_0, z_1]
                                  rw [nI_1]
                                  exact ih2 ((j + 1) + 1, h) ⟨by show (j + 1) + 1 ≤ _; omega, _, by rw [vs_vs] at hM; exact hM, ti_u hT hA2 (by omega) hv⟩ (by show _ - ((j + 1) + 1) < _ - (j + 1); omega)
                                ·
                                  refine wk_run C k_MD_fits_178 (pc2 := 179) (lv2 := [(6, .int 1), (5, .int (V 12 (20 * nu p + i))), (0, .ref y), (1, .int p), (2, .int (V 13 (nu p))), (3, .int (nI (i + 1))), (4, .int (nI (j + 1)))]) (st2 := [.int 1]) rfl ?_
                                  refine wk_goto C d_MD_fits_179 (tgt := 183) (by decide) ?_
                                  refine wk_run C k_MD_fits_183 (pc2 := 186) (lv2 := [(6, .int 1), (5, .int (V 12 (20 * nu p + i))), (0, .ref y), (1, .int p), (2, .int (V 13 (nu p))), (3, .int (nI (i + 1))), (4, .int (nI (j + 1)))]) (st2 := [.ref y]) rfl ?_
                                  refine wk_get (v := .ref (A 26)) C fd_MD_68 hM.ob rfl d_MD_fits_186 ?_
                                  refine wk_run C k_MD_fits_189 (pc2 := 198) (lv2 := [(6, .int 1), (5, .int (V 12 (20 * nu p + i))), (0, .ref y), (1, .int p), (2, .int (V 13 (nu p))), (3, .int (nI (i + 1))), (4, .int (nI (j + 1)))]) (st2 := [.int 1, .int ((21 * (nI (i + 1))) + (nI (j + 1))), .ref (A 26)]) rfl ?_
                                  refine wm_stz C hM 26 (j := (21 * (i + 1) + (j + 1))) rfl (ixe (N := 441) (show (21 * (nI (i + 1))) + (nI (j + 1)) = nI (21 * (i + 1) + (j + 1)) from by rw [show (21 : Int32) = nI 21 from rfl, nI_mul, nI_add]) (by omega) (by decide)).1 (ixe (N := 441) (show (21 * (nI (i + 1))) + (nI (j + 1)) = nI (21 * (i + 1) + (j + 1)) from by rw [show (21 : Int32) = nI 21 from rfl, nI_mul, nI_add]) (by omega) (by decide)).2 (by rfl) d_MD_fits_198 (fun h (hM : mq D h0 h y A (vs (vs V 26 F) 26 (upd (F) (21 * (i + 1) + (j + 1)) 1))) => ?_)
                                  refine wk_run C k_MD_fits_199 (pc2 := 202) (lv2 := [(4, .int ((nI (j + 1)) + 1)), (6, .int 1), (5, .int (V 12 (20 * nu p + i))), (0, .ref y), (1, .int p), (2, .int (V 13 (nu p))), (3, .int (nI (i + 1)))]) (st2 := []) rfl ?_
                                  refine wk_goto C d_MD_fits_202 (tgt := 17) (by decide) ?_
                                  refine Wk.sub (lv2 := [(0, .ref y), (1, .int p), (2, .int (V 13 (nu p))), (3, .int (nI (i + 1))), (4, .int ((nI (j + 1)) + 1))]) [3, 4, 5, 6, 0] rfl ?_
                                  have hfi : V 12 (20 * nu p + i) = nf_ V (nu p) i := rfl
                                  have ha := hT i (j + 1) (by omega) (Or.inl (Nat.lt_succ_self i))
                                  have hb := hT i j (by omega) (Or.inl (Nat.lt_succ_self i))
                                  have hc := hT (i + 1) j (by omega) (Or.inr ⟨rfl, Nat.lt_succ_self j⟩)
                                  have hv : (1 : Int32) = z_ (ft_ (nf_ V (nu p)) (V 21) (i + 1) (j + 1)) := by
                                    refine (z_p ?_).symm
                                    rw [ft_ss]
                                    clear C hM ih ih2 hT
                                    simp only [hfi] at *
                                    grind [z_p, z_n, z_0, z_1]
                                  rw [nI_1]
                                  exact ih2 ((j + 1) + 1, h) ⟨by show (j + 1) + 1 ≤ _; omega, _, by rw [vs_vs] at hM; exact hM, ti_u hT hA2 (by omega) hv⟩ (by show _ - ((j + 1) + 1) < _ - (j + 1); omega)
                              ·
                                refine wk_run C k_MD_fits_145 (pc2 := 148) (lv2 := [(6, .int 1), (5, .int (V 12 (20 * nu p + i))), (0, .ref y), (1, .int p), (2, .int (V 13 (nu p))), (3, .int (nI (i + 1))), (4, .int (nI (j + 1)))]) (st2 := [.ref y, .int (V 12 (20 * nu p + i))]) rfl ?_
                                refine wk_get (v := .ref (A 21)) C fd_MD_62 hM.ob rfl d_MD_fits_148 ?_
                                refine wk_run C k_MD_fits_151 (pc2 := 155) (lv2 := [(6, .int 1), (5, .int (V 12 (20 * nu p + i))), (0, .ref y), (1, .int p), (2, .int (V 13 (nu p))), (3, .int (nI (i + 1))), (4, .int (nI (j + 1)))]) (st2 := [.int ((nI (j + 1)) - 1), .ref (A 21), .int (V 12 (20 * nu p + i))]) rfl ?_
                                refine wm_ld C hM 21 (j := j) rfl (ixe (N := 20) (show (nI (j + 1)) - 1 = nI (j) from ej) (by omega) (by decide)).1 (ixe (N := 20) (show (nI (j + 1)) - 1 = nI (j) from ej) (by omega) (by decide)).2 d_MD_fits_155 ?_
                                show Wk _ _ _ _ _ _ _ _ _ _ _ _ _ _ _ _ _ _ _ (.int (V 21 j) :: _)
                                refine wk_br C d_MD_fits_156 (P := ¬ (V 12 (20 * nu p + i)) = (V 21 j)) (tgt := 182) (rest := []) rfl (by decide) (fun c94 => ?_) (fun c94 => ?_)
                                ·
                                  refine wk_run C k_MD_fits_182 (pc2 := 186) (lv2 := [(6, .int 0), (5, .int (V 12 (20 * nu p + i))), (0, .ref y), (1, .int p), (2, .int (V 13 (nu p))), (3, .int (nI (i + 1))), (4, .int (nI (j + 1)))]) (st2 := [.ref y]) rfl ?_
                                  refine wk_get (v := .ref (A 26)) C fd_MD_68 hM.ob rfl d_MD_fits_186 ?_
                                  refine wk_run C k_MD_fits_189 (pc2 := 198) (lv2 := [(6, .int 0), (5, .int (V 12 (20 * nu p + i))), (0, .ref y), (1, .int p), (2, .int (V 13 (nu p))), (3, .int (nI (i + 1))), (4, .int (nI (j + 1)))]) (st2 := [.int 0, .int ((21 * (nI (i + 1))) + (nI (j + 1))), .ref (A 26)]) rfl ?_
                                  refine wm_stz C hM 26 (j := (21 * (i + 1) + (j + 1))) rfl (ixe (N := 441) (show (21 * (nI (i + 1))) + (nI (j + 1)) = nI (21 * (i + 1) + (j + 1)) from by rw [show (21 : Int32) = nI 21 from rfl, nI_mul, nI_add]) (by omega) (by decide)).1 (ixe (N := 441) (show (21 * (nI (i + 1))) + (nI (j + 1)) = nI (21 * (i + 1) + (j + 1)) from by rw [show (21 : Int32) = nI 21 from rfl, nI_mul, nI_add]) (by omega) (by decide)).2 (by rfl) d_MD_fits_198 (fun h (hM : mq D h0 h y A (vs (vs V 26 F) 26 (upd (F) (21 * (i + 1) + (j + 1)) 0))) => ?_)
                                  refine wk_run C k_MD_fits_199 (pc2 := 202) (lv2 := [(4, .int ((nI (j + 1)) + 1)), (6, .int 0), (5, .int (V 12 (20 * nu p + i))), (0, .ref y), (1, .int p), (2, .int (V 13 (nu p))), (3, .int (nI (i + 1)))]) (st2 := []) rfl ?_
                                  refine wk_goto C d_MD_fits_202 (tgt := 17) (by decide) ?_
                                  refine Wk.sub (lv2 := [(0, .ref y), (1, .int p), (2, .int (V 13 (nu p))), (3, .int (nI (i + 1))), (4, .int ((nI (j + 1)) + 1))]) [3, 4, 5, 6, 0] rfl ?_
                                  have hfi : V 12 (20 * nu p + i) = nf_ V (nu p) i := rfl
                                  have ha := hT i (j + 1) (by omega) (Or.inl (Nat.lt_succ_self i))
                                  have hb := hT i j (by omega) (Or.inl (Nat.lt_succ_self i))
                                  have hc := hT (i + 1) j (by omega) (Or.inr ⟨rfl, Nat.lt_succ_self j⟩)
                                  have hv : (0 : Int32) = z_ (ft_ (nf_ V (nu p)) (V 21) (i + 1) (j + 1)) := by
                                    refine (z_n ?_).symm
                                    rw [ft_ss]
                                    clear C hM ih ih2 hT
                                    simp only [hfi] at *
                                    grind [z_p, z_n, z_0, z_1]
                                  rw [nI_1]
                                  exact ih2 ((j + 1) + 1, h) ⟨by show (j + 1) + 1 ≤ _; omega, _, by rw [vs_vs] at hM; exact hM, ti_u hT hA2 (by omega) hv⟩ (by show _ - ((j + 1) + 1) < _ - (j + 1); omega)
                                ·
                                  refine wk_run C k_MD_fits_159 (pc2 := 160) (lv2 := [(6, .int 1), (5, .int (V 12 (20 * nu p + i))), (0, .ref y), (1, .int p), (2, .int (V 13 (nu p))), (3, .int (nI (i + 1))), (4, .int (nI (j + 1)))]) (st2 := [.ref y]) rfl ?_
                                  refine wk_get (v := .ref (A 26)) C fd_MD_68 hM.ob rfl d_MD_fits_160 ?_
                                  refine wk_run C k_MD_fits_163 (pc2 := 174) (lv2 := [(6, .int 1), (5, .int (V 12 (20 * nu p + i))), (0, .ref y), (1, .int p), (2, .int (V 13 (nu p))), (3, .int (nI (i + 1))), (4, .int (nI (j + 1)))]) (st2 := [.int (((21 * ((nI (i + 1)) - 1)) + (nI (j + 1))) - 1), .ref (A 26)]) rfl ?_
                                  refine wm_ldz C hM 26 (j := 21 * i + j) rfl (ixe (N := 441) (show ((21 * ((nI (i + 1)) - 1)) + (nI (j + 1))) - 1 = nI (21 * i + j) from by rw [ei, show (21 : Int32) = nI 21 from rfl, nI_mul, nI_add, show 21 * i + (j + 1) = (21 * i + j) + 1 from rfl, nI_pred]) (by omega) (by decide)).1 (ixe (N := 441) (show ((21 * ((nI (i + 1)) - 1)) + (nI (j + 1))) - 1 = nI (21 * i + j) from by rw [ei, show (21 : Int32) = nI 21 from rfl, nI_mul, nI_add, show 21 * i + (j + 1) = (21 * i + j) + 1 from rfl, nI_pred]) (by omega) (by decide)).2 d_MD_fits_174 ?_
                                  show Wk _ _ _ _ _ _ _ _ _ _ _ _ _ _ _ _ _ _ _ (.int (F (21 * i + j)) :: _)
                                  refine wk_br C d_MD_fits_175 (P := (F (21 * i + j)) = 0) (tgt := 182) (rest := []) rfl (by decide) (fun c95 => ?_) (fun c95 => ?_)
                                  ·
                                    refine wk_run C k_MD_fits_182 (pc2 := 186) (lv2 := [(6, .int 0), (5, .int (V 12 (20 * nu p + i))), (0, .ref y), (1, .int p), (2, .int (V 13 (nu p))), (3, .int (nI (i + 1))), (4, .int (nI (j + 1)))]) (st2 := [.ref y]) rfl ?_
                                    refine wk_get (v := .ref (A 26)) C fd_MD_68 hM.ob rfl d_MD_fits_186 ?_
                                    refine wk_run C k_MD_fits_189 (pc2 := 198) (lv2 := [(6, .int 0), (5, .int (V 12 (20 * nu p + i))), (0, .ref y), (1, .int p), (2, .int (V 13 (nu p))), (3, .int (nI (i + 1))), (4, .int (nI (j + 1)))]) (st2 := [.int 0, .int ((21 * (nI (i + 1))) + (nI (j + 1))), .ref (A 26)]) rfl ?_
                                    refine wm_stz C hM 26 (j := (21 * (i + 1) + (j + 1))) rfl (ixe (N := 441) (show (21 * (nI (i + 1))) + (nI (j + 1)) = nI (21 * (i + 1) + (j + 1)) from by rw [show (21 : Int32) = nI 21 from rfl, nI_mul, nI_add]) (by omega) (by decide)).1 (ixe (N := 441) (show (21 * (nI (i + 1))) + (nI (j + 1)) = nI (21 * (i + 1) + (j + 1)) from by rw [show (21 : Int32) = nI 21 from rfl, nI_mul, nI_add]) (by omega) (by decide)).2 (by rfl) d_MD_fits_198 (fun h (hM : mq D h0 h y A (vs (vs V 26 F) 26 (upd (F) (21 * (i + 1) + (j + 1)) 0))) => ?_)
                                    refine wk_run C k_MD_fits_199 (pc2 := 202) (lv2 := [(4, .int ((nI (j + 1)) + 1)), (6, .int 0), (5, .int (V 12 (20 * nu p + i))), (0, .ref y), (1, .int p), (2, .int (V 13 (nu p))), (3, .int (nI (i + 1)))]) (st2 := []) rfl ?_
                                    refine wk_goto C d_MD_fits_202 (tgt := 17) (by decide) ?_
                                    refine Wk.sub (lv2 := [(0, .ref y), (1, .int p), (2, .int (V 13 (nu p))), (3, .int (nI (i + 1))), (4, .int ((nI (j + 1)) + 1))]) [3, 4, 5, 6, 0] rfl ?_
                                    have hfi : V 12 (20 * nu p + i) = nf_ V (nu p) i := rfl
                                    have ha := hT i (j + 1) (by omega) (Or.inl (Nat.lt_succ_self i))
                                    have hb := hT i j (by omega) (Or.inl (Nat.lt_succ_self i))
                                    have hc := hT (i + 1) j (by omega) (Or.inr ⟨rfl, Nat.lt_succ_self j⟩)
                                    have hv : (0 : Int32) = z_ (ft_ (nf_ V (nu p)) (V 21) (i + 1) (j + 1)) := by
                                      refine (z_n ?_).symm
                                      rw [ft_ss]
                                      clear C hM ih ih2 hT
                                      simp only [hfi] at *
                                      grind [z_p, z_n, z_0, z_1]
                                    rw [nI_1]
                                    exact ih2 ((j + 1) + 1, h) ⟨by show (j + 1) + 1 ≤ _; omega, _, by rw [vs_vs] at hM; exact hM, ti_u hT hA2 (by omega) hv⟩ (by show _ - ((j + 1) + 1) < _ - (j + 1); omega)
                                  ·
                                    refine wk_run C k_MD_fits_178 (pc2 := 179) (lv2 := [(6, .int 1), (5, .int (V 12 (20 * nu p + i))), (0, .ref y), (1, .int p), (2, .int (V 13 (nu p))), (3, .int (nI (i + 1))), (4, .int (nI (j + 1)))]) (st2 := [.int 1]) rfl ?_
                                    refine wk_goto C d_MD_fits_179 (tgt := 183) (by decide) ?_
                                    refine wk_run C k_MD_fits_183 (pc2 := 186) (lv2 := [(6, .int 1), (5, .int (V 12 (20 * nu p + i))), (0, .ref y), (1, .int p), (2, .int (V 13 (nu p))), (3, .int (nI (i + 1))), (4, .int (nI (j + 1)))]) (st2 := [.ref y]) rfl ?_
                                    refine wk_get (v := .ref (A 26)) C fd_MD_68 hM.ob rfl d_MD_fits_186 ?_
                                    refine wk_run C k_MD_fits_189 (pc2 := 198) (lv2 := [(6, .int 1), (5, .int (V 12 (20 * nu p + i))), (0, .ref y), (1, .int p), (2, .int (V 13 (nu p))), (3, .int (nI (i + 1))), (4, .int (nI (j + 1)))]) (st2 := [.int 1, .int ((21 * (nI (i + 1))) + (nI (j + 1))), .ref (A 26)]) rfl ?_
                                    refine wm_stz C hM 26 (j := (21 * (i + 1) + (j + 1))) rfl (ixe (N := 441) (show (21 * (nI (i + 1))) + (nI (j + 1)) = nI (21 * (i + 1) + (j + 1)) from by rw [show (21 : Int32) = nI 21 from rfl, nI_mul, nI_add]) (by omega) (by decide)).1 (ixe (N := 441) (show (21 * (nI (i + 1))) + (nI (j + 1)) = nI (21 * (i + 1) + (j + 1)) from by rw [show (21 : Int32) = nI 21 from rfl, nI_mul, nI_add]) (by omega) (by decide)).2 (by rfl) d_MD_fits_198 (fun h (hM : mq D h0 h y A (vs (vs V 26 F) 26 (upd (F) (21 * (i + 1) + (j + 1)) 1))) => ?_)
                                    refine wk_run C k_MD_fits_199 (pc2 := 202) (lv2 := [(4, .int ((nI (j + 1)) + 1)), (6, .int 1), (5, .int (V 12 (20 * nu p + i))), (0, .ref y), (1, .int p), (2, .int (V 13 (nu p))), (3, .int (nI (i + 1)))]) (st2 := []) rfl ?_
                                    refine wk_goto C d_MD_fits_202 (tgt := 17) (by decide) ?_
                                    refine Wk.sub (lv2 := [(0, .ref y), (1, .int p), (2, .int (V 13 (nu p))), (3, .int (nI (i + 1))), (4, .int ((nI (j + 1)) + 1))]) [3, 4, 5, 6, 0] rfl ?_
                                    have hfi : V 12 (20 * nu p + i) = nf_ V (nu p) i := rfl
                                    have ha := hT i (j + 1) (by omega) (Or.inl (Nat.lt_succ_self i))
                                    have hb := hT i j (by omega) (Or.inl (Nat.lt_succ_self i))
                                    have hc := hT (i + 1) j (by omega) (Or.inr ⟨rfl, Nat.lt_succ_self j⟩)
                                    have hv : (1 : Int32) = z_ (ft_ (nf_ V (nu p)) (V 21) (i + 1) (j + 1)) := by
                                      refine (z_p ?_).symm
                                      rw [ft_ss]
                                      clear C hM ih ih2 hT
                                      simp only [hfi] at *
                                      grind [z_p, z_n, z_0, z_1]
                                    rw [nI_1]
                                    exact ih2 ((j + 1) + 1, h) ⟨by show (j + 1) + 1 ≤ _; omega, _, by rw [vs_vs] at hM; exact hM, ti_u hT hA2 (by omega) hv⟩ (by show _ - ((j + 1) + 1) < _ - (j + 1); omega)
            ·
              exact absurd hi0 c62
          ·
            exact absurd hi0 c61
