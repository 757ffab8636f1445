theorem an_26 (V : vT) (F : Nat → Int32) (u c a r p w : Int32) : an_ (vs V 26 F) u c a r p w = vs (an_ V u c a r p w) 26 F := by
  have e24 : vs V 26 F 24 = V 24 := rfl
  have e25 : vs V 26 F 25 = V 25 := rfl
  unfold an_ vc
  rw [e24, e25]
  split
  · rw [vs_sw (k := 26) (m := 23) (by decide), vs_sw (k := 26) (m := 22) (by decide)]
  · split
    · rw [vs_sw (k := 26) (m := 23) (by decide), vs_sw (k := 26) (m := 22) (by decide), vs_sw (k := 26) (m := 25) (by decide)]
    · rw [vs_sw (k := 26) (m := 23) (by decide), vs_sw (k := 26) (m := 22) (by decide), vs_sw (k := 26) (m := 24) (by decide), vs_sw (k := 26) (m := 24) (by decide), vs_sw (k := 26) (m := 24) (by decide), vs_sw (k := 26) (m := 24) (by decide), vs_sw (k := 26) (m := 24) (by decide), vs_sw (k := 26) (m := 25) (by decide)]
noncomputable def sp_may (V : vT) (u c a : Int32) (t : Int64) : rT :=
  if ¬ ((¬ u < 1 ∧ u ≤ V 8 0) ∧ (¬ c < 0 ∧ c < 8) ∧ (¬ a < 1 ∧ ¬ 4 < a) ∧ 0 ≤ lg_cmp t 0) then (1, 0, vc V 0 1) else
  if ¬ V 5 (nu u) = 0 then (0, 0, an_ (vc V 0 0) u c a 0 0 1) else if V 10 (nu c) = 0 then (0, 1, an_ (vc V 0 0) u c a 1 0 0) else
  if ¬ fo_ V c a (nu (V 9 0)) = 0 then (0, 1, an_ (vc V 0 0) u c a 1 (nI (fo_ V c a (nu (V 9 0)))) 0) else
  if fo_ V c 0 (nu (V 9 0)) = 0 then (0, if V 10 (nu c) = 1 then 1 else 0, an_ (vc V 0 0) u c a (if V 10 (nu c) = 1 then 1 else 0) 0 (if V 10 (nu c) = 2 then 1 else 0)) else
  if ¬ ll_ V (fo_ V c 0 (nu (V 9 0))) (nu u) t < a then (0, 1, an_ (vc V 0 0) u c a 1 (nI (fo_ V c 0 (nu (V 9 0)))) (if V 15 (fo_ V c 0 (nu (V 9 0))) &&& 2 ≤ 0 then 0 else 1)) else
  (0, if V 15 (fo_ V c 0 (nu (V 9 0))) &&& 1 ≤ 0 then 0 else 2, an_ (vc V 0 0) u c a (if V 15 (fo_ V c 0 (nu (V 9 0))) &&& 1 ≤ 0 then 0 else 2) (nI (fo_ V c 0 (nu (V 9 0)))) 1)
theorem fo_vc (V : vT) (x : Int32) (c a : Int32) (n : Nat) : fo_ (vc V 0 x) c a n = fo_ V c a n := by
  induction n with
  | zero => rfl
  | succ n ih =>
    have h1 : ∀ q, mo_ (vc V 0 x) (n + 1) q = mo_ V (n + 1) q := fun q => rfl
    have h2 : fp_ (vc V 0 x) (n + 1) = fp_ V (n + 1) := rfl
    have h3 : ca_ (vc V 0 x) c a (n + 1) = ca_ V c a (n + 1) := rfl
    by_cases h : ca_ V c a (n + 1) ∧ fp_ V (n + 1) ∧ (fo_ V c a n = 0 ∨ mo_ V (n + 1) (fo_ V c a n))
    · rw [fo_p h, fo_p (by rw [h2, ih, h1]; exact h)]
    · rw [fo_n h, fo_n (by rw [h2, ih, h1]; exact h), ih]
theorem c_MD_foundV (l : Launch) (D : va_G) (HB : Heap) (h h0 : hp_T) (y : Nat) (A : Nat → Nat) (V : vT) (F : Nat → Int32) (c a : Int32) (hP : ok_ (V 9 0) 60) (hL : ∀ q, q ≤ 60 → ok_ (V 13 q) 20) (hA : ok_ (V 22 0) 20) (hM : mq D h0 h y A (vs (vc V 0 0) 26 F)) : ct_M l y_MD_found (.code y_MD_found prog_9_method_32_code 6 (some .int)) { frames := 3, cells := 0, slots := 0, locals := 100 } D HB [.ref y, .int c, .int a] h (fun o h2 => o = .inl (some (.int (nI (fo_ V c a (nu (V 9 0)))))) ∧ ∃ F, mq D h0 h2 y A (vs (vc V 0 0) 26 F)) := by
  have k := c_MD_found l D HB h h0 y A (vc V 0 0) F c a hP hL hA hM
  rw [fo_vc] at k
  exact k
theorem cn_26 (V : vT) (x : Int32) (F : Nat → Int32) (n g : Nat) : cn_ (vs (vc V 0 x) 26 F) n g = cn_ V n g := by
  induction n generalizing g with
  | zero => rfl
  | succ n ih =>
    show (if g = 0 then 0 else cn_ (vs (vc V 0 x) 26 F) n (nu (V 1 g))) = if g = 0 then 0 else cn_ V n (nu (V 1 g))
    rw [ih]
theorem og_26 (V : vT) (z : Int32) (F : Nat → Int32) (p u : Nat) (t : Int64) (x : Int32) : og_ (vs (vc V 0 z) 26 F) p u t x = og_ V p u t x := rfl
theorem lv_26 (V : vT) (x : Int32) (F : Nat → Int32) (p u : Nat) (t : Int64) (n : Nat) (g : Int32) : lv_ (vs (vc V 0 x) 26 F) p u t n g = lv_ V p u t n g := by
  induction n generalizing g with
  | zero => rfl
  | succ n ih =>
    by_cases h : g = 0
    · subst h; rw [lv_z, lv_z]; rfl
    · cases e : og_ V p u t (0 - g) with
      | none => rw [lv_n h ((og_26 V x F p u t (0 - g)).trans e), lv_n h e]; exact ih _
      | some k => rw [lv_s h ((og_26 V x F p u t (0 - g)).trans e), lv_s h e]; rfl
theorem ll_26 (V : vT) (x : Int32) (F : Nat → Int32) (p u : Nat) (t : Int64) : ll_ (vs (vc V 0 x) 26 F) p u t = ll_ V p u t := by
  have e0 : dp_ (vs (vc V 0 x) 26 F) (nu (V 2 u)) = dp_ V (nu (V 2 u)) := by unfold dp_; congr 1; funext n; rw [cn_26]
  cases e : og_ V p u t (nI u) with
  | none =>
    rw [ll_n e, ll_n ((og_26 V x F p u t (nI u)).trans e)]
    show lv_ (vs (vc V 0 x) 26 F) p u t (dp_ (vs (vc V 0 x) 26 F) (nu (V 2 u))) (V 2 u) = _
    rw [e0, lv_26]
  | some k => rw [ll_s e, ll_s ((og_26 V x F p u t (nI u)).trans e)]; rfl
theorem c_MD_levelOfV (l : Launch) (D : va_G) (HB : Heap) (h h0 : hp_T) (y : Nat) (A : Nat → Nat) (V : vT) (F : Nat → Int32) (u : Int32) (p : Nat) (t : Int64) (hu : ok_ u 40) (hp : p ≤ 60) (hE : ok_ (V 16 p) 10) (hg : ok_ (V 2 (nu u)) 20) (hA : ∀ q, q ≤ 20 → ok_ (V 1 q) 20) (hC : ∃ n, cn_ V n (nu (V 2 (nu u))) = 0) (hM : mq D h0 h y A (vs (vc V 0 0) 26 F)) : ct_M l y_MD_levelOf (.code y_MD_levelOf prog_9_method_34_code 7 (some .int)) { frames := 2, cells := 0, slots := 0, locals := 60 } D HB [.ref y, .int u, .int (nI p), .long t] h (fun o h2 => o = .inl (some (.int (ll_ V p (nu u) t))) ∧ h2 = h) := by
  have e : nu (nI p) = p := nu_nI (by omega)
  have k := c_MD_levelOf l D HB h h0 y A (vs (vc V 0 0) 26 F) u (nI p) t hu (ok_nI hp (by decide)) (by rw [e]; exact hE) hg hA (by obtain ⟨n, hn⟩ := hC; exact ⟨n, by rw [cn_26]; exact hn⟩) hM
  rw [e, ll_26] at k
  exact k

theorem k_MD_may_0 : px_dec prog_9_method_36_code [.aload_n 0, .aload_n 0, .iload_n 1] 0 = true := by decide +kernel
theorem d_MD_may_3 : decode prog_9_method_36_code 3 = .ok (.invokevirtual 92, 3) := by decide +kernel
theorem d_MD_may_6 : decode prog_9_method_36_code 6 = .ok (.ifCond .eq 27, 3) := by decide +kernel
theorem k_MD_may_33 : px_dec prog_9_method_36_code [.iconst 1] 33 = true := by decide +kernel
theorem d_MD_may_34 : decode prog_9_method_36_code 34 = .ok (.goto 4, 3) := by decide +kernel
theorem k_MD_may_38 : px_dec prog_9_method_36_code [.iconst 0] 38 = true := by decide +kernel
theorem d_MD_may_39 : decode prog_9_method_36_code 39 = .ok (.invokevirtual 88, 3) := by decide +kernel
theorem d_MD_may_42 : decode prog_9_method_36_code 42 = .ok (.ifCond .eq 5, 3) := by decide +kernel
theorem k_MD_may_45 : px_dec prog_9_method_36_code [.iconst 0] 45 = true := by decide +kernel
theorem d_MD_may_46 : decode prog_9_method_36_code 46 = .ok (.ireturn, 1) := by decide +kernel
theorem k_MD_may_9 : px_dec prog_9_method_36_code [.iload_n 2] 9 = true := by decide +kernel
theorem d_MD_may_10 : decode prog_9_method_36_code 10 = .ok (.invokestatic 98, 3) := by decide +kernel
theorem d_MD_may_13 : decode prog_9_method_36_code 13 = .ok (.ifCond .eq 20, 3) := by decide +kernel
theorem k_MD_may_16 : px_dec prog_9_method_36_code [.iload_n 3, .iconst 1] 16 = true := by decide +kernel
theorem d_MD_may_18 : decode prog_9_method_36_code 18 = .ok (.if_icmp .lt 15, 3) := by decide +kernel
theorem k_MD_may_21 : px_dec prog_9_method_36_code [.iload_n 3, .iconst 4] 21 = true := by decide +kernel
theorem d_MD_may_23 : decode prog_9_method_36_code 23 = .ok (.if_icmp .gt 10, 3) := by decide +kernel
theorem k_MD_may_26 : px_dec prog_9_method_36_code [.lload 4, .lconst 0] 26 = true := by decide +kernel
theorem d_MD_may_29 : decode prog_9_method_36_code 29 = .ok (.lcmp, 1) := by decide +kernel
theorem d_MD_may_30 : decode prog_9_method_36_code 30 = .ok (.ifCond .ge 7, 3) := by decide +kernel
theorem k_MD_may_37 : px_dec prog_9_method_36_code [.iconst 0, .iconst 0] 37 = true := by decide +kernel
theorem k_MD_may_47 : px_dec prog_9_method_36_code [.aload_n 0] 47 = true := by decide +kernel
theorem d_MD_may_48 : decode prog_9_method_36_code 48 = .ok (.getfield 22, 3) := by decide +kernel
theorem k_MD_may_51 : px_dec prog_9_method_36_code [.iload_n 1] 51 = true := by decide +kernel
theorem d_MD_may_52 : decode prog_9_method_36_code 52 = .ok (.baload, 1) := by decide +kernel
theorem d_MD_may_53 : decode prog_9_method_36_code 53 = .ok (.ifCond .eq 14, 3) := by decide +kernel
theorem k_MD_may_67 : px_dec prog_9_method_36_code [.aload_n 0] 67 = true := by decide +kernel
theorem d_MD_may_68 : decode prog_9_method_36_code 68 = .ok (.getfield 29, 3) := by decide +kernel
theorem k_MD_may_71 : px_dec prog_9_method_36_code [.iload_n 2] 71 = true := by decide +kernel
theorem d_MD_may_72 : decode prog_9_method_36_code 72 = .ok (.iaload, 1) := by decide +kernel
theorem d_MD_may_73 : decode prog_9_method_36_code 73 = .ok (.ifCond .ne 14, 3) := by decide +kernel
theorem k_MD_may_87 : px_dec prog_9_method_36_code [.aload_n 0, .iload_n 2, .iload_n 3] 87 = true := by decide +kernel
theorem d_MD_may_90 : decode prog_9_method_36_code 90 = .ok (.invokevirtual 150, 3) := by decide +kernel
theorem k_MD_may_93 : px_dec prog_9_method_36_code [.istore 6, .iload 6] 93 = true := by decide +kernel
theorem d_MD_may_97 : decode prog_9_method_36_code 97 = .ok (.ifCond .eq 15, 3) := by decide +kernel
theorem k_MD_may_112 : px_dec prog_9_method_36_code [.aload_n 0, .iload_n 2, .iconst 0] 112 = true := by decide +kernel
theorem d_MD_may_115 : decode prog_9_method_36_code 115 = .ok (.invokevirtual 150, 3) := by decide +kernel
theorem k_MD_may_118 : px_dec prog_9_method_36_code [.istore 7, .iload 7] 118 = true := by decide +kernel
theorem d_MD_may_122 : decode prog_9_method_36_code 122 = .ok (.ifCond .ne 42, 3) := by decide +kernel
theorem k_MD_may_164 : px_dec prog_9_method_36_code [.aload_n 0, .iload_n 1, .iload 7, .lload 4] 164 = true := by decide +kernel
theorem d_MD_may_170 : decode prog_9_method_36_code 170 = .ok (.invokevirtual 153, 3) := by decide +kernel
theorem k_MD_may_173 : px_dec prog_9_method_36_code [.iload_n 3] 173 = true := by decide +kernel
theorem d_MD_may_174 : decode prog_9_method_36_code 174 = .ok (.if_icmp .lt 31, 3) := by decide +kernel
theorem k_MD_may_205 : px_dec prog_9_method_36_code [.aload_n 0, .iload_n 1, .iload_n 2, .iload_n 3, .aload_n 0] 205 = true := by decide +kernel
theorem d_MD_may_210 : decode prog_9_method_36_code 210 = .ok (.getfield 44, 3) := by decide +kernel
theorem k_MD_may_213 : px_dec prog_9_method_36_code [.iload 7] 213 = true := by decide +kernel
theorem d_MD_may_215 : decode prog_9_method_36_code 215 = .ok (.iaload, 1) := by decide +kernel
theorem k_MD_may_216 : px_dec prog_9_method_36_code [.iconst 1, .iand] 216 = true := by decide +kernel
theorem d_MD_may_218 : decode prog_9_method_36_code 218 = .ok (.ifCond .le 7, 3) := by decide +kernel
theorem k_MD_may_225 : px_dec prog_9_method_36_code [.iconst 0, .iload 7, .iconst 1] 225 = true := by decide +kernel
theorem d_MD_may_229 : decode prog_9_method_36_code 229 = .ok (.invokevirtual 146, 3) := by decide +kernel
theorem d_MD_may_232 : decode prog_9_method_36_code 232 = .ok (.ireturn, 1) := by decide +kernel
theorem k_MD_may_221 : px_dec prog_9_method_36_code [.iconst 2] 221 = true := by decide +kernel
theorem d_MD_may_222 : decode prog_9_method_36_code 222 = .ok (.goto 4, 3) := by decide +kernel
theorem k_MD_may_226 : px_dec prog_9_method_36_code [.iload 7, .iconst 1] 226 = true := by decide +kernel
theorem k_MD_may_177 : px_dec prog_9_method_36_code [.aload_n 0, .iload_n 1, .iload_n 2, .iload_n 3, .iconst 1, .iload 7, .aload_n 0] 177 = true := by decide +kernel
theorem d_MD_may_185 : decode prog_9_method_36_code 185 = .ok (.getfield 44, 3) := by decide +kernel
theorem k_MD_may_188 : px_dec prog_9_method_36_code [.iload 7] 188 = true := by decide +kernel
theorem d_MD_may_190 : decode prog_9_method_36_code 190 = .ok (.iaload, 1) := by decide +kernel
theorem k_MD_may_191 : px_dec prog_9_method_36_code [.iconst 2, .iand] 191 = true := by decide +kernel
theorem d_MD_may_193 : decode prog_9_method_36_code 193 = .ok (.ifCond .le 7, 3) := by decide +kernel
theorem k_MD_may_200 : px_dec prog_9_method_36_code [.iconst 0] 200 = true := by decide +kernel
theorem d_MD_may_201 : decode prog_9_method_36_code 201 = .ok (.invokevirtual 146, 3) := by decide +kernel
theorem d_MD_may_204 : decode prog_9_method_36_code 204 = .ok (.ireturn, 1) := by decide +kernel
theorem k_MD_may_196 : px_dec prog_9_method_36_code [.iconst 1] 196 = true := by decide +kernel
theorem d_MD_may_197 : decode prog_9_method_36_code 197 = .ok (.goto 4, 3) := by decide +kernel
theorem k_MD_may_125 : px_dec prog_9_method_36_code [.aload_n 0, .iload_n 1, .iload_n 2, .iload_n 3, .aload_n 0] 125 = true := by decide +kernel
theorem d_MD_may_130 : decode prog_9_method_36_code 130 = .ok (.getfield 29, 3) := by decide +kernel
theorem k_MD_may_133 : px_dec prog_9_method_36_code [.iload_n 2] 133 = true := by decide +kernel
theorem d_MD_may_134 : decode prog_9_method_36_code 134 = .ok (.iaload, 1) := by decide +kernel
theorem k_MD_may_135 : px_dec prog_9_method_36_code [.iconst 1] 135 = true := by decide +kernel
theorem d_MD_may_136 : decode prog_9_method_36_code 136 = .ok (.if_icmp .ne 7, 3) := by decide +kernel
theorem k_MD_may_143 : px_dec prog_9_method_36_code [.iconst 0, .iconst 0, .aload_n 0] 143 = true := by decide +kernel
theorem d_MD_may_146 : decode prog_9_method_36_code 146 = .ok (.getfield 29, 3) := by decide +kernel
theorem k_MD_may_149 : px_dec prog_9_method_36_code [.iload_n 2] 149 = true := by decide +kernel
theorem d_MD_may_150 : decode prog_9_method_36_code 150 = .ok (.iaload, 1) := by decide +kernel
theorem k_MD_may_151 : px_dec prog_9_method_36_code [.iconst 2] 151 = true := by decide +kernel
theorem d_MD_may_152 : decode prog_9_method_36_code 152 = .ok (.if_icmp .ne 7, 3) := by decide +kernel
theorem k_MD_may_159 : px_dec prog_9_method_36_code [.iconst 0] 159 = true := by decide +kernel
theorem d_MD_may_160 : decode prog_9_method_36_code 160 = .ok (.invokevirtual 146, 3) := by decide +kernel
theorem d_MD_may_163 : decode prog_9_method_36_code 163 = .ok (.ireturn, 1) := by decide +kernel
theorem k_MD_may_155 : px_dec prog_9_method_36_code [.iconst 1] 155 = true := by decide +kernel
theorem d_MD_may_156 : decode prog_9_method_36_code 156 = .ok (.goto 4, 3) := by decide +kernel
theorem k_MD_may_139 : px_dec prog_9_method_36_code [.iconst 1] 139 = true := by decide +kernel
theorem d_MD_may_140 : decode prog_9_method_36_code 140 = .ok (.goto 4, 3) := by decide +kernel
theorem k_MD_may_144 : px_dec prog_9_method_36_code [.iconst 0, .aload_n 0] 144 = true := by decide +kernel
theorem k_MD_may_100 : px_dec prog_9_method_36_code [.aload_n 0, .iload_n 1, .iload_n 2, .iload_n 3, .iconst 1, .iload 6, .iconst 0] 100 = true := by decide +kernel
theorem d_MD_may_108 : decode prog_9_method_36_code 108 = .ok (.invokevirtual 146, 3) := by decide +kernel
theorem d_MD_may_111 : decode prog_9_method_36_code 111 = .ok (.ireturn, 1) := by decide +kernel
theorem k_MD_may_76 : px_dec prog_9_method_36_code [.aload_n 0, .iload_n 1, .iload_n 2, .iload_n 3, .iconst 1, .iconst 0, .iconst 0] 76 = true := by decide +kernel
theorem d_MD_may_83 : decode prog_9_method_36_code 83 = .ok (.invokevirtual 146, 3) := by decide +kernel
theorem d_MD_may_86 : decode prog_9_method_36_code 86 = .ok (.ireturn, 1) := by decide +kernel
theorem k_MD_may_56 : px_dec prog_9_method_36_code [.aload_n 0, .iload_n 1, .iload_n 2, .iload_n 3, .iconst 0, .iconst 0, .iconst 1] 56 = true := by decide +kernel
theorem d_MD_may_63 : decode prog_9_method_36_code 63 = .ok (.invokevirtual 146, 3) := by decide +kernel
theorem d_MD_may_66 : decode prog_9_method_36_code 66 = .ok (.ireturn, 1) := by decide +kernel
set_option maxRecDepth 100000 in
set_option maxHeartbeats 4000000 in
theorem c_MD_may (l : Launch) (D : va_G) (HB : Heap) (h : hp_T) (h0 : hp_T) (y : Nat) (A : Nat → Nat) (V : vT) (u c a : Int32) (t : Int64) (hU : ok_ (V 8 0) 40) (hP : ok_ (V 9 0) 60) (hL : ∀ q, q ≤ 60 → ok_ (V 13 q) 20) (hA : ok_ (V 22 0) 20) (hR : ok_ (V 25 0) 1000000) (hE : ∀ q, q ≤ 60 → ok_ (V 16 q) 10) (hg : ¬ u < 1 ∧ u ≤ V 8 0 → ok_ (V 2 (nu u)) 20 ∧ ∃ n, cn_ V n (nu (V 2 (nu u))) = 0) (hB : ∀ q, q ≤ 20 → ok_ (V 1 q) 20) (hM : mq D h0 h y A V) : ct_M l y_MD_may (.code y_MD_may prog_9_method_36_code 8 (Option.some Jvm.ClassFile.FieldType.int)) ({ frames := 4, cells := 0, slots := 0, locals := 140 }) D HB [.ref y, .int u, .int c, .int a, .long t] h (fun o h2 => ∃ (cd r : Int32) (V2 : vT) (F : Nat → Int32), sp_may V u c a t = (cd, r, V2) ∧ o = .inl (some (.int r)) ∧ mq D h0 h2 y A (vs V2 26 F)) := by
  refine ct_of (by decide) (Nat.le_of_ble_eq_true rfl) rfl ?_
  intro p_ e_ s_ m_ r_ b_ t_ c_ C hnm
  refine wk_run C k_MD_may_0 (pc2 := 3) (lv2 := [(0, .ref y), (1, .int u), (2, .int c), (3, .int a), (4, .long t)]) (st2 := [.int u, .ref y, .ref y]) rfl ?_
  refine wk_callV (cl := ("ProfileRightsModel", T_MD, 27)) (rest := [.ref y]) C (c_MD_isUser l D HB h h0 y A (V) u hM) cs_MD_92 kc_MD_isUser ki_MD hM.ob rfl rfl rfl (Nat.le_of_ble_eq_true rfl) (Nat.le_of_ble_eq_true rfl) (Nat.le_of_ble_eq_true rfl) (Nat.le_of_ble_eq_true rfl) (Nat.le_of_ble_eq_true rfl) d_MD_may_3 (fun v h2 hq => ?_) (fun _ _ z => nomatch z.1)
  obtain ⟨e1, e2⟩ := hq; cases e1; replace e2 := e2.symm; subst e2
  show Wk _ _ _ _ _ _ _ _ _ _ _ _ _ _ _ _ _ _ _ (.int (if ¬ u < 1 ∧ u ≤ V 8 0 then (1 : Int32) else 0) :: _)
  refine wk_br C d_MD_may_6 (P := (if ¬ u < 1 ∧ u ≤ V 8 0 then (1 : Int32) else 0) = 0) (tgt := 33) (rest := [.ref y]) rfl (by decide) (fun c1 => ?_) (fun c1 => ?_)
  ·
    replace c1 := bz_ c1
    refine wk_run C k_MD_may_33 (pc2 := 34) (lv2 := [(0, .ref y), (1, .int u), (2, .int c), (3, .int a), (4, .long t)]) (st2 := [.int 1, .ref y]) rfl ?_
    refine wk_goto C d_MD_may_34 (tgt := 38) (by decide) ?_
    refine wk_run C k_MD_may_38 (pc2 := 39) (lv2 := [(0, .ref y), (1, .int u), (2, .int c), (3, .int a), (4, .long t)]) (st2 := [.int 0, .int 1, .ref y]) rfl ?_
    refine wk_callV (cl := ("ProfileRightsModel", T_MD, 27)) (rest := []) C (c_MD_f1 l D HB h h0 y A (V) hM) cs_MD_88 kc_MD_fails ki_MD hM.ob rfl rfl rfl (Nat.le_of_ble_eq_true rfl) (Nat.le_of_ble_eq_true rfl) (Nat.le_of_ble_eq_true rfl) (Nat.le_of_ble_eq_true rfl) (Nat.le_of_ble_eq_true rfl) d_MD_may_39 (fun v h hq => ?_) (fun _ _ z => nomatch z.1)
    obtain ⟨e1, hM⟩ := hq; cases e1
    refine wk_br C d_MD_may_42 (P := 1 = 0) (tgt := 47) (rest := []) rfl (by decide) (fun c2 => ?_) (fun c2 => ?_)
    ·
      exact absurd c2 (by decide)
    ·
      refine wk_run C k_MD_may_45 (pc2 := 46) (lv2 := [(0, .ref y), (1, .int u), (2, .int c), (3, .int a), (4, .long t)]) (st2 := [.int 0]) rfl ?_
      exact wk_iret C ⟨1, 0, vc (V) 0 1, (vc (V) 0 1) 26, by clear C hM hnm; grind [sp_may], rfl, by rw [vs_id rfl]; exact hM⟩ (by decide) (by decide) d_MD_may_46
  ·
    replace c1 := bn_ c1
    refine wk_run C k_MD_may_9 (pc2 := 10) (lv2 := [(0, .ref y), (1, .int u), (2, .int c), (3, .int a), (4, .long t)]) (st2 := [.int c, .ref y]) rfl ?_
    refine wk_callS (rest := [.ref y]) C (c_MD_isClass l D HB h c) cs_MD_98 kc_MD_isClass ki_MD rfl rfl (Nat.le_of_ble_eq_true rfl) (Nat.le_of_ble_eq_true rfl) (Nat.le_of_ble_eq_true rfl) (Nat.le_of_ble_eq_true rfl) (Nat.le_of_ble_eq_true rfl) d_MD_may_10 (fun v h2 hq => ?_) (fun _ _ z => nomatch z.1)
    obtain ⟨e1, e2⟩ := hq; cases e1; replace e2 := e2.symm; subst e2
    refine wk_br C d_MD_may_13 (P := (if ¬ c < 0 ∧ c < 8 then (1 : Int32) else 0) = 0) (tgt := 33) (rest := [.ref y]) rfl (by decide) (fun c3 => ?_) (fun c3 => ?_)
    ·
      replace c3 := bz_ c3
      refine wk_run C k_MD_may_33 (pc2 := 34) (lv2 := [(0, .ref y), (1, .int u), (2, .int c), (3, .int a), (4, .long t)]) (st2 := [.int 1, .ref y]) rfl ?_
      refine wk_goto C d_MD_may_34 (tgt := 38) (by decide) ?_
      refine wk_run C k_MD_may_38 (pc2 := 39) (lv2 := [(0, .ref y), (1, .int u), (2, .int c), (3, .int a), (4, .long t)]) (st2 := [.int 0, .int 1, .ref y]) rfl ?_
      refine wk_callV (cl := ("ProfileRightsModel", T_MD, 27)) (rest := []) C (c_MD_f1 l D HB h h0 y A (V) hM) cs_MD_88 kc_MD_fails ki_MD hM.ob rfl rfl rfl (Nat.le_of_ble_eq_true rfl) (Nat.le_of_ble_eq_true rfl) (Nat.le_of_ble_eq_true rfl) (Nat.le_of_ble_eq_true rfl) (Nat.le_of_ble_eq_true rfl) d_MD_may_39 (fun v h hq => ?_) (fun _ _ z => nomatch z.1)
      obtain ⟨e1, hM⟩ := hq; cases e1
      refine wk_br C d_MD_may_42 (P := 1 = 0) (tgt := 47) (rest := []) rfl (by decide) (fun c4 => ?_) (fun c4 => ?_)
      ·
        exact absurd c4 (by decide)
      ·
        refine wk_run C k_MD_may_45 (pc2 := 46) (lv2 := [(0, .ref y), (1, .int u), (2, .int c), (3, .int a), (4, .long t)]) (st2 := [.int 0]) rfl ?_
        exact wk_iret C ⟨1, 0, vc (V) 0 1, (vc (V) 0 1) 26, by clear C hM hnm; grind [sp_may], rfl, by rw [vs_id rfl]; exact hM⟩ (by decide) (by decide) d_MD_may_46
    ·
      replace c3 := bn_ c3
      refine wk_run C k_MD_may_16 (pc2 := 18) (lv2 := [(0, .ref y), (1, .int u), (2, .int c), (3, .int a), (4, .long t)]) (st2 := [.int 1, .int a, .ref y]) rfl ?_
      refine wk_br C d_MD_may_18 (P := a < 1) (tgt := 33) (rest := [.ref y]) rfl (by decide) (fun c5 => ?_) (fun c5 => ?_)
      ·
        refine wk_run C k_MD_may_33 (pc2 := 34) (lv2 := [(0, .ref y), (1, .int u), (2, .int c), (3, .int a), (4, .long t)]) (st2 := [.int 1, .ref y]) rfl ?_
        refine wk_goto C d_MD_may_34 (tgt := 38) (by decide) ?_
        refine wk_run C k_MD_may_38 (pc2 := 39) (lv2 := [(0, .ref y), (1, .int u), (2, .int c), (3, .int a), (4, .long t)]) (st2 := [.int 0, .int 1, .ref y]) rfl ?_
        refine wk_callV (cl := ("ProfileRightsModel", T_MD, 27)) (rest := []) C (c_MD_f1 l D HB h h0 y A (V) hM) cs_MD_88 kc_MD_fails ki_MD hM.ob rfl rfl rfl (Nat.le_of_ble_eq_true rfl) (Nat.le_of_ble_eq_true rfl) (Nat.le_of_ble_eq_true rfl) (Nat.le_of_ble_eq_true rfl) (Nat.le_of_ble_eq_true rfl) d_MD_may_39 (fun v h hq => ?_) (fun _ _ z => nomatch z.1)
        obtain ⟨e1, hM⟩ := hq; cases e1
        refine wk_br C d_MD_may_42 (P := 1 = 0) (tgt := 47) (rest := []) rfl (by decide) (fun c6 => ?_) (fun c6 => ?_)
        ·
          exact absurd c6 (by decide)
        ·
          refine wk_run C k_MD_may_45 (pc2 := 46) (lv2 := [(0, .ref y), (1, .int u), (2, .int c), (3, .int a), (4, .long t)]) (st2 := [.int 0]) rfl ?_
          exact wk_iret C ⟨1, 0, vc (V) 0 1, (vc (V) 0 1) 26, by clear C hM hnm; grind [sp_may], rfl, by rw [vs_id rfl]; exact hM⟩ (by decide) (by decide) d_MD_may_46
      ·
        refine wk_run C k_MD_may_21 (pc2 := 23) (lv2 := [(0, .ref y), (1, .int u), (2, .int c), (3, .int a), (4, .long t)]) (st2 := [.int 4, .int a, .ref y]) rfl ?_
        refine wk_br C d_MD_may_23 (P := 4 < a) (tgt := 33) (rest := [.ref y]) rfl (by decide) (fun c7 => ?_) (fun c7 => ?_)
        ·
          refine wk_run C k_MD_may_33 (pc2 := 34) (lv2 := [(0, .ref y), (1, .int u), (2, .int c), (3, .int a), (4, .long t)]) (st2 := [.int 1, .ref y]) rfl ?_
          refine wk_goto C d_MD_may_34 (tgt := 38) (by decide) ?_
          refine wk_run C k_MD_may_38 (pc2 := 39) (lv2 := [(0, .ref y), (1, .int u), (2, .int c), (3, .int a), (4, .long t)]) (st2 := [.int 0, .int 1, .ref y]) rfl ?_
          refine wk_callV (cl := ("ProfileRightsModel", T_MD, 27)) (rest := []) C (c_MD_f1 l D HB h h0 y A (V) hM) cs_MD_88 kc_MD_fails ki_MD hM.ob rfl rfl rfl (Nat.le_of_ble_eq_true rfl) (Nat.le_of_ble_eq_true rfl) (Nat.le_of_ble_eq_true rfl) (Nat.le_of_ble_eq_true rfl) (Nat.le_of_ble_eq_true rfl) d_MD_may_39 (fun v h hq => ?_) (fun _ _ z => nomatch z.1)
          obtain ⟨e1, hM⟩ := hq; cases e1
          refine wk_br C d_MD_may_42 (P := 1 = 0) (tgt := 47) (rest := []) rfl (by decide) (fun c8 => ?_) (fun c8 => ?_)
          ·
            exact absurd c8 (by decide)
          ·
            refine wk_run C k_MD_may_45 (pc2 := 46) (lv2 := [(0, .ref y), (1, .int u), (2, .int c), (3, .int a), (4, .long t)]) (st2 := [.int 0]) rfl ?_
            exact wk_iret C ⟨1, 0, vc (V) 0 1, (vc (V) 0 1) 26, by clear C hM hnm; grind [sp_may], rfl, by rw [vs_id rfl]; exact hM⟩ (by decide) (by decide) d_MD_may_46
        ·
          refine wk_run C k_MD_may_26 (pc2 := 29) (lv2 := [(0, .ref y), (1, .int u), (2, .int c), (3, .int a), (4, .long t)]) (st2 := [.long 0, .long t, .ref y]) rfl ?_
          refine wk_lcmp C d_MD_may_29 ?_
          refine wk_br C d_MD_may_30 (P := 0 ≤ (lg_cmp t 0)) (tgt := 37) (rest := [.ref y]) rfl (by decide) (fun c9 => ?_) (fun c9 => ?_)
          ·
            refine wk_run C k_MD_may_37 (pc2 := 39) (lv2 := [(0, .ref y), (1, .int u), (2, .int c), (3, .int a), (4, .long t)]) (st2 := [.int 0, .int 0, .ref y]) rfl ?_
            refine wk_callV (cl := ("ProfileRightsModel", T_MD, 27)) (rest := []) C (c_MD_f0 l D HB h h0 y A (V) hM) cs_MD_88 kc_MD_fails ki_MD hM.ob rfl rfl rfl (Nat.le_of_ble_eq_true rfl) (Nat.le_of_ble_eq_true rfl) (Nat.le_of_ble_eq_true rfl) (Nat.le_of_ble_eq_true rfl) (Nat.le_of_ble_eq_true rfl) d_MD_may_39 (fun v h hq => ?_) (fun _ _ z => nomatch z.1)
            obtain ⟨e1, hM⟩ := hq; cases e1
            refine wk_br C d_MD_may_42 (P := 0 = 0) (tgt := 47) (rest := []) rfl (by decide) (fun c10 => ?_) (fun c10 => ?_)
            ·
              have hu : ok_ u 40 := ok_r c1.1 c1.2 hU (by decide)
              refine wk_run C k_MD_may_47 (pc2 := 48) (lv2 := [(0, .ref y), (1, .int u), (2, .int c), (3, .int a), (4, .long t)]) (st2 := [.ref y]) rfl ?_
              refine wk_get (v := .ref (A 5)) C fd_MD_22 hM.ob rfl d_MD_may_48 ?_
              refine wk_run C k_MD_may_51 (pc2 := 52) (lv2 := [(0, .ref y), (1, .int u), (2, .int c), (3, .int a), (4, .long t)]) (st2 := [.int u, .ref (A 5)]) rfl ?_
              refine wm_ldz C hM 5 (j := nu u) rfl (vi_ c1.1 c1.2 hU (by decide) (by decide)) rfl d_MD_may_52 ?_
              show Wk _ _ _ _ _ _ _ _ _ _ _ _ _ _ _ _ _ _ _ (.int (V 5 (nu u)) :: _)
              refine wk_br C d_MD_may_53 (P := (V 5 (nu u)) = 0) (tgt := 67) (rest := []) rfl (by decide) (fun c11 => ?_) (fun c11 => ?_)
              ·
                refine wk_run C k_MD_may_67 (pc2 := 68) (lv2 := [(0, .ref y), (1, .int u), (2, .int c), (3, .int a), (4, .long t)]) (st2 := [.ref y]) rfl ?_
                refine wk_get (v := .ref (A 10)) C fd_MD_29 hM.ob rfl d_MD_may_68 ?_
                refine wk_run C k_MD_may_71 (pc2 := 72) (lv2 := [(0, .ref y), (1, .int u), (2, .int c), (3, .int a), (4, .long t)]) (st2 := [.int c, .ref (A 10)]) rfl ?_
                refine wm_ld C hM 10 (j := nu c) rfl (vi_k (ok_c c3.1 c3.2 (show (8 : Int32) = nI (7 + 1) from rfl) (by decide)) (by decide) (by decide)) rfl d_MD_may_72 ?_
                show Wk _ _ _ _ _ _ _ _ _ _ _ _ _ _ _ _ _ _ _ (.int (V 10 (nu c)) :: _)
                refine wk_br C d_MD_may_73 (P := ¬ (V 10 (nu c)) = 0) (tgt := 87) (rest := []) rfl (by decide) (fun c12 => ?_) (fun c12 => ?_)
                ·
                  refine wk_run C k_MD_may_87 (pc2 := 90) (lv2 := [(0, .ref y), (1, .int u), (2, .int c), (3, .int a), (4, .long t)]) (st2 := [.int a, .int c, .ref y]) rfl ?_
                  have hM : mq D h0 h y A (vs (vc V 0 0) 26 (V 26)) := by rw [vs_id (V := vc V 0 0) (k := 26) (f := V 26) rfl]; exact hM
                  refine wk_callV (cl := ("ProfileRightsModel", T_MD, 27)) (rest := []) C (c_MD_foundV l D HB h h0 y A V (V 26) c a hP hL hA hM) cs_MD_150 kc_MD_found ki_MD hM.ob rfl rfl rfl (Nat.le_of_ble_eq_true rfl) (Nat.le_of_ble_eq_true rfl) (Nat.le_of_ble_eq_true rfl) (Nat.le_of_ble_eq_true rfl) (Nat.le_of_ble_eq_true rfl) d_MD_may_90 (fun v h hq => ?_) (fun _ _ z => nomatch z.1)
                  obtain ⟨e1, F, hM⟩ := hq; cases e1
                  have hz1 : nI (fo_ V c a (nu (V 9 0))) = 0 ↔ fo_ V c a (nu (V 9 0)) = 0 := nI_eq (b := 0) (by have := fo_le V c a (nu (V 9 0)); have := hP.2; omega) (by decide)
                  refine wk_run C k_MD_may_93 (pc2 := 97) (lv2 := [(6, .int (nI (fo_ V c a (nu (V 9 0))))), (0, .ref y), (1, .int u), (2, .int c), (3, .int a), (4, .long t)]) (st2 := [.int (nI (fo_ V c a (nu (V 9 0))))]) rfl ?_
                  refine wk_br C d_MD_may_97 (P := (nI (fo_ V c a (nu (V 9 0)))) = 0) (tgt := 112) (rest := []) rfl (by decide) (fun c13 => ?_) (fun c13 => ?_)
                  ·
                    refine wk_run C k_MD_may_112 (pc2 := 115) (lv2 := [(6, .int (nI (fo_ V c a (nu (V 9 0))))), (0, .ref y), (1, .int u), (2, .int c), (3, .int a), (4, .long t)]) (st2 := [.int 0, .int c, .ref y]) rfl ?_
                    refine wk_callV (cl := ("ProfileRightsModel", T_MD, 27)) (rest := []) C (c_MD_foundV l D HB h h0 y A V F c 0 hP hL hA hM) cs_MD_150 kc_MD_found ki_MD hM.ob rfl rfl rfl (Nat.le_of_ble_eq_true rfl) (Nat.le_of_ble_eq_true rfl) (Nat.le_of_ble_eq_true rfl) (Nat.le_of_ble_eq_true rfl) (Nat.le_of_ble_eq_true rfl) d_MD_may_115 (fun v h hq => ?_) (fun _ _ z => nomatch z.1)
                    obtain ⟨e1, F, hM⟩ := hq; cases e1
                    have hz2 : nI (fo_ V c 0 (nu (V 9 0))) = 0 ↔ fo_ V c 0 (nu (V 9 0)) = 0 := nI_eq (b := 0) (by have := fo_le V c 0 (nu (V 9 0)); have := hP.2; omega) (by decide)
                    have hq6 : fo_ V c 0 (nu (V 9 0)) ≤ 60 := Nat.le_trans (fo_le V c 0 _) hP.2
                    refine wk_run C k_MD_may_118 (pc2 := 122) (lv2 := [(7, .int (nI (fo_ V c 0 (nu (V 9 0))))), (6, .int (nI (fo_ V c a (nu (V 9 0))))), (0, .ref y), (1, .int u), (2, .int c), (3, .int a), (4, .long t)]) (st2 := [.int (nI (fo_ V c 0 (nu (V 9 0))))]) rfl ?_
                    refine wk_br C d_MD_may_122 (P := ¬ (nI (fo_ V c 0 (nu (V 9 0)))) = 0) (tgt := 164) (rest := []) rfl (by decide) (fun c14 => ?_) (fun c14 => ?_)
                    ·
                      refine wk_run C k_MD_may_164 (pc2 := 170) (lv2 := [(7, .int (nI (fo_ V c 0 (nu (V 9 0))))), (6, .int (nI (fo_ V c a (nu (V 9 0))))), (0, .ref y), (1, .int u), (2, .int c), (3, .int a), (4, .long t)]) (st2 := [.long t, .int (nI (fo_ V c 0 (nu (V 9 0)))), .int u, .ref y]) rfl ?_
                      refine wk_callV (cl := ("ProfileRightsModel", T_MD, 27)) (rest := []) C (c_MD_levelOfV l D HB h h0 y A V F u (fo_ V c 0 (nu (V 9 0))) t hu hq6 (hE _ hq6) (hg c1).1 hB (hg c1).2 hM) cs_MD_153 kc_MD_levelOf ki_MD hM.ob rfl rfl rfl (Nat.le_of_ble_eq_true rfl) (Nat.le_of_ble_eq_true rfl) (Nat.le_of_ble_eq_true rfl) (Nat.le_of_ble_eq_true rfl) (Nat.le_of_ble_eq_true rfl) d_MD_may_170 (fun v h2 hq => ?_) (fun _ _ z => nomatch z.1)
                      obtain ⟨e1, e2⟩ := hq; cases e1; replace e2 := e2.symm; subst e2
                      refine wk_run C k_MD_may_173 (pc2 := 174) (lv2 := [(7, .int (nI (fo_ V c 0 (nu (V 9 0))))), (6, .int (nI (fo_ V c a (nu (V 9 0))))), (0, .ref y), (1, .int u), (2, .int c), (3, .int a), (4, .long t)]) (st2 := [.int a, .int (ll_ V (fo_ V c 0 (nu (V 9 0))) (nu u) t)]) rfl ?_
                      refine wk_br C d_MD_may_174 (P := (ll_ V (fo_ V c 0 (nu (V 9 0))) (nu u) t) < a) (tgt := 205) (rest := []) rfl (by decide) (fun c15 => ?_) (fun c15 => ?_)
                      ·
                        refine wk_run C k_MD_may_205 (pc2 := 210) (lv2 := [(7, .int (nI (fo_ V c 0 (nu (V 9 0))))), (6, .int (nI (fo_ V c a (nu (V 9 0))))), (0, .ref y), (1, .int u), (2, .int c), (3, .int a), (4, .long t)]) (st2 := [.ref y, .int a, .int c, .int u, .ref y]) rfl ?_
                        refine wk_get (v := .ref (A 15)) C fd_MD_44 hM.ob rfl d_MD_may_210 ?_
                        refine wk_run C k_MD_may_213 (pc2 := 215) (lv2 := [(7, .int (nI (fo_ V c 0 (nu (V 9 0))))), (6, .int (nI (fo_ V c a (nu (V 9 0))))), (0, .ref y), (1, .int u), (2, .int c), (3, .int a), (4, .long t)]) (st2 := [.int (nI (fo_ V c 0 (nu (V 9 0)))), .ref (A 15), .int a, .int c, .int u, .ref y]) rfl ?_
                        refine wm_ld C hM 15 (j := fo_ V c 0 (nu (V 9 0))) rfl (nI_in (by omega) (by decide)) (nu_nI (by omega)) d_MD_may_215 ?_
                        show Wk _ _ _ _ _ _ _ _ _ _ _ _ _ _ _ _ _ _ _ (.int (V 15 (fo_ V c 0 (nu (V 9 0)))) :: _)
                        refine wk_run C k_MD_may_216 (pc2 := 218) (lv2 := [(7, .int (nI (fo_ V c 0 (nu (V 9 0))))), (6, .int (nI (fo_ V c a (nu (V 9 0))))), (0, .ref y), (1, .int u), (2, .int c), (3, .int a), (4, .long t)]) (st2 := [.int ((V 15 (fo_ V c 0 (nu (V 9 0)))) &&& 1), .int a, .int c, .int u, .ref y]) rfl ?_
                        refine wk_br C d_MD_may_218 (P := ((V 15 (fo_ V c 0 (nu (V 9 0)))) &&& 1) ≤ 0) (tgt := 225) (rest := [.int a, .int c, .int u, .ref y]) rfl (by decide) (fun c16 => ?_) (fun c16 => ?_)
                        ·
                          refine wk_run C k_MD_may_225 (pc2 := 229) (lv2 := [(7, .int (nI (fo_ V c 0 (nu (V 9 0))))), (6, .int (nI (fo_ V c a (nu (V 9 0))))), (0, .ref y), (1, .int u), (2, .int c), (3, .int a), (4, .long t)]) (st2 := [.int 1, .int (nI (fo_ V c 0 (nu (V 9 0)))), .int 0, .int a, .int c, .int u, .ref y]) rfl ?_
                          refine wk_callV (cl := ("ProfileRightsModel", T_MD, 27)) (rest := []) C (c_MD_answered l D HB h h0 y A (vs (vc V 0 0) 26 F) u c a 0 (nI (fo_ V c 0 (nu (V 9 0)))) 1 hR hM) cs_MD_146 kc_MD_answered ki_MD hM.ob rfl rfl rfl (Nat.le_of_ble_eq_true rfl) (Nat.le_of_ble_eq_true rfl) (Nat.le_of_ble_eq_true rfl) (Nat.le_of_ble_eq_true rfl) (Nat.le_of_ble_eq_true rfl) d_MD_may_229 (fun v h hq => ?_) (fun _ _ z => nomatch z.1)
                          obtain ⟨e1, hM⟩ := hq; cases e1
                          rw [an_26] at hM
                          exact wk_iret C ⟨0, 0, an_ (vc V 0 0) u c a 0 (nI (fo_ V c 0 (nu (V 9 0)))) 1, F, by clear C hM hnm; grind [sp_may], rfl, hM⟩ (by decide) (by decide) d_MD_may_232
                        ·
                          refine wk_run C k_MD_may_221 (pc2 := 222) (lv2 := [(7, .int (nI (fo_ V c 0 (nu (V 9 0))))), (6, .int (nI (fo_ V c a (nu (V 9 0))))), (0, .ref y), (1, .int u), (2, .int c), (3, .int a), (4, .long t)]) (st2 := [.int 2, .int a, .int c, .int u, .ref y]) rfl ?_
                          refine wk_goto C d_MD_may_222 (tgt := 226) (by decide) ?_
                          refine wk_run C k_MD_may_226 (pc2 := 229) (lv2 := [(7, .int (nI (fo_ V c 0 (nu (V 9 0))))), (6, .int (nI (fo_ V c a (nu (V 9 0))))), (0, .ref y), (1, .int u), (2, .int c), (3, .int a), (4, .long t)]) (st2 := [.int 1, .int (nI (fo_ V c 0 (nu (V 9 0)))), .int 2, .int a, .int c, .int u, .ref y]) rfl ?_
                          refine wk_callV (cl := ("ProfileRightsModel", T_MD, 27)) (rest := []) C (c_MD_answered l D HB h h0 y A (vs (vc V 0 0) 26 F) u c a 2 (nI (fo_ V c 0 (nu (V 9 0)))) 1 hR hM) cs_MD_146 kc_MD_answered ki_MD hM.ob rfl rfl rfl (Nat.le_of_ble_eq_true rfl) (Nat.le_of_ble_eq_true rfl) (Nat.le_of_ble_eq_true rfl) (Nat.le_of_ble_eq_true rfl) (Nat.le_of_ble_eq_true rfl) d_MD_may_229 (fun v h hq => ?_) (fun _ _ z => nomatch z.1)
                          obtain ⟨e1, hM⟩ := hq; cases e1
                          rw [an_26] at hM
                          exact wk_iret C ⟨0, 2, an_ (vc V 0 0) u c a 2 (nI (fo_ V c 0 (nu (V 9 0)))) 1, F, by clear C hM hnm; grind [sp_may], rfl, hM⟩ (by decide) (by decide) d_MD_may_232
                      ·
                        refine wk_run C k_MD_may_177 (pc2 := 185) (lv2 := [(7, .int (nI (fo_ V c 0 (nu (V 9 0))))), (6, .int (nI (fo_ V c a (nu (V 9 0))))), (0, .ref y), (1, .int u), (2, .int c), (3, .int a), (4, .long t)]) (st2 := [.ref y, .int (nI (fo_ V c 0 (nu (V 9 0)))), .int 1, .int a, .int c, .int u, .ref y]) rfl ?_
                        refine wk_get (v := .ref (A 15)) C fd_MD_44 hM.ob rfl d_MD_may_185 ?_
                        refine wk_run C k_MD_may_188 (pc2 := 190) (lv2 := [(7, .int (nI (fo_ V c 0 (nu (V 9 0))))), (6, .int (nI (fo_ V c a (nu (V 9 0))))), (0, .ref y), (1, .int u), (2, .int c), (3, .int a), (4, .long t)]) (st2 := [.int (nI (fo_ V c 0 (nu (V 9 0)))), .ref (A 15), .int (nI (fo_ V c 0 (nu (V 9 0)))), .int 1, .int a, .int c, .int u, .ref y]) rfl ?_
                        refine wm_ld C hM 15 (j := fo_ V c 0 (nu (V 9 0))) rfl (nI_in (by omega) (by decide)) (nu_nI (by omega)) d_MD_may_190 ?_
                        show Wk _ _ _ _ _ _ _ _ _ _ _ _ _ _ _ _ _ _ _ (.int (V 15 (fo_ V c 0 (nu (V 9 0)))) :: _)
                        refine wk_run C k_MD_may_191 (pc2 := 193) (lv2 := [(7, .int (nI (fo_ V c 0 (nu (V 9 0))))), (6, .int (nI (fo_ V c a (nu (V 9 0))))), (0, .ref y), (1, .int u), (2, .int c), (3, .int a), (4, .long t)]) (st2 := [.int ((V 15 (fo_ V c 0 (nu (V 9 0)))) &&& 2), .int (nI (fo_ V c 0 (nu (V 9 0)))), .int 1, .int a, .int c, .int u, .ref y]) rfl ?_
                        refine wk_br C d_MD_may_193 (P := ((V 15 (fo_ V c 0 (nu (V 9 0)))) &&& 2) ≤ 0) (tgt := 200) (rest := [.int (nI (fo_ V c 0 (nu (V 9 0)))), .int 1, .int a, .int c, .int u, .ref y]) rfl (by decide) (fun c17 => ?_) (fun c17 => ?_)
                        ·
                          refine wk_run C k_MD_may_200 (pc2 := 201) (lv2 := [(7, .int (nI (fo_ V c 0 (nu (V 9 0))))), (6, .int (nI (fo_ V c a (nu (V 9 0))))), (0, .ref y), (1, .int u), (2, .int c), (3, .int a), (4, .long t)]) (st2 := [.int 0, .int (nI (fo_ V c 0 (nu (V 9 0)))), .int 1, .int a, .int c, .int u, .ref y]) rfl ?_
                          refine wk_callV (cl := ("ProfileRightsModel", T_MD, 27)) (rest := []) C (c_MD_answered l D HB h h0 y A (vs (vc V 0 0) 26 F) u c a 1 (nI (fo_ V c 0 (nu (V 9 0)))) 0 hR hM) cs_MD_146 kc_MD_answered ki_MD hM.ob rfl rfl rfl (Nat.le_of_ble_eq_true rfl) (Nat.le_of_ble_eq_true rfl) (Nat.le_of_ble_eq_true rfl) (Nat.le_of_ble_eq_true rfl) (Nat.le_of_ble_eq_true rfl) d_MD_may_201 (fun v h hq => ?_) (fun _ _ z => nomatch z.1)
                          obtain ⟨e1, hM⟩ := hq; cases e1
                          rw [an_26] at hM
                          exact wk_iret C ⟨0, 1, an_ (vc V 0 0) u c a 1 (nI (fo_ V c 0 (nu (V 9 0)))) 0, F, by clear C hM hnm; grind [sp_may], rfl, hM⟩ (by decide) (by decide) d_MD_may_204
                        ·
                          refine wk_run C k_MD_may_196 (pc2 := 197) (lv2 := [(7, .int (nI (fo_ V c 0 (nu (V 9 0))))), (6, .int (nI (fo_ V c a (nu (V 9 0))))), (0, .ref y), (1, .int u), (2, .int c), (3, .int a), (4, .long t)]) (st2 := [.int 1, .int (nI (fo_ V c 0 (nu (V 9 0)))), .int 1, .int a, .int c, .int u, .ref y]) rfl ?_
                          refine wk_goto C d_MD_may_197 (tgt := 201) (by decide) ?_
                          refine wk_callV (cl := ("ProfileRightsModel", T_MD, 27)) (rest := []) C (c_MD_answered l D HB h h0 y A (vs (vc V 0 0) 26 F) u c a 1 (nI (fo_ V c 0 (nu (V 9 0)))) 1 hR hM) cs_MD_146 kc_MD_answered ki_MD hM.ob rfl rfl rfl (Nat.le_of_ble_eq_true rfl) (Nat.le_of_ble_eq_true rfl) (Nat.le_of_ble_eq_true rfl) (Nat.le_of_ble_eq_true rfl) (Nat.le_of_ble_eq_true rfl) d_MD_may_201 (fun v h hq => ?_) (fun _ _ z => nomatch z.1)
                          obtain ⟨e1, hM⟩ := hq; cases e1
                          rw [an_26] at hM
                          exact wk_iret C ⟨0, 1, an_ (vc V 0 0) u c a 1 (nI (fo_ V c 0 (nu (V 9 0)))) 1, F, by clear C hM hnm; grind [sp_may], rfl, hM⟩ (by decide) (by decide) d_MD_may_204
                    ·
                      refine wk_run C k_MD_may_125 (pc2 := 130) (lv2 := [(7, .int (nI (fo_ V c 0 (nu (V 9 0))))), (6, .int (nI (fo_ V c a (nu (V 9 0))))), (0, .ref y), (1, .int u), (2, .int c), (3, .int a), (4, .long t)]) (st2 := [.ref y, .int a, .int c, .int u, .ref y]) rfl ?_
                      refine wk_get (v := .ref (A 10)) C fd_MD_29 hM.ob rfl d_MD_may_130 ?_
                      refine wk_run C k_MD_may_133 (pc2 := 134) (lv2 := [(7, .int (nI (fo_ V c 0 (nu (V 9 0))))), (6, .int (nI (fo_ V c a (nu (V 9 0))))), (0, .ref y), (1, .int u), (2, .int c), (3, .int a), (4, .long t)]) (st2 := [.int c, .ref (A 10), .int a, .int c, .int u, .ref y]) rfl ?_
                      refine wm_ld C hM 10 (j := nu c) rfl (vi_k (ok_c c3.1 c3.2 (show (8 : Int32) = nI (7 + 1) from rfl) (by decide)) (by decide) (by decide)) rfl d_MD_may_134 ?_
                      show Wk _ _ _ _ _ _ _ _ _ _ _ _ _ _ _ _ _ _ _ (.int (V 10 (nu c)) :: _)
                      refine wk_run C k_MD_may_135 (pc2 := 136) (lv2 := [(7, .int (nI (fo_ V c 0 (nu (V 9 0))))), (6, .int (nI (fo_ V c a (nu (V 9 0))))), (0, .ref y), (1, .int u), (2, .int c), (3, .int a), (4, .long t)]) (st2 := [.int 1, .int (V 10 (nu c)), .int a, .int c, .int u, .ref y]) rfl ?_
                      refine wk_br C d_MD_may_136 (P := ¬ (V 10 (nu c)) = 1) (tgt := 143) (rest := [.int a, .int c, .int u, .ref y]) rfl (by decide) (fun c18 => ?_) (fun c18 => ?_)
                      ·
                        refine wk_run C k_MD_may_143 (pc2 := 146) (lv2 := [(7, .int (nI (fo_ V c 0 (nu (V 9 0))))), (6, .int (nI (fo_ V c a (nu (V 9 0))))), (0, .ref y), (1, .int u), (2, .int c), (3, .int a), (4, .long t)]) (st2 := [.ref y, .int 0, .int 0, .int a, .int c, .int u, .ref y]) rfl ?_
                        refine wk_get (v := .ref (A 10)) C fd_MD_29 hM.ob rfl d_MD_may_146 ?_
                        refine wk_run C k_MD_may_149 (pc2 := 150) (lv2 := [(7, .int (nI (fo_ V c 0 (nu (V 9 0))))), (6, .int (nI (fo_ V c a (nu (V 9 0))))), (0, .ref y), (1, .int u), (2, .int c), (3, .int a), (4, .long t)]) (st2 := [.int c, .ref (A 10), .int 0, .int 0, .int a, .int c, .int u, .ref y]) rfl ?_
                        refine wm_ld C hM 10 (j := nu c) rfl (vi_k (ok_c c3.1 c3.2 (show (8 : Int32) = nI (7 + 1) from rfl) (by decide)) (by decide) (by decide)) rfl d_MD_may_150 ?_
                        show Wk _ _ _ _ _ _ _ _ _ _ _ _ _ _ _ _ _ _ _ (.int (V 10 (nu c)) :: _)
                        refine wk_run C k_MD_may_151 (pc2 := 152) (lv2 := [(7, .int (nI (fo_ V c 0 (nu (V 9 0))))), (6, .int (nI (fo_ V c a (nu (V 9 0))))), (0, .ref y), (1, .int u), (2, .int c), (3, .int a), (4, .long t)]) (st2 := [.int 2, .int (V 10 (nu c)), .int 0, .int 0, .int a, .int c, .int u, .ref y]) rfl ?_
                        refine wk_br C d_MD_may_152 (P := ¬ (V 10 (nu c)) = 2) (tgt := 159) (rest := [.int 0, .int 0, .int a, .int c, .int u, .ref y]) rfl (by decide) (fun c19 => ?_) (fun c19 => ?_)
                        ·
                          refine wk_run C k_MD_may_159 (pc2 := 160) (lv2 := [(7, .int (nI (fo_ V c 0 (nu (V 9 0))))), (6, .int (nI (fo_ V c a (nu (V 9 0))))), (0, .ref y), (1, .int u), (2, .int c), (3, .int a), (4, .long t)]) (st2 := [.int 0, .int 0, .int 0, .int a, .int c, .int u, .ref y]) rfl ?_
                          refine wk_callV (cl := ("ProfileRightsModel", T_MD, 27)) (rest := []) C (c_MD_answered l D HB h h0 y A (vs (vc V 0 0) 26 F) u c a 0 0 0 hR hM) cs_MD_146 kc_MD_answered ki_MD hM.ob rfl rfl rfl (Nat.le_of_ble_eq_true rfl) (Nat.le_of_ble_eq_true rfl) (Nat.le_of_ble_eq_true rfl) (Nat.le_of_ble_eq_true rfl) (Nat.le_of_ble_eq_true rfl) d_MD_may_160 (fun v h hq => ?_) (fun _ _ z => nomatch z.1)
                          obtain ⟨e1, hM⟩ := hq; cases e1
                          rw [an_26] at hM
                          exact wk_iret C ⟨0, 0, an_ (vc V 0 0) u c a 0 0 0, F, by clear C hM hnm; grind [sp_may], rfl, hM⟩ (by decide) (by decide) d_MD_may_163
                        ·
                          refine wk_run C k_MD_may_155 (pc2 := 156) (lv2 := [(7, .int (nI (fo_ V c 0 (nu (V 9 0))))), (6, .int (nI (fo_ V c a (nu (V 9 0))))), (0, .ref y), (1, .int u), (2, .int c), (3, .int a), (4, .long t)]) (st2 := [.int 1, .int 0, .int 0, .int a, .int c, .int u, .ref y]) rfl ?_
                          refine wk_goto C d_MD_may_156 (tgt := 160) (by decide) ?_
                          refine wk_callV (cl := ("ProfileRightsModel", T_MD, 27)) (rest := []) C (c_MD_answered l D HB h h0 y A (vs (vc V 0 0) 26 F) u c a 0 0 1 hR hM) cs_MD_146 kc_MD_answered ki_MD hM.ob rfl rfl rfl (Nat.le_of_ble_eq_true rfl) (Nat.le_of_ble_eq_true rfl) (Nat.le_of_ble_eq_true rfl) (Nat.le_of_ble_eq_true rfl) (Nat.le_of_ble_eq_true rfl) d_MD_may_160 (fun v h hq => ?_) (fun _ _ z => nomatch z.1)
                          obtain ⟨e1, hM⟩ := hq; cases e1
                          rw [an_26] at hM
                          exact wk_iret C ⟨0, 0, an_ (vc V 0 0) u c a 0 0 1, F, by clear C hM hnm; grind [sp_may], rfl, hM⟩ (by decide) (by decide) d_MD_may_163
                      ·
                        refine wk_run C k_MD_may_139 (pc2 := 140) (lv2 := [(7, .int (nI (fo_ V c 0 (nu (V 9 0))))), (6, .int (nI (fo_ V c a (nu (V 9 0))))), (0, .ref y), (1, .int u), (2, .int c), (3, .int a), (4, .long t)]) (st2 := [.int 1, .int a, .int c, .int u, .ref y]) rfl ?_
                        refine wk_goto C d_MD_may_140 (tgt := 144) (by decide) ?_
                        refine wk_run C k_MD_may_144 (pc2 := 146) (lv2 := [(7, .int (nI (fo_ V c 0 (nu (V 9 0))))), (6, .int (nI (fo_ V c a (nu (V 9 0))))), (0, .ref y), (1, .int u), (2, .int c), (3, .int a), (4, .long t)]) (st2 := [.ref y, .int 0, .int 1, .int a, .int c, .int u, .ref y]) rfl ?_
                        refine wk_get (v := .ref (A 10)) C fd_MD_29 hM.ob rfl d_MD_may_146 ?_
                        refine wk_run C k_MD_may_149 (pc2 := 150) (lv2 := [(7, .int (nI (fo_ V c 0 (nu (V 9 0))))), (6, .int (nI (fo_ V c a (nu (V 9 0))))), (0, .ref y), (1, .int u), (2, .int c), (3, .int a), (4, .long t)]) (st2 := [.int c, .ref (A 10), .int 0, .int 1, .int a, .int c, .int u, .ref y]) rfl ?_
                        refine wm_ld C hM 10 (j := nu c) rfl (vi_k (ok_c c3.1 c3.2 (show (8 : Int32) = nI (7 + 1) from rfl) (by decide)) (by decide) (by decide)) rfl d_MD_may_150 ?_
                        show Wk _ _ _ _ _ _ _ _ _ _ _ _ _ _ _ _ _ _ _ (.int (V 10 (nu c)) :: _)
                        refine wk_run C k_MD_may_151 (pc2 := 152) (lv2 := [(7, .int (nI (fo_ V c 0 (nu (V 9 0))))), (6, .int (nI (fo_ V c a (nu (V 9 0))))), (0, .ref y), (1, .int u), (2, .int c), (3, .int a), (4, .long t)]) (st2 := [.int 2, .int (V 10 (nu c)), .int 0, .int 1, .int a, .int c, .int u, .ref y]) rfl ?_
                        refine wk_br C d_MD_may_152 (P := ¬ (V 10 (nu c)) = 2) (tgt := 159) (rest := [.int 0, .int 1, .int a, .int c, .int u, .ref y]) rfl (by decide) (fun c20 => ?_) (fun c20 => ?_)
                        ·
                          refine wk_run C k_MD_may_159 (pc2 := 160) (lv2 := [(7, .int (nI (fo_ V c 0 (nu (V 9 0))))), (6, .int (nI (fo_ V c a (nu (V 9 0))))), (0, .ref y), (1, .int u), (2, .int c), (3, .int a), (4, .long t)]) (st2 := [.int 0, .int 0, .int 1, .int a, .int c, .int u, .ref y]) rfl ?_
                          refine wk_callV (cl := ("ProfileRightsModel", T_MD, 27)) (rest := []) C (c_MD_answered l D HB h h0 y A (vs (vc V 0 0) 26 F) u c a 1 0 0 hR hM) cs_MD_146 kc_MD_answered ki_MD hM.ob rfl rfl rfl (Nat.le_of_ble_eq_true rfl) (Nat.le_of_ble_eq_true rfl) (Nat.le_of_ble_eq_true rfl) (Nat.le_of_ble_eq_true rfl) (Nat.le_of_ble_eq_true rfl) d_MD_may_160 (fun v h hq => ?_) (fun _ _ z => nomatch z.1)
                          obtain ⟨e1, hM⟩ := hq; cases e1
                          rw [an_26] at hM
                          exact wk_iret C ⟨0, 1, an_ (vc V 0 0) u c a 1 0 0, F, by clear C hM hnm; grind [sp_may], rfl, hM⟩ (by decide) (by decide) d_MD_may_163
                        ·
                          refine wk_run C k_MD_may_155 (pc2 := 156) (lv2 := [(7, .int (nI (fo_ V c 0 (nu (V 9 0))))), (6, .int (nI (fo_ V c a (nu (V 9 0))))), (0, .ref y), (1, .int u), (2, .int c), (3, .int a), (4, .long t)]) (st2 := [.int 1, .int 0, .int 1, .int a, .int c, .int u, .ref y]) rfl ?_
                          refine wk_goto C d_MD_may_156 (tgt := 160) (by decide) ?_
                          refine wk_callV (cl := ("ProfileRightsModel", T_MD, 27)) (rest := []) C (c_MD_answered l D HB h h0 y A (vs (vc V 0 0) 26 F) u c a 1 0 1 hR hM) cs_MD_146 kc_MD_answered ki_MD hM.ob rfl rfl rfl (Nat.le_of_ble_eq_true rfl) (Nat.le_of_ble_eq_true rfl) (Nat.le_of_ble_eq_true rfl) (Nat.le_of_ble_eq_true rfl) (Nat.le_of_ble_eq_true rfl) d_MD_may_160 (fun v h hq => ?_) (fun _ _ z => nomatch z.1)
                          obtain ⟨e1, hM⟩ := hq; cases e1
                          rw [an_26] at hM
                          exact wk_iret C ⟨0, 1, an_ (vc V 0 0) u c a 1 0 1, F, by clear C hM hnm; grind [sp_may], rfl, hM⟩ (by decide) (by decide) d_MD_may_163
                  ·
                    refine wk_run C k_MD_may_100 (pc2 := 108) (lv2 := [(6, .int (nI (fo_ V c a (nu (V 9 0))))), (0, .ref y), (1, .int u), (2, .int c), (3, .int a), (4, .long t)]) (st2 := [.int 0, .int (nI (fo_ V c a (nu (V 9 0)))), .int 1, .int a, .int c, .int u, .ref y]) rfl ?_
                    refine wk_callV (cl := ("ProfileRightsModel", T_MD, 27)) (rest := []) C (c_MD_answered l D HB h h0 y A (vs (vc V 0 0) 26 F) u c a 1 (nI (fo_ V c a (nu (V 9 0)))) 0 hR hM) cs_MD_146 kc_MD_answered ki_MD hM.ob rfl rfl rfl (Nat.le_of_ble_eq_true rfl) (Nat.le_of_ble_eq_true rfl) (Nat.le_of_ble_eq_true rfl) (Nat.le_of_ble_eq_true rfl) (Nat.le_of_ble_eq_true rfl) d_MD_may_108 (fun v h hq => ?_) (fun _ _ z => nomatch z.1)
                    obtain ⟨e1, hM⟩ := hq; cases e1
                    rw [an_26] at hM
                    exact wk_iret C ⟨0, 1, an_ (vc V 0 0) u c a 1 (nI (fo_ V c a (nu (V 9 0)))) 0, F, by clear C hM hnm; grind [sp_may], rfl, hM⟩ (by decide) (by decide) d_MD_may_111
                ·
                  refine wk_run C k_MD_may_76 (pc2 := 83) (lv2 := [(0, .ref y), (1, .int u), (2, .int c), (3, .int a), (4, .long t)]) (st2 := [.int 0, .int 0, .int 1, .int a, .int c, .int u, .ref y]) rfl ?_
                  refine wk_callV (cl := ("ProfileRightsModel", T_MD, 27)) (rest := []) C (c_MD_answered l D HB h h0 y A (vc (V) 0 0) u c a 1 0 0 hR hM) cs_MD_146 kc_MD_answered ki_MD hM.ob rfl rfl rfl (Nat.le_of_ble_eq_true rfl) (Nat.le_of_ble_eq_true rfl) (Nat.le_of_ble_eq_true rfl) (Nat.le_of_ble_eq_true rfl) (Nat.le_of_ble_eq_true rfl) d_MD_may_83 (fun v h hq => ?_) (fun _ _ z => nomatch z.1)
                  obtain ⟨e1, hM⟩ := hq; cases e1
                  exact wk_iret C ⟨0, 1, an_ (vc V 0 0) u c a 1 0 0, (an_ (vc V 0 0) u c a 1 0 0) 26, by clear C hM hnm; grind [sp_may], rfl, by rw [vs_id rfl]; exact hM⟩ (by decide) (by decide) d_MD_may_86
              ·
                refine wk_run C k_MD_may_56 (pc2 := 63) (lv2 := [(0, .ref y), (1, .int u), (2, .int c), (3, .int a), (4, .long t)]) (st2 := [.int 1, .int 0, .int 0, .int a, .int c, .int u, .ref y]) rfl ?_
                refine wk_callV (cl := ("ProfileRightsModel", T_MD, 27)) (rest := []) C (c_MD_answered l D HB h h0 y A (vc (V) 0 0) u c a 0 0 1 hR hM) cs_MD_146 kc_MD_answered ki_MD hM.ob rfl rfl rfl (Nat.le_of_ble_eq_true rfl) (Nat.le_of_ble_eq_true rfl) (Nat.le_of_ble_eq_true rfl) (Nat.le_of_ble_eq_true rfl) (Nat.le_of_ble_eq_true rfl) d_MD_may_63 (fun v h hq => ?_) (fun _ _ z => nomatch z.1)
                obtain ⟨e1, hM⟩ := hq; cases e1
                exact wk_iret C ⟨0, 0, an_ (vc V 0 0) u c a 0 0 1, (an_ (vc V 0 0) u c a 0 0 1) 26, by clear C hM hnm; grind [sp_may], rfl, by rw [vs_id rfl]; exact hM⟩ (by decide) (by decide) d_MD_may_66
            ·
              exact absurd (by decide) c10
          ·
            refine wk_run C k_MD_may_33 (pc2 := 34) (lv2 := [(0, .ref y), (1, .int u), (2, .int c), (3, .int a), (4, .long t)]) (st2 := [.int 1, .ref y]) rfl ?_
            refine wk_goto C d_MD_may_34 (tgt := 38) (by decide) ?_
            refine wk_run C k_MD_may_38 (pc2 := 39) (lv2 := [(0, .ref y), (1, .int u), (2, .int c), (3, .int a), (4, .long t)]) (st2 := [.int 0, .int 1, .ref y]) rfl ?_
            refine wk_callV (cl := ("ProfileRightsModel", T_MD, 27)) (rest := []) C (c_MD_f1 l D HB h h0 y A (V) hM) cs_MD_88 kc_MD_fails ki_MD hM.ob rfl rfl rfl (Nat.le_of_ble_eq_true rfl) (Nat.le_of_ble_eq_true rfl) (Nat.le_of_ble_eq_true rfl) (Nat.le_of_ble_eq_true rfl) (Nat.le_of_ble_eq_true rfl) d_MD_may_39 (fun v h hq => ?_) (fun _ _ z => nomatch z.1)
            obtain ⟨e1, hM⟩ := hq; cases e1
            refine wk_br C d_MD_may_42 (P := 1 = 0) (tgt := 47) (rest := []) rfl (by decide) (fun c21 => ?_) (fun c21 => ?_)
            ·
              exact absurd c21 (by decide)
            ·
              refine wk_run C k_MD_may_45 (pc2 := 46) (lv2 := [(0, .ref y), (1, .int u), (2, .int c), (3, .int a), (4, .long t)]) (st2 := [.int 0]) rfl ?_
              exact wk_iret C ⟨1, 0, vc (V) 0 1, (vc (V) 0 1) 26, by clear C hM hnm; grind [sp_may], rfl, by rw [vs_id rfl]; exact hM⟩ (by decide) (by decide) d_MD_may_46
/-- the reference as it is made: the arrays of L stand -/
def mi_ (D : va_G) (h0 h : hp_T) (y : Nat) (L : List (Nat × Nat)) (fs : List Value) : Prop :=
  h y = some (.inr (8, fs)) ∧ (∀ k q t n, (k, q) ∈ L → ml_ k = some (t, n) → h q = some (.inl (D.1 t, n, .inl (fun _ => 0)))) ∧ (∀ k q, (k, q) ∈ L → h0 q = none ∧ ml_ k ≠ none) ∧ (∀ k q j r, (k, q) ∈ L → (j, r) ∈ L → q = r → k = j) ∧ (∀ q x, q ≠ y → (∀ k r, (k, r) ∈ L → q ≠ r) → h0 q = some x → h q = some x)
theorem mi_s {D : va_G} {h0 h : hp_T} {y : Nat} {L : List (Nat × Nat)} {fs : List Value} (M : mi_ D h0 h y L fs) {k q t n : Nat} (hk : ml_ k = some (t, n)) (hq : h q = none) (fs2 : List Value) : mi_ D h0 (hp_up (hp_up h q (.inl (D.1 t, n, .inl (fun _ => 0)))) y (.inr (8, fs2))) y ((k, q) :: L) fs2 := by
  obtain ⟨m1, m2, m3, m4, m5⟩ := M
  have hy : q ≠ y := fun z => by rw [z, m1] at hq; cases hq
  have live : ∀ j r, (j, r) ∈ L → h r ≠ none ∧ r ≠ y := by
    intro j r hj
    cases e : ml_ j with
    | none => exact absurd e (m3 j r hj).2
    | some tn =>
      have := m2 j r tn.1 tn.2 hj e
      refine ⟨by rw [this]; exact (fun z => nomatch z), fun z => ?_⟩
      rw [z, m1] at this; cases this
  have nq : ∀ j r, (j, r) ∈ L → r ≠ q := fun j r hj z => (live j r hj).1 (by rw [z]; exact hq)
  refine ⟨hp_us, ?_, ?_, ?_, ?_⟩
  · intro j r t2 n2 hj ht
    rcases List.mem_cons.mp hj with z | z
    · cases z; rw [hk] at ht; cases ht; rw [hp_un hy, hp_us]
    · rw [hp_un (live j r z).2, hp_un (nq j r z)]; exact m2 j r t2 n2 z ht
  · intro j r hj
    rcases List.mem_cons.mp hj with z | z
    · cases z
      refine ⟨?_, by rw [hk]; exact fun z => nomatch z⟩
      cases e : h0 q with
      | none => rfl
      | some x => exact absurd (m5 q x hy (fun j r hj z => nq j r hj z.symm) e) (by rw [hq]; exact fun z => nomatch z)
    · exact m3 j r z
  · intro j r j2 r2 h1 h2 e
    rcases List.mem_cons.mp h1 with z | z
    · rcases List.mem_cons.mp h2 with z2 | z2
      · cases z; cases z2; rfl
      · cases z; exact absurd e.symm (nq j2 r2 z2)
    · rcases List.mem_cons.mp h2 with z2 | z2
      · cases z2; exact absurd e (nq j r z)
      · exact m4 j r j2 r2 z z2 e
  · intro r x hr hA hx
    rw [hp_un hr, hp_un (fun z => hA k q List.mem_cons_self z)]
    exact m5 r x hr (fun j r2 hj => hA j r2 (List.mem_cons_of_mem _ hj)) hx
theorem ml_in {k : Nat} (h : ml_ k ≠ none) : k ∈ [1, 2, 3, 4, 5, 6, 10, 11, 12, 13, 14, 15, 16, 17, 18, 19, 20, 21, 24, 26] := by
  by_cases hk : k < 27
  · have : ∀ j, j < 27 → ml_ j ≠ none → j ∈ [1, 2, 3, 4, 5, 6, 10, 11, 12, 13, 14, 15, 16, 17, 18, 19, 20, 21, 24, 26] := by decide
    exact this k hk h
  · exact absurd (by unfold ml_; rw [List.getD_eq_getElem?_getD, List.getElem?_eq_none (by exact Nat.not_lt.mp hk)]; rfl) h

theorem k_MD_init_0 : px_dec prog_9_method_1_code [.aload_n 0] 0 = true := by decide +kernel
theorem d_MD_init_1 : decode prog_9_method_1_code 1 = .ok (.invokespecial 1, 3) := by decide +kernel
theorem k_MD_init_4 : px_dec prog_9_method_1_code [.aload_n 0, .bipush 21] 4 = true := by decide +kernel
theorem d_MD_init_7 : decode prog_9_method_1_code 7 = .ok (.newarray .int, 2) := by decide +kernel
theorem d_MD_init_9 : decode prog_9_method_1_code 9 = .ok (.putfield 7, 3) := by decide +kernel
theorem k_MD_init_12 : px_dec prog_9_method_1_code [.aload_n 0, .bipush 41] 12 = true := by decide +kernel
theorem d_MD_init_15 : decode prog_9_method_1_code 15 = .ok (.newarray .int, 2) := by decide +kernel
theorem d_MD_init_17 : decode prog_9_method_1_code 17 = .ok (.putfield 13, 3) := by decide +kernel
theorem k_MD_init_20 : px_dec prog_9_method_1_code [.aload_n 0, .bipush 41] 20 = true := by decide +kernel
theorem d_MD_init_23 : decode prog_9_method_1_code 23 = .ok (.newarray .int, 2) := by decide +kernel
theorem d_MD_init_25 : decode prog_9_method_1_code 25 = .ok (.putfield 16, 3) := by decide +kernel
theorem k_MD_init_28 : px_dec prog_9_method_1_code [.aload_n 0, .bipush 41] 28 = true := by decide +kernel
theorem d_MD_init_31 : decode prog_9_method_1_code 31 = .ok (.newarray .int, 2) := by decide +kernel
theorem d_MD_init_33 : decode prog_9_method_1_code 33 = .ok (.putfield 19, 3) := by decide +kernel
theorem k_MD_init_36 : px_dec prog_9_method_1_code [.aload_n 0, .bipush 41] 36 = true := by decide +kernel
theorem d_MD_init_39 : decode prog_9_method_1_code 39 = .ok (.newarray .boolean, 2) := by decide +kernel
theorem d_MD_init_41 : decode prog_9_method_1_code 41 = .ok (.putfield 22, 3) := by decide +kernel
theorem k_MD_init_44 : px_dec prog_9_method_1_code [.aload_n 0, .sipush 1681] 44 = true := by decide +kernel
theorem d_MD_init_48 : decode prog_9_method_1_code 48 = .ok (.newarray .boolean, 2) := by decide +kernel
theorem d_MD_init_50 : decode prog_9_method_1_code 50 = .ok (.putfield 26, 3) := by decide +kernel
theorem k_MD_init_53 : px_dec prog_9_method_1_code [.aload_n 0, .bipush 8] 53 = true := by decide +kernel
theorem d_MD_init_56 : decode prog_9_method_1_code 56 = .ok (.newarray .int, 2) := by decide +kernel
theorem d_MD_init_58 : decode prog_9_method_1_code 58 = .ok (.putfield 29, 3) := by decide +kernel
theorem k_MD_init_61 : px_dec prog_9_method_1_code [.aload_n 0, .bipush 61] 61 = true := by decide +kernel
theorem d_MD_init_64 : decode prog_9_method_1_code 64 = .ok (.newarray .int, 2) := by decide +kernel
theorem d_MD_init_66 : decode prog_9_method_1_code 66 = .ok (.putfield 32, 3) := by decide +kernel
theorem k_MD_init_69 : px_dec prog_9_method_1_code [.aload_n 0, .sipush 1220] 69 = true := by decide +kernel
theorem d_MD_init_73 : decode prog_9_method_1_code 73 = .ok (.newarray .int, 2) := by decide +kernel
theorem d_MD_init_75 : decode prog_9_method_1_code 75 = .ok (.putfield 35, 3) := by decide +kernel
theorem k_MD_init_78 : px_dec prog_9_method_1_code [.aload_n 0, .bipush 61] 78 = true := by decide +kernel
theorem d_MD_init_81 : decode prog_9_method_1_code 81 = .ok (.newarray .int, 2) := by decide +kernel
theorem d_MD_init_83 : decode prog_9_method_1_code 83 = .ok (.putfield 38, 3) := by decide +kernel
theorem k_MD_init_86 : px_dec prog_9_method_1_code [.aload_n 0, .bipush 61] 86 = true := by decide +kernel
theorem d_MD_init_89 : decode prog_9_method_1_code 89 = .ok (.newarray .int, 2) := by decide +kernel
theorem d_MD_init_91 : decode prog_9_method_1_code 91 = .ok (.putfield 41, 3) := by decide +kernel
theorem k_MD_init_94 : px_dec prog_9_method_1_code [.aload_n 0, .bipush 61] 94 = true := by decide +kernel
theorem d_MD_init_97 : decode prog_9_method_1_code 97 = .ok (.newarray .int, 2) := by decide +kernel
theorem d_MD_init_99 : decode prog_9_method_1_code 99 = .ok (.putfield 44, 3) := by decide +kernel
theorem k_MD_init_102 : px_dec prog_9_method_1_code [.aload_n 0, .bipush 61] 102 = true := by decide +kernel
theorem d_MD_init_105 : decode prog_9_method_1_code 105 = .ok (.newarray .int, 2) := by decide +kernel
theorem d_MD_init_107 : decode prog_9_method_1_code 107 = .ok (.putfield 47, 3) := by decide +kernel
theorem k_MD_init_110 : px_dec prog_9_method_1_code [.aload_n 0, .sipush 610] 110 = true := by decide +kernel
theorem d_MD_init_114 : decode prog_9_method_1_code 114 = .ok (.newarray .int, 2) := by decide +kernel
theorem d_MD_init_116 : decode prog_9_method_1_code 116 = .ok (.putfield 50, 3) := by decide +kernel
theorem k_MD_init_119 : px_dec prog_9_method_1_code [.aload_n 0, .sipush 610] 119 = true := by decide +kernel
theorem d_MD_init_123 : decode prog_9_method_1_code 123 = .ok (.newarray .int, 2) := by decide +kernel
theorem d_MD_init_125 : decode prog_9_method_1_code 125 = .ok (.putfield 53, 3) := by decide +kernel
theorem k_MD_init_128 : px_dec prog_9_method_1_code [.aload_n 0, .sipush 610] 128 = true := by decide +kernel
theorem d_MD_init_132 : decode prog_9_method_1_code 132 = .ok (.newarray .int, 2) := by decide +kernel
theorem d_MD_init_134 : decode prog_9_method_1_code 134 = .ok (.putfield 56, 3) := by decide +kernel
theorem k_MD_init_137 : px_dec prog_9_method_1_code [.aload_n 0, .sipush 610] 137 = true := by decide +kernel
theorem d_MD_init_141 : decode prog_9_method_1_code 141 = .ok (.newarray .int, 2) := by decide +kernel
theorem d_MD_init_143 : decode prog_9_method_1_code 143 = .ok (.putfield 59, 3) := by decide +kernel
theorem k_MD_init_146 : px_dec prog_9_method_1_code [.aload_n 0, .bipush 20] 146 = true := by decide +kernel
theorem d_MD_init_149 : decode prog_9_method_1_code 149 = .ok (.newarray .int, 2) := by decide +kernel
theorem d_MD_init_151 : decode prog_9_method_1_code 151 = .ok (.putfield 62, 3) := by decide +kernel
theorem k_MD_init_154 : px_dec prog_9_method_1_code [.aload_n 0, .sipush 1000] 154 = true := by decide +kernel
theorem d_MD_init_158 : decode prog_9_method_1_code 158 = .ok (.newarray .int, 2) := by decide +kernel
theorem d_MD_init_160 : decode prog_9_method_1_code 160 = .ok (.putfield 65, 3) := by decide +kernel
theorem k_MD_init_163 : px_dec prog_9_method_1_code [.aload_n 0, .sipush 441] 163 = true := by decide +kernel
theorem d_MD_init_167 : decode prog_9_method_1_code 167 = .ok (.newarray .boolean, 2) := by decide +kernel
theorem d_MD_init_169 : decode prog_9_method_1_code 169 = .ok (.putfield 68, 3) := by decide +kernel
theorem d_MD_init_172 : decode prog_9_method_1_code 172 = .ok (.return_, 1) := by decide +kernel
set_option maxRecDepth 100000 in
set_option maxHeartbeats 4000000 in
theorem c_MD_init (l : Launch) (D : va_G) (HB : Heap) (h : hp_T) (y : Nat) (hy : h y = some (.inr (8, [.int 0, .null, .null, .null, .null, .null, .null, .int 0, .int 0, .int 0, .null, .null, .null, .null, .null, .null, .null, .null, .null, .null, .null, .null, .int 0, .int 0, .null, .int 0, .null]))) : ct_M l y_MD_init (.code y_MD_init prog_9_method_1_code 1 (Option.none : Option Jvm.ClassFile.FieldType)) ({ frames := 1, cells := 20, slots := 12000, locals := 14 }) D HB [.ref y] h (fun o h2 => o = .inl none ∧ ∃ A : Nat → Nat, mq D h h2 y A (fun _ _ => 0) ∧ ∀ k, ml_ k ≠ none → h (A k) = none) := by
  refine ct_of (by decide) (Nat.le_of_ble_eq_true rfl) rfl ?_
  intro p_ e_ s_ m_ r_ b_ t_ c_ C hnm
  have M : mi_ D h h y [] [.int 0, .null, .null, .null, .null, .null, .null, .int 0, .int 0, .int 0, .null, .null, .null, .null, .null, .null, .null, .null, .null, .null, .null, .null, .int 0, .int 0, .null, .int 0, .null] := ⟨hy, fun _ _ _ _ z => absurd z List.not_mem_nil, fun _ _ z => absurd z List.not_mem_nil, fun _ _ _ _ z => absurd z List.not_mem_nil, fun _ _ _ _ z => z⟩
  refine wk_run C k_MD_init_0 (pc2 := 1) (lv2 := [(0, .ref y)]) (st2 := [.ref y]) rfl ?_
  refine wk_obj C ml_MD_1 kj_in kj_cd (by decide) (by decide) d_MD_init_1 ?_
  refine wk_run C k_MD_init_4 (pc2 := 7) (lv2 := [(0, .ref y)]) (st2 := [.int 21, .ref y]) rfl ?_
  refine wk_newi C ka_int (show (21 : Int32) = nI 21 from rfl) (by decide) (Nat.le_of_ble_eq_true rfl) (Nat.le_of_ble_eq_true rfl) d_MD_init_7 (fun q0 g0 => ?_)
  have ny0 : y ≠ q0 := fun z => by rw [← z, M.1] at g0; cases g0
  refine wk_putF (fs2 := [.int 0, .ref q0, .null, .null, .null, .null, .null, .int 0, .int 0, .int 0, .null, .null, .null, .null, .null, .null, .null, .null, .null, .null, .null, .null, .int 0, .int 0, .null, .int 0, .null]) C ff_MD_7 hnm (by rw [hp_un ny0]; exact M.1) rfl rfl (Nat.le_of_ble_eq_true rfl) rfl d_MD_init_9 ?_
  replace M := mi_s M (k := 1) (t := 100) (n := 21) rfl g0 [.int 0, .ref q0, .null, .null, .null, .null, .null, .int 0, .int 0, .int 0, .null, .null, .null, .null, .null, .null, .null, .null, .null, .null, .null, .null, .int 0, .int 0, .null, .int 0, .null]
  clear ny0 g0
  generalize hp_up (hp_up _ q0 _) y _ = h0 at M ⊢
  refine wk_run C k_MD_init_12 (pc2 := 15) (lv2 := [(0, .ref y)]) (st2 := [.int 41, .ref y]) rfl ?_
  refine wk_newi C ka_int (show (41 : Int32) = nI 41 from rfl) (by decide) (Nat.le_of_ble_eq_true rfl) (Nat.le_of_ble_eq_true rfl) d_MD_init_15 (fun q1 g1 => ?_)
  have ny1 : y ≠ q1 := fun z => by rw [← z, M.1] at g1; cases g1
  refine wk_putF (fs2 := [.int 0, .ref q0, .ref q1, .null, .null, .null, .null, .int 0, .int 0, .int 0, .null, .null, .null, .null, .null, .null, .null, .null, .null, .null, .null, .null, .int 0, .int 0, .null, .int 0, .null]) C ff_MD_13 hnm (by rw [hp_un ny1]; exact M.1) rfl rfl (Nat.le_of_ble_eq_true rfl) rfl d_MD_init_17 ?_
  replace M := mi_s M (k := 2) (t := 100) (n := 41) rfl g1 [.int 0, .ref q0, .ref q1, .null, .null, .null, .null, .int 0, .int 0, .int 0, .null, .null, .null, .null, .null, .null, .null, .null, .null, .null, .null, .null, .int 0, .int 0, .null, .int 0, .null]
  clear ny1 g1
  generalize hp_up (hp_up _ q1 _) y _ = h1 at M ⊢
  refine wk_run C k_MD_init_20 (pc2 := 23) (lv2 := [(0, .ref y)]) (st2 := [.int 41, .ref y]) rfl ?_
  refine wk_newi C ka_int (show (41 : Int32) = nI 41 from rfl) (by decide) (Nat.le_of_ble_eq_true rfl) (Nat.le_of_ble_eq_true rfl) d_MD_init_23 (fun q2 g2 => ?_)
  have ny2 : y ≠ q2 := fun z => by rw [← z, M.1] at g2; cases g2
  refine wk_putF (fs2 := [.int 0, .ref q0, .ref q1, .ref q2, .null, .null, .null, .int 0, .int 0, .int 0, .null, .null, .null, .null, .null, .null, .null, .null, .null, .null, .null, .null, .int 0, .int 0, .null, .int 0, .null]) C ff_MD_16 hnm (by rw [hp_un ny2]; exact M.1) rfl rfl (Nat.le_of_ble_eq_true rfl) rfl d_MD_init_25 ?_
  replace M := mi_s M (k := 3) (t := 100) (n := 41) rfl g2 [.int 0, .ref q0, .ref q1, .ref q2, .null, .null, .null, .int 0, .int 0, .int 0, .null, .null, .null, .null, .null, .null, .null, .null, .null, .null, .null, .null, .int 0, .int 0, .null, .int 0, .null]
  clear ny2 g2
  generalize hp_up (hp_up _ q2 _) y _ = h2 at M ⊢
  refine wk_run C k_MD_init_28 (pc2 := 31) (lv2 := [(0, .ref y)]) (st2 := [.int 41, .ref y]) rfl ?_
  refine wk_newi C ka_int (show (41 : Int32) = nI 41 from rfl) (by decide) (Nat.le_of_ble_eq_true rfl) (Nat.le_of_ble_eq_true rfl) d_MD_init_31 (fun q3 g3 => ?_)
  have ny3 : y ≠ q3 := fun z => by rw [← z, M.1] at g3; cases g3
  refine wk_putF (fs2 := [.int 0, .ref q0, .ref q1, .ref q2, .ref q3, .null, .null, .int 0, .int 0, .int 0, .null, .null, .null, .null, .null, .null, .null, .null, .null, .null, .null, .null, .int 0, .int 0, .null, .int 0, .null]) C ff_MD_19 hnm (by rw [hp_un ny3]; exact M.1) rfl rfl (Nat.le_of_ble_eq_true rfl) rfl d_MD_init_33 ?_
  replace M := mi_s M (k := 4) (t := 100) (n := 41) rfl g3 [.int 0, .ref q0, .ref q1, .ref q2, .ref q3, .null, .null, .int 0, .int 0, .int 0, .null, .null, .null, .null, .null, .null, .null, .null, .null, .null, .null, .null, .int 0, .int 0, .null, .int 0, .null]
  clear ny3 g3
  generalize hp_up (hp_up _ q3 _) y _ = h3 at M ⊢
  refine wk_run C k_MD_init_36 (pc2 := 39) (lv2 := [(0, .ref y)]) (st2 := [.int 41, .ref y]) rfl ?_
  refine wk_newz C ka_boolean (show (41 : Int32) = nI 41 from rfl) (by decide) (Nat.le_of_ble_eq_true rfl) (Nat.le_of_ble_eq_true rfl) d_MD_init_39 (fun q4 g4 => ?_)
  have ny4 : y ≠ q4 := fun z => by rw [← z, M.1] at g4; cases g4
  refine wk_putF (fs2 := [.int 0, .ref q0, .ref q1, .ref q2, .ref q3, .ref q4, .null, .int 0, .int 0, .int 0, .null, .null, .null, .null, .null, .null, .null, .null, .null, .null, .null, .null, .int 0, .int 0, .null, .int 0, .null]) C ff_MD_22 hnm (by rw [hp_un ny4]; exact M.1) rfl rfl (Nat.le_of_ble_eq_true rfl) rfl d_MD_init_41 ?_
  replace M := mi_s M (k := 5) (t := 103) (n := 41) rfl g4 [.int 0, .ref q0, .ref q1, .ref q2, .ref q3, .ref q4, .null, .int 0, .int 0, .int 0, .null, .null, .null, .null, .null, .null, .null, .null, .null, .null, .null, .null, .int 0, .int 0, .null, .int 0, .null]
  clear ny4 g4
  generalize hp_up (hp_up _ q4 _) y _ = h4 at M ⊢
  refine wk_run C k_MD_init_44 (pc2 := 48) (lv2 := [(0, .ref y)]) (st2 := [.int 1681, .ref y]) rfl ?_
  refine wk_newz C ka_boolean (show (1681 : Int32) = nI 1681 from rfl) (by decide) (Nat.le_of_ble_eq_true rfl) (Nat.le_of_ble_eq_true rfl) d_MD_init_48 (fun q5 g5 => ?_)
  have ny5 : y ≠ q5 := fun z => by rw [← z, M.1] at g5; cases g5
  refine wk_putF (fs2 := [.int 0, .ref q0, .ref q1, .ref q2, .ref q3, .ref q4, .ref q5, .int 0, .int 0, .int 0, .null, .null, .null, .null, .null, .null, .null, .null, .null, .null, .null, .null, .int 0, .int 0, .null, .int 0, .null]) C ff_MD_26 hnm (by rw [hp_un ny5]; exact M.1) rfl rfl (Nat.le_of_ble_eq_true rfl) rfl d_MD_init_50 ?_
  replace M := mi_s M (k := 6) (t := 103) (n := 1681) rfl g5 [.int 0, .ref q0, .ref q1, .ref q2, .ref q3, .ref q4, .ref q5, .int 0, .int 0, .int 0, .null, .null, .null, .null, .null, .null, .null, .null, .null, .null, .null, .null, .int 0, .int 0, .null, .int 0, .null]
  clear ny5 g5
  generalize hp_up (hp_up _ q5 _) y _ = h5 at M ⊢
  refine wk_run C k_MD_init_53 (pc2 := 56) (lv2 := [(0, .ref y)]) (st2 := [.int 8, .ref y]) rfl ?_
  refine wk_newi C ka_int (show (8 : Int32) = nI 8 from rfl) (by decide) (Nat.le_of_ble_eq_true rfl) (Nat.le_of_ble_eq_true rfl) d_MD_init_56 (fun q6 g6 => ?_)
  have ny6 : y ≠ q6 := fun z => by rw [← z, M.1] at g6; cases g6
  refine wk_putF (fs2 := [.int 0, .ref q0, .ref q1, .ref q2, .ref q3, .ref q4, .ref q5, .int 0, .int 0, .int 0, .ref q6, .null, .null, .null, .null, .null, .null, .null, .null, .null, .null, .null, .int 0, .int 0, .null, .int 0, .null]) C ff_MD_29 hnm (by rw [hp_un ny6]; exact M.1) rfl rfl (Nat.le_of_ble_eq_true rfl) rfl d_MD_init_58 ?_
  replace M := mi_s M (k := 10) (t := 100) (n := 8) rfl g6 [.int 0, .ref q0, .ref q1, .ref q2, .ref q3, .ref q4, .ref q5, .int 0, .int 0, .int 0, .ref q6, .null, .null, .null, .null, .null, .null, .null, .null, .null, .null, .null, .int 0, .int 0, .null, .int 0, .null]
  clear ny6 g6
  generalize hp_up (hp_up _ q6 _) y _ = h6 at M ⊢
  refine wk_run C k_MD_init_61 (pc2 := 64) (lv2 := [(0, .ref y)]) (st2 := [.int 61, .ref y]) rfl ?_
  refine wk_newi C ka_int (show (61 : Int32) = nI 61 from rfl) (by decide) (Nat.le_of_ble_eq_true rfl) (Nat.le_of_ble_eq_true rfl) d_MD_init_64 (fun q7 g7 => ?_)
  have ny7 : y ≠ q7 := fun z => by rw [← z, M.1] at g7; cases g7
  refine wk_putF (fs2 := [.int 0, .ref q0, .ref q1, .ref q2, .ref q3, .ref q4, .ref q5, .int 0, .int 0, .int 0, .ref q6, .ref q7, .null, .null, .null, .null, .null, .null, .null, .null, .null, .null, .int 0, .int 0, .null, .int 0, .null]) C ff_MD_32 hnm (by rw [hp_un ny7]; exact M.1) rfl rfl (Nat.le_of_ble_eq_true rfl) rfl d_MD_init_66 ?_
  replace M := mi_s M (k := 11) (t := 100) (n := 61) rfl g7 [.int 0, .ref q0, .ref q1, .ref q2, .ref q3, .ref q4, .ref q5, .int 0, .int 0, .int 0, .ref q6, .ref q7, .null, .null, .null, .null, .null, .null, .null, .null, .null, .null, .int 0, .int 0, .null, .int 0, .null]
  clear ny7 g7
  generalize hp_up (hp_up _ q7 _) y _ = h7 at M ⊢
  refine wk_run C k_MD_init_69 (pc2 := 73) (lv2 := [(0, .ref y)]) (st2 := [.int 1220, .ref y]) rfl ?_
  refine wk_newi C ka_int (show (1220 : Int32) = nI 1220 from rfl) (by decide) (Nat.le_of_ble_eq_true rfl) (Nat.le_of_ble_eq_true rfl) d_MD_init_73 (fun q8 g8 => ?_)
  have ny8 : y ≠ q8 := fun z => by rw [← z, M.1] at g8; cases g8
  refine wk_putF (fs2 := [.int 0, .ref q0, .ref q1, .ref q2, .ref q3, .ref q4, .ref q5, .int 0, .int 0, .int 0, .ref q6, .ref q7, .ref q8, .null, .null, .null, .null, .null, .null, .null, .null, .null, .int 0, .int 0, .null, .int 0, .null]) C ff_MD_35 hnm (by rw [hp_un ny8]; exact M.1) rfl rfl (Nat.le_of_ble_eq_true rfl) rfl d_MD_init_75 ?_
  replace M := mi_s M (k := 12) (t := 100) (n := 1220) rfl g8 [.int 0, .ref q0, .ref q1, .ref q2, .ref q3, .ref q4, .ref q5, .int 0, .int 0, .int 0, .ref q6, .ref q7, .ref q8, .null, .null, .null, .null, .null, .null, .null, .null, .null, .int 0, .int 0, .null, .int 0, .null]
  clear ny8 g8
  generalize hp_up (hp_up _ q8 _) y _ = h8 at M ⊢
  refine wk_run C k_MD_init_78 (pc2 := 81) (lv2 := [(0, .ref y)]) (st2 := [.int 61, .ref y]) rfl ?_
  refine wk_newi C ka_int (show (61 : Int32) = nI 61 from rfl) (by decide) (Nat.le_of_ble_eq_true rfl) (Nat.le_of_ble_eq_true rfl) d_MD_init_81 (fun q9 g9 => ?_)
  have ny9 : y ≠ q9 := fun z => by rw [← z, M.1] at g9; cases g9
  refine wk_putF (fs2 := [.int 0, .ref q0, .ref q1, .ref q2, .ref q3, .ref q4, .ref q5, .int 0, .int 0, .int 0, .ref q6, .ref q7, .ref q8, .ref q9, .null, .null, .null, .null, .null, .null, .null, .null, .int 0, .int 0, .null, .int 0, .null]) C ff_MD_38 hnm (by rw [hp_un ny9]; exact M.1) rfl rfl (Nat.le_of_ble_eq_true rfl) rfl d_MD_init_83 ?_
  replace M := mi_s M (k := 13) (t := 100) (n := 61) rfl g9 [.int 0, .ref q0, .ref q1, .ref q2, .ref q3, .ref q4, .ref q5, .int 0, .int 0, .int 0, .ref q6, .ref q7, .ref q8, .ref q9, .null, .null, .null, .null, .null, .null, .null, .null, .int 0, .int 0, .null, .int 0, .null]
  clear ny9 g9
  generalize hp_up (hp_up _ q9 _) y _ = h9 at M ⊢
  refine wk_run C k_MD_init_86 (pc2 := 89) (lv2 := [(0, .ref y)]) (st2 := [.int 61, .ref y]) rfl ?_
  refine wk_newi C ka_int (show (61 : Int32) = nI 61 from rfl) (by decide) (Nat.le_of_ble_eq_true rfl) (Nat.le_of_ble_eq_true rfl) d_MD_init_89 (fun q10 g10 => ?_)
  have ny10 : y ≠ q10 := fun z => by rw [← z, M.1] at g10; cases g10
  refine wk_putF (fs2 := [.int 0, .ref q0, .ref q1, .ref q2, .ref q3, .ref q4, .ref q5, .int 0, .int 0, .int 0, .ref q6, .ref q7, .ref q8, .ref q9, .ref q10, .null, .null, .null, .null, .null, .null, .null, .int 0, .int 0, .null, .int 0, .null]) C ff_MD_41 hnm (by rw [hp_un ny10]; exact M.1) rfl rfl (Nat.le_of_ble_eq_true rfl) rfl d_MD_init_91 ?_
  replace M := mi_s M (k := 14) (t := 100) (n := 61) rfl g10 [.int 0, .ref q0, .ref q1, .ref q2, .ref q3, .ref q4, .ref q5, .int 0, .int 0, .int 0, .ref q6, .ref q7, .ref q8, .ref q9, .ref q10, .null, .null, .null, .null, .null, .null, .null, .int 0, .int 0, .null, .int 0, .null]
  clear ny10 g10
  generalize hp_up (hp_up _ q10 _) y _ = h10 at M ⊢
  refine wk_run C k_MD_init_94 (pc2 := 97) (lv2 := [(0, .ref y)]) (st2 := [.int 61, .ref y]) rfl ?_
  refine wk_newi C ka_int (show (61 : Int32) = nI 61 from rfl) (by decide) (Nat.le_of_ble_eq_true rfl) (Nat.le_of_ble_eq_true rfl) d_MD_init_97 (fun q11 g11 => ?_)
  have ny11 : y ≠ q11 := fun z => by rw [← z, M.1] at g11; cases g11
  refine wk_putF (fs2 := [.int 0, .ref q0, .ref q1, .ref q2, .ref q3, .ref q4, .ref q5, .int 0, .int 0, .int 0, .ref q6, .ref q7, .ref q8, .ref q9, .ref q10, .ref q11, .null, .null, .null, .null, .null, .null, .int 0, .int 0, .null, .int 0, .null]) C ff_MD_44 hnm (by rw [hp_un ny11]; exact M.1) rfl rfl (Nat.le_of_ble_eq_true rfl) rfl d_MD_init_99 ?_
  replace M := mi_s M (k := 15) (t := 100) (n := 61) rfl g11 [.int 0, .ref q0, .ref q1, .ref q2, .ref q3, .ref q4, .ref q5, .int 0, .int 0, .int 0, .ref q6, .ref q7, .ref q8, .ref q9, .ref q10, .ref q11, .null, .null, .null, .null, .null, .null, .int 0, .int 0, .null, .int 0, .null]
  clear ny11 g11
  generalize hp_up (hp_up _ q11 _) y _ = h11 at M ⊢
  refine wk_run C k_MD_init_102 (pc2 := 105) (lv2 := [(0, .ref y)]) (st2 := [.int 61, .ref y]) rfl ?_
  refine wk_newi C ka_int (show (61 : Int32) = nI 61 from rfl) (by decide) (Nat.le_of_ble_eq_true rfl) (Nat.le_of_ble_eq_true rfl) d_MD_init_105 (fun q12 g12 => ?_)
  have ny12 : y ≠ q12 := fun z => by rw [← z, M.1] at g12; cases g12
  refine wk_putF (fs2 := [.int 0, .ref q0, .ref q1, .ref q2, .ref q3, .ref q4, .ref q5, .int 0, .int 0, .int 0, .ref q6, .ref q7, .ref q8, .ref q9, .ref q10, .ref q11, .ref q12, .null, .null, .null, .null, .null, .int 0, .int 0, .null, .int 0, .null]) C ff_MD_47 hnm (by rw [hp_un ny12]; exact M.1) rfl rfl (Nat.le_of_ble_eq_true rfl) rfl d_MD_init_107 ?_
  replace M := mi_s M (k := 16) (t := 100) (n := 61) rfl g12 [.int 0, .ref q0, .ref q1, .ref q2, .ref q3, .ref q4, .ref q5, .int 0, .int 0, .int 0, .ref q6, .ref q7, .ref q8, .ref q9, .ref q10, .ref q11, .ref q12, .null, .null, .null, .null, .null, .int 0, .int 0, .null, .int 0, .null]
  clear ny12 g12
  generalize hp_up (hp_up _ q12 _) y _ = h12 at M ⊢
  refine wk_run C k_MD_init_110 (pc2 := 114) (lv2 := [(0, .ref y)]) (st2 := [.int 610, .ref y]) rfl ?_
  refine wk_newi C ka_int (show (610 : Int32) = nI 610 from rfl) (by decide) (Nat.le_of_ble_eq_true rfl) (Nat.le_of_ble_eq_true rfl) d_MD_init_114 (fun q13 g13 => ?_)
  have ny13 : y ≠ q13 := fun z => by rw [← z, M.1] at g13; cases g13
  refine wk_putF (fs2 := [.int 0, .ref q0, .ref q1, .ref q2, .ref q3, .ref q4, .ref q5, .int 0, .int 0, .int 0, .ref q6, .ref q7, .ref q8, .ref q9, .ref q10, .ref q11, .ref q12, .ref q13, .null, .null, .null, .null, .int 0, .int 0, .null, .int 0, .null]) C ff_MD_50 hnm (by rw [hp_un ny13]; exact M.1) rfl rfl (Nat.le_of_ble_eq_true rfl) rfl d_MD_init_116 ?_
  replace M := mi_s M (k := 17) (t := 100) (n := 610) rfl g13 [.int 0, .ref q0, .ref q1, .ref q2, .ref q3, .ref q4, .ref q5, .int 0, .int 0, .int 0, .ref q6, .ref q7, .ref q8, .ref q9, .ref q10, .ref q11, .ref q12, .ref q13, .null, .null, .null, .null, .int 0, .int 0, .null, .int 0, .null]
  clear ny13 g13
  generalize hp_up (hp_up _ q13 _) y _ = h13 at M ⊢
  refine wk_run C k_MD_init_119 (pc2 := 123) (lv2 := [(0, .ref y)]) (st2 := [.int 610, .ref y]) rfl ?_
  refine wk_newi C ka_int (show (610 : Int32) = nI 610 from rfl) (by decide) (Nat.le_of_ble_eq_true rfl) (Nat.le_of_ble_eq_true rfl) d_MD_init_123 (fun q14 g14 => ?_)
  have ny14 : y ≠ q14 := fun z => by rw [← z, M.1] at g14; cases g14
  refine wk_putF (fs2 := [.int 0, .ref q0, .ref q1, .ref q2, .ref q3, .ref q4, .ref q5, .int 0, .int 0, .int 0, .ref q6, .ref q7, .ref q8, .ref q9, .ref q10, .ref q11, .ref q12, .ref q13, .ref q14, .null, .null, .null, .int 0, .int 0, .null, .int 0, .null]) C ff_MD_53 hnm (by rw [hp_un ny14]; exact M.1) rfl rfl (Nat.le_of_ble_eq_true rfl) rfl d_MD_init_125 ?_
  replace M := mi_s M (k := 18) (t := 100) (n := 610) rfl g14 [.int 0, .ref q0, .ref q1, .ref q2, .ref q3, .ref q4, .ref q5, .int 0, .int 0, .int 0, .ref q6, .ref q7, .ref q8, .ref q9, .ref q10, .ref q11, .ref q12, .ref q13, .ref q14, .null, .null, .null, .int 0, .int 0, .null, .int 0, .null]
  clear ny14 g14
  generalize hp_up (hp_up _ q14 _) y _ = h14 at M ⊢
  refine wk_run C k_MD_init_128 (pc2 := 132) (lv2 := [(0, .ref y)]) (st2 := [.int 610, .ref y]) rfl ?_
  refine wk_newi C ka_int (show (610 : Int32) = nI 610 from rfl) (by decide) (Nat.le_of_ble_eq_true rfl) (Nat.le_of_ble_eq_true rfl) d_MD_init_132 (fun q15 g15 => ?_)
  have ny15 : y ≠ q15 := fun z => by rw [← z, M.1] at g15; cases g15
  refine wk_putF (fs2 := [.int 0, .ref q0, .ref q1, .ref q2, .ref q3, .ref q4, .ref q5, .int 0, .int 0, .int 0, .ref q6, .ref q7, .ref q8, .ref q9, .ref q10, .ref q11, .ref q12, .ref q13, .ref q14, .ref q15, .null, .null, .int 0, .int 0, .null, .int 0, .null]) C ff_MD_56 hnm (by rw [hp_un ny15]; exact M.1) rfl rfl (Nat.le_of_ble_eq_true rfl) rfl d_MD_init_134 ?_
  replace M := mi_s M (k := 19) (t := 100) (n := 610) rfl g15 [.int 0, .ref q0, .ref q1, .ref q2, .ref q3, .ref q4, .ref q5, .int 0, .int 0, .int 0, .ref q6, .ref q7, .ref q8, .ref q9, .ref q10, .ref q11, .ref q12, .ref q13, .ref q14, .ref q15, .null, .null, .int 0, .int 0, .null, .int 0, .null]
  clear ny15 g15
  generalize hp_up (hp_up _ q15 _) y _ = h15 at M ⊢
  refine wk_run C k_MD_init_137 (pc2 := 141) (lv2 := [(0, .ref y)]) (st2 := [.int 610, .ref y]) rfl ?_
  refine wk_newi C ka_int (show (610 : Int32) = nI 610 from rfl) (by decide) (Nat.le_of_ble_eq_true rfl) (Nat.le_of_ble_eq_true rfl) d_MD_init_141 (fun q16 g16 => ?_)
  have ny16 : y ≠ q16 := fun z => by rw [← z, M.1] at g16; cases g16
  refine wk_putF (fs2 := [.int 0, .ref q0, .ref q1, .ref q2, .ref q3, .ref q4, .ref q5, .int 0, .int 0, .int 0, .ref q6, .ref q7, .ref q8, .ref q9, .ref q10, .ref q11, .ref q12, .ref q13, .ref q14, .ref q15, .ref q16, .null, .int 0, .int 0, .null, .int 0, .null]) C ff_MD_59 hnm (by rw [hp_un ny16]; exact M.1) rfl rfl (Nat.le_of_ble_eq_true rfl) rfl d_MD_init_143 ?_
  replace M := mi_s M (k := 20) (t := 100) (n := 610) rfl g16 [.int 0, .ref q0, .ref q1, .ref q2, .ref q3, .ref q4, .ref q5, .int 0, .int 0, .int 0, .ref q6, .ref q7, .ref q8, .ref q9, .ref q10, .ref q11, .ref q12, .ref q13, .ref q14, .ref q15, .ref q16, .null, .int 0, .int 0, .null, .int 0, .null]
  clear ny16 g16
  generalize hp_up (hp_up _ q16 _) y _ = h16 at M ⊢
  refine wk_run C k_MD_init_146 (pc2 := 149) (lv2 := [(0, .ref y)]) (st2 := [.int 20, .ref y]) rfl ?_
  refine wk_newi C ka_int (show (20 : Int32) = nI 20 from rfl) (by decide) (Nat.le_of_ble_eq_true rfl) (Nat.le_of_ble_eq_true rfl) d_MD_init_149 (fun q17 g17 => ?_)
  have ny17 : y ≠ q17 := fun z => by rw [← z, M.1] at g17; cases g17
  refine wk_putF (fs2 := [.int 0, .ref q0, .ref q1, .ref q2, .ref q3, .ref q4, .ref q5, .int 0, .int 0, .int 0, .ref q6, .ref q7, .ref q8, .ref q9, .ref q10, .ref q11, .ref q12, .ref q13, .ref q14, .ref q15, .ref q16, .ref q17, .int 0, .int 0, .null, .int 0, .null]) C ff_MD_62 hnm (by rw [hp_un ny17]; exact M.1) rfl rfl (Nat.le_of_ble_eq_true rfl) rfl d_MD_init_151 ?_
  replace M := mi_s M (k := 21) (t := 100) (n := 20) rfl g17 [.int 0, .ref q0, .ref q1, .ref q2, .ref q3, .ref q4, .ref q5, .int 0, .int 0, .int 0, .ref q6, .ref q7, .ref q8, .ref q9, .ref q10, .ref q11, .ref q12, .ref q13, .ref q14, .ref q15, .ref q16, .ref q17, .int 0, .int 0, .null, .int 0, .null]
  clear ny17 g17
  generalize hp_up (hp_up _ q17 _) y _ = h17 at M ⊢
  refine wk_run C k_MD_init_154 (pc2 := 158) (lv2 := [(0, .ref y)]) (st2 := [.int 1000, .ref y]) rfl ?_
  refine wk_newi C ka_int (show (1000 : Int32) = nI 1000 from rfl) (by decide) (Nat.le_of_ble_eq_true rfl) (Nat.le_of_ble_eq_true rfl) d_MD_init_158 (fun q18 g18 => ?_)
  have ny18 : y ≠ q18 := fun z => by rw [← z, M.1] at g18; cases g18
  refine wk_putF (fs2 := [.int 0, .ref q0, .ref q1, .ref q2, .ref q3, .ref q4, .ref q5, .int 0, .int 0, .int 0, .ref q6, .ref q7, .ref q8, .ref q9, .ref q10, .ref q11, .ref q12, .ref q13, .ref q14, .ref q15, .ref q16, .ref q17, .int 0, .int 0, .ref q18, .int 0, .null]) C ff_MD_65 hnm (by rw [hp_un ny18]; exact M.1) rfl rfl (Nat.le_of_ble_eq_true rfl) rfl d_MD_init_160 ?_
  replace M := mi_s M (k := 24) (t := 100) (n := 1000) rfl g18 [.int 0, .ref q0, .ref q1, .ref q2, .ref q3, .ref q4, .ref q5, .int 0, .int 0, .int 0, .ref q6, .ref q7, .ref q8, .ref q9, .ref q10, .ref q11, .ref q12, .ref q13, .ref q14, .ref q15, .ref q16, .ref q17, .int 0, .int 0, .ref q18, .int 0, .null]
  clear ny18 g18
  generalize hp_up (hp_up _ q18 _) y _ = h18 at M ⊢
  refine wk_run C k_MD_init_163 (pc2 := 167) (lv2 := [(0, .ref y)]) (st2 := [.int 441, .ref y]) rfl ?_
  refine wk_newz C ka_boolean (show (441 : Int32) = nI 441 from rfl) (by decide) (Nat.le_of_ble_eq_true rfl) (Nat.le_of_ble_eq_true rfl) d_MD_init_167 (fun q19 g19 => ?_)
  have ny19 : y ≠ q19 := fun z => by rw [← z, M.1] at g19; cases g19
  refine wk_putF (fs2 := [.int 0, .ref q0, .ref q1, .ref q2, .ref q3, .ref q4, .ref q5, .int 0, .int 0, .int 0, .ref q6, .ref q7, .ref q8, .ref q9, .ref q10, .ref q11, .ref q12, .ref q13, .ref q14, .ref q15, .ref q16, .ref q17, .int 0, .int 0, .ref q18, .int 0, .ref q19]) C ff_MD_68 hnm (by rw [hp_un ny19]; exact M.1) rfl rfl (Nat.le_of_ble_eq_true rfl) rfl d_MD_init_169 ?_
  replace M := mi_s M (k := 26) (t := 103) (n := 441) rfl g19 [.int 0, .ref q0, .ref q1, .ref q2, .ref q3, .ref q4, .ref q5, .int 0, .int 0, .int 0, .ref q6, .ref q7, .ref q8, .ref q9, .ref q10, .ref q11, .ref q12, .ref q13, .ref q14, .ref q15, .ref q16, .ref q17, .int 0, .int 0, .ref q18, .int 0, .ref q19]
  clear ny19 g19
  generalize hp_up (hp_up _ q19 _) y _ = h19 at M ⊢
  obtain ⟨m1, m2, m3, m4, m5⟩ := M
  obtain ⟨A, hA⟩ : ∃ A : Nat → Nat, A = fun k => [0, q0, q1, q2, q3, q4, q5, 0, 0, 0, q6, q7, q8, q9, q10, q11, q12, q13, q14, q15, q16, q17, 0, 0, q18, 0, q19].getD k 0 := ⟨_, rfl⟩
  have hin : ∀ k, ml_ k ≠ none → (k, A k) ∈ [(26, q19), (24, q18), (21, q17), (20, q16), (19, q15), (18, q14), (17, q13), (16, q12), (15, q11), (14, q10), (13, q9), (12, q8), (11, q7), (10, q6), (6, q5), (5, q4), (4, q3), (3, q2), (2, q1), (1, q0)] := by
    intro k hk
    have := ml_in hk
    rw [hA]
    clear m1 m2 m3 m4 m5
    simp only [List.mem_cons, List.not_mem_nil, or_false] at this
    rcases this with rfl | rfl | rfl | rfl | rfl | rfl | rfl | rfl | rfl | rfl | rfl | rfl | rfl | rfl | rfl | rfl | rfl | rfl | rfl | rfl <;> simp
  have hou : ∀ k r, (k, r) ∈ [(26, q19), (24, q18), (21, q17), (20, q16), (19, q15), (18, q14), (17, q13), (16, q12), (15, q11), (14, q10), (13, q9), (12, q8), (11, q7), (10, q6), (6, q5), (5, q4), (4, q3), (3, q2), (2, q1), (1, q0)] → r = A k := by
    intro k r hk
    rw [hA]
    clear m1 m2 m3 m4 m5 hin
    simp only [List.mem_cons, List.not_mem_nil, or_false] at hk
    rcases hk with hk | hk | hk | hk | hk | hk | hk | hk | hk | hk | hk | hk | hk | hk | hk | hk | hk | hk | hk | hk <;> (cases hk; rfl)
  exact wk_vret C ⟨rfl, A, ⟨by rw [m1, hA]; rfl, fun k t n hk => m2 k (A k) t n (hin k (by rw [hk]; exact fun z => nomatch z)) hk, fun k j h1 h2 e => m4 k (A k) j (A j) (hin k h1) (hin j h2) e, fun q x hq hx h1 => m5 q x hq (fun k r hk z => by have e := hou k r hk; rw [e] at z; exact hx k (m3 k r hk).2 z) h1⟩, fun k hk => (m3 k (A k) (hin k hk)).1⟩ (by decide) (by decide) d_MD_init_172
