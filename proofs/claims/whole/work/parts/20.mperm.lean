/-- a row of a list with the place a taken out: what lies behind it, up to e, moves down -/
def sh_ (f : Nat → Int32) (a e : Nat) : Nat → Int32 := fun j => if a ≤ j ∧ j < e then f (j + 1) else f j
theorem sh_0 (f : Nat → Int32) (a : Nat) : sh_ f a a = f := by funext j; exact if_neg (by omega)
theorem sh_1 (f : Nat → Int32) {a e : Nat} (h : a ≤ e) : upd (sh_ f a e) e (sh_ f a e (e + 1)) = sh_ f a (e + 1) := by
  funext j
  unfold upd sh_
  by_cases z : j = e
  · subst z; rw [if_pos rfl, if_neg (by omega), if_pos (by omega)]
  · rw [if_neg z]
    by_cases z2 : a ≤ j ∧ j < e
    · rw [if_pos z2, if_pos (by omega)]
    · rw [if_neg z2, if_neg (by omega)]
def rm_ (V : vT) (a e : Nat) : vT := vs (vs (vs (vs V 17 (sh_ (V 17) a e)) 18 (sh_ (V 18) a e)) 19 (sh_ (V 19) a e)) 20 (sh_ (V 20) a e)
theorem vs_id {V : vT} {k : Nat} {f : Nat → Int32} (h : V k = f) : vs V k f = V := by
  funext j; by_cases z : j = k
  · subst z; rw [vs_s, h]
  · rw [vs_n z]
theorem vs_vs {V : vT} {k : Nat} {f g : Nat → Int32} : vs (vs V k f) k g = vs V k g := by
  funext j; by_cases z : j = k
  · subst z; rw [vs_s, vs_s]
  · rw [vs_n z, vs_n z, vs_n z]
theorem vs_sw {V : vT} {k m : Nat} {f g : Nat → Int32} (h : k ≠ m) : vs (vs V k f) m g = vs (vs V m g) k f := by
  funext j; by_cases z : j = m
  · subst z; rw [vs_s, vs_n (fun e => h e.symm), vs_s]
  · rw [vs_n z]; by_cases z2 : j = k
    · subst z2; rw [vs_s, vs_s]
    · rw [vs_n z2, vs_n z2, vs_n z]
theorem rm_0 (V : vT) (a : Nat) : rm_ V a a = V := by
  unfold rm_; simp only [sh_0]
  rw [vs_id (V := V) rfl, vs_id (V := V) rfl, vs_id (V := V) rfl, vs_id (V := V) rfl]
theorem rm_1 (V : vT) {a e : Nat} (h : a ≤ e) : rm_ V a (e + 1) = vs (vs (vs (vs (rm_ V a e) 17 (upd (sh_ (V 17) a e) e (sh_ (V 17) a e (e + 1)))) 18 (upd (sh_ (V 18) a e) e (sh_ (V 18) a e (e + 1)))) 19 (upd (sh_ (V 19) a e) e (sh_ (V 19) a e (e + 1)))) 20 (upd (sh_ (V 20) a e) e (sh_ (V 20) a e (e + 1))) := by
  rw [sh_1 _ h, sh_1 _ h, sh_1 _ h, sh_1 _ h]
  funext j
  unfold rm_
  by_cases z1 : j = 20
  · subst z1; rw [vs_s, vs_s]
  · rw [vs_n z1, vs_n z1]; by_cases z2 : j = 19
    · subst z2; rw [vs_s, vs_s]
    · rw [vs_n z2, vs_n z2]; by_cases z3 : j = 18
      · subst z3; rw [vs_s, vs_s]
      · rw [vs_n z3, vs_n z3]; by_cases z4 : j = 17
        · subst z4; rw [vs_s, vs_s]
        · rw [vs_n z4, vs_n z4, vs_n z1, vs_n z2, vs_n z3, vs_n z4]
noncomputable def sp_permit (V : vT) (p x a : Int32) : rT := if ¬ ((¬ p < 1 ∧ p ≤ V 9 0) ∧ ho_ V x ∧ ¬ a < -1 ∧ a ≤ 4) then (1, 0, vc V 0 1) else match fe_ V (nu p) x with
  | none => if a = -1 then (0, -1, vc V 0 0) else if V 16 (nu p) = 10 then (2, 0, vc V 0 2) else
      (0, -1, vs (vs (vs (vs (vs (vc V 0 0) 17 (upd (V 17) (10 * nu p + nu (V 16 (nu p))) x)) 18 (upd (V 18) (10 * nu p + nu (V 16 (nu p))) a)) 19 (upd (V 19) (10 * nu p + nu (V 16 (nu p))) 0)) 20 (upd (V 20) (10 * nu p + nu (V 16 (nu p))) 16777215)) 16 (upd (V 16) (nu p) (V 16 (nu p) + 1)))
  | some k => if a = -1 then (0, V 18 (10 * nu p + k), rm_ (vs (vc V 0 0) 16 (upd (V 16) (nu p) (V 16 (nu p) - 1))) (10 * nu p + k) (10 * nu p + nu (V 16 (nu p) - 1))) else (0, V 18 (10 * nu p + k), vs (vc V 0 0) 18 (upd (V 18) (10 * nu p + k) a))
theorem ok_n10 {x : Int32} (h : ok_ x 10) (h2 : ¬ x = 10) : ok_ x 9 := by
  refine ⟨h.1, ?_⟩
  have : ¬ nu x = 10 := fun z => h2 (by rw [h.1, z]; rfl)
  have := h.2
  omega
theorem ok_dec {x : Int32} {n : Nat} (h : ok_ x n) (h2 : 0 < nu x) (hn : n < 2 ^ 31) : ok_ (x - 1) n ∧ nu (x - 1) = nu x - 1 := by
  have e : x - 1 = nI (nu x - 1) := by rw [h.1, nu_nI (by have := h.2; omega), ← nI_pred (nu x - 1), show nu x - 1 + 1 = nu x by omega]
  have := h.2
  rw [e]; exact ⟨ok_nI (by omega) hn, nu_nI (by omega)⟩

theorem k_MD_permit_0 : px_dec prog_9_method_24_code [.aload_n 0, .iload_n 1] 0 = true := by decide +kernel
theorem d_MD_permit_2 : decode prog_9_method_24_code 2 = .ok (.invokevirtual 101, 3) := by decide +kernel
theorem d_MD_permit_5 : decode prog_9_method_24_code 5 = .ok (.ifCond .eq 21, 3) := by decide +kernel
theorem k_MD_permit_26 : px_dec prog_9_method_24_code [.iconst 1] 26 = true := by decide +kernel
theorem d_MD_permit_27 : decode prog_9_method_24_code 27 = .ok (.goto 4, 3) := by decide +kernel
theorem k_MD_permit_31 : px_dec prog_9_method_24_code [.istore 4, .iload 4] 31 = true := by decide +kernel
theorem d_MD_permit_35 : decode prog_9_method_24_code 35 = .ok (.ifCond .eq 7, 3) := by decide +kernel
theorem k_MD_permit_38 : px_dec prog_9_method_24_code [.iconst (-1)] 38 = true := by decide +kernel
theorem d_MD_permit_39 : decode prog_9_method_24_code 39 = .ok (.goto 9, 3) := by decide +kernel
theorem k_MD_permit_48 : px_dec prog_9_method_24_code [.istore 5, .aload_n 0, .iload 4, .iload 4] 48 = true := by decide +kernel
theorem d_MD_permit_55 : decode prog_9_method_24_code 55 = .ok (.ifCond .ne 29, 3) := by decide +kernel
theorem k_MD_permit_84 : px_dec prog_9_method_24_code [.iconst 0] 84 = true := by decide +kernel
theorem d_MD_permit_85 : decode prog_9_method_24_code 85 = .ok (.invokevirtual 88, 3) := by decide +kernel
theorem d_MD_permit_88 : decode prog_9_method_24_code 88 = .ok (.ifCond .eq 5, 3) := by decide +kernel
theorem k_MD_permit_91 : px_dec prog_9_method_24_code [.iconst 0] 91 = true := by decide +kernel
theorem d_MD_permit_92 : decode prog_9_method_24_code 92 = .ok (.ireturn, 1) := by decide +kernel
theorem k_MD_permit_8 : px_dec prog_9_method_24_code [.aload_n 0, .iload_n 2] 8 = true := by decide +kernel
theorem d_MD_permit_10 : decode prog_9_method_24_code 10 = .ok (.invokevirtual 107, 3) := by decide +kernel
theorem d_MD_permit_13 : decode prog_9_method_24_code 13 = .ok (.ifCond .eq 13, 3) := by decide +kernel
theorem k_MD_permit_16 : px_dec prog_9_method_24_code [.iload_n 3, .iconst (-1)] 16 = true := by decide +kernel
theorem d_MD_permit_18 : decode prog_9_method_24_code 18 = .ok (.if_icmp .lt 8, 3) := by decide +kernel
theorem k_MD_permit_21 : px_dec prog_9_method_24_code [.iload_n 3, .iconst 4] 21 = true := by decide +kernel
theorem d_MD_permit_23 : decode prog_9_method_24_code 23 = .ok (.if_icmp .le 7, 3) := by decide +kernel
theorem k_MD_permit_30 : px_dec prog_9_method_24_code [.iconst 0, .istore 4, .iload 4] 30 = true := by decide +kernel
theorem k_MD_permit_42 : px_dec prog_9_method_24_code [.aload_n 0, .iload_n 1, .iload_n 2] 42 = true := by decide +kernel
theorem d_MD_permit_45 : decode prog_9_method_24_code 45 = .ok (.invokevirtual 110, 3) := by decide +kernel
theorem k_MD_permit_58 : px_dec prog_9_method_24_code [.iload 5, .iconst (-1)] 58 = true := by decide +kernel
theorem d_MD_permit_61 : decode prog_9_method_24_code 61 = .ok (.if_icmp .ne 23, 3) := by decide +kernel
theorem k_MD_permit_64 : px_dec prog_9_method_24_code [.iload_n 3, .iconst (-1)] 64 = true := by decide +kernel
theorem d_MD_permit_66 : decode prog_9_method_24_code 66 = .ok (.if_icmp .eq 18, 3) := by decide +kernel
theorem k_MD_permit_93 : px_dec prog_9_method_24_code [.iload 5, .iconst (-1)] 93 = true := by decide +kernel
theorem d_MD_permit_96 : decode prog_9_method_24_code 96 = .ok (.if_icmp .ne 7, 3) := by decide +kernel
theorem k_MD_permit_99 : px_dec prog_9_method_24_code [.iconst (-1)] 99 = true := by decide +kernel
theorem d_MD_permit_100 : decode prog_9_method_24_code 100 = .ok (.goto 10, 3) := by decide +kernel
theorem k_MD_permit_110 : px_dec prog_9_method_24_code [.istore 6, .iload 5, .iconst (-1)] 110 = true := by decide +kernel
theorem d_MD_permit_115 : decode prog_9_method_24_code 115 = .ok (.if_icmp .ne 67, 3) := by decide +kernel
theorem k_MD_permit_118 : px_dec prog_9_method_24_code [.iload_n 3, .iconst (-1)] 118 = true := by decide +kernel
theorem d_MD_permit_120 : decode prog_9_method_24_code 120 = .ok (.if_icmp .eq 62, 3) := by decide +kernel
theorem k_MD_permit_182 : px_dec prog_9_method_24_code [.iload 5, .iconst (-1)] 182 = true := by decide +kernel
theorem d_MD_permit_185 : decode prog_9_method_24_code 185 = .ok (.if_icmp .eq 19, 3) := by decide +kernel
theorem k_MD_permit_204 : px_dec prog_9_method_24_code [.iload 5, .iconst (-1)] 204 = true := by decide +kernel
theorem d_MD_permit_207 : decode prog_9_method_24_code 207 = .ok (.if_icmp .eq 103, 3) := by decide +kernel
theorem k_MD_permit_310 : px_dec prog_9_method_24_code [.iload 6] 310 = true := by decide +kernel
theorem d_MD_permit_312 : decode prog_9_method_24_code 312 = .ok (.ireturn, 1) := by decide +kernel
theorem k_MD_permit_123 : px_dec prog_9_method_24_code [.bipush 10, .iload_n 1, .imul, .aload_n 0] 123 = true := by decide +kernel
theorem d_MD_permit_128 : decode prog_9_method_24_code 128 = .ok (.getfield 47, 3) := by decide +kernel
theorem k_MD_permit_131 : px_dec prog_9_method_24_code [.iload_n 1] 131 = true := by decide +kernel
theorem d_MD_permit_132 : decode prog_9_method_24_code 132 = .ok (.iaload, 1) := by decide +kernel
theorem k_MD_permit_133 : px_dec prog_9_method_24_code [.iadd, .istore 7, .aload_n 0] 133 = true := by decide +kernel
theorem d_MD_permit_137 : decode prog_9_method_24_code 137 = .ok (.getfield 50, 3) := by decide +kernel
theorem k_MD_permit_140 : px_dec prog_9_method_24_code [.iload 7, .iload_n 2] 140 = true := by decide +kernel
theorem d_MD_permit_143 : decode prog_9_method_24_code 143 = .ok (.iastore, 1) := by decide +kernel
theorem k_MD_permit_144 : px_dec prog_9_method_24_code [.aload_n 0] 144 = true := by decide +kernel
theorem d_MD_permit_145 : decode prog_9_method_24_code 145 = .ok (.getfield 53, 3) := by decide +kernel
theorem k_MD_permit_148 : px_dec prog_9_method_24_code [.iload 7, .iload_n 3] 148 = true := by decide +kernel
theorem d_MD_permit_151 : decode prog_9_method_24_code 151 = .ok (.iastore, 1) := by decide +kernel
theorem k_MD_permit_152 : px_dec prog_9_method_24_code [.aload_n 0] 152 = true := by decide +kernel
theorem d_MD_permit_153 : decode prog_9_method_24_code 153 = .ok (.getfield 56, 3) := by decide +kernel
theorem k_MD_permit_156 : px_dec prog_9_method_24_code [.iload 7, .iconst 0] 156 = true := by decide +kernel
theorem d_MD_permit_159 : decode prog_9_method_24_code 159 = .ok (.iastore, 1) := by decide +kernel
theorem k_MD_permit_160 : px_dec prog_9_method_24_code [.aload_n 0] 160 = true := by decide +kernel
theorem d_MD_permit_161 : decode prog_9_method_24_code 161 = .ok (.getfield 59, 3) := by decide +kernel
theorem k_MD_permit_164 : px_dec prog_9_method_24_code [.iload 7] 164 = true := by decide +kernel
theorem d_MD_permit_166 : decode prog_9_method_24_code 166 = .ok (.ldc 114, 2) := by decide +kernel
theorem d_MD_permit_168 : decode prog_9_method_24_code 168 = .ok (.iastore, 1) := by decide +kernel
theorem k_MD_permit_169 : px_dec prog_9_method_24_code [.aload_n 0] 169 = true := by decide +kernel
theorem d_MD_permit_170 : decode prog_9_method_24_code 170 = .ok (.getfield 47, 3) := by decide +kernel
theorem k_MD_permit_173 : px_dec prog_9_method_24_code [.iload_n 1, .dup2] 173 = true := by decide +kernel
theorem d_MD_permit_175 : decode prog_9_method_24_code 175 = .ok (.iaload, 1) := by decide +kernel
theorem k_MD_permit_176 : px_dec prog_9_method_24_code [.iconst 1, .iadd] 176 = true := by decide +kernel
theorem d_MD_permit_178 : decode prog_9_method_24_code 178 = .ok (.iastore, 1) := by decide +kernel
theorem d_MD_permit_179 : decode prog_9_method_24_code 179 = .ok (.goto 131, 3) := by decide +kernel
theorem k_MD_permit_69 : px_dec prog_9_method_24_code [.aload_n 0] 69 = true := by decide +kernel
theorem d_MD_permit_70 : decode prog_9_method_24_code 70 = .ok (.getfield 47, 3) := by decide +kernel
theorem k_MD_permit_73 : px_dec prog_9_method_24_code [.iload_n 1] 73 = true := by decide +kernel
theorem d_MD_permit_74 : decode prog_9_method_24_code 74 = .ok (.iaload, 1) := by decide +kernel
theorem k_MD_permit_75 : px_dec prog_9_method_24_code [.bipush 10] 75 = true := by decide +kernel
theorem d_MD_permit_77 : decode prog_9_method_24_code 77 = .ok (.if_icmp .ne 7, 3) := by decide +kernel
theorem k_MD_permit_80 : px_dec prog_9_method_24_code [.iconst 1] 80 = true := by decide +kernel
theorem d_MD_permit_81 : decode prog_9_method_24_code 81 = .ok (.goto 4, 3) := by decide +kernel
set_option maxRecDepth 100000 in
set_option maxHeartbeats 4000000 in
theorem c_MD_permitN (l : Launch) (D : va_G) (HB : Heap) (h : hp_T) (h0 : hp_T) (y : Nat) (A : Nat → Nat) (V : vT) (p : Int32) (x : Int32) (a : Int32) (hP : ok_ (V 9 0) 60) (hE : ok_ (V 16 (nu p)) 10) (hf : fe_ V (nu p) x = none) (hM : mq D h0 h y A V) : ct_M l y_MD_permit (.code y_MD_permit prog_9_method_24_code 8 (Option.some Jvm.ClassFile.FieldType.int)) ({ frames := 2, cells := 0, slots := 0, locals := 60 }) D HB [.ref y, .int p, .int x, .int a] h (fun o h2 => ∃ (cd r : Int32) (V2 : vT), sp_permit V p x a = (cd, r, V2) ∧ o = .inl (some (.int r)) ∧ mq D h0 h2 y A V2) := by
  refine ct_of (by decide) (Nat.le_of_ble_eq_true rfl) rfl ?_
  intro p_ e_ s_ m_ r_ b_ t_ c_ C hnm
  refine wk_run C k_MD_permit_0 (pc2 := 2) (lv2 := [(0, .ref y), (1, .int p), (2, .int x), (3, .int a)]) (st2 := [.int p, .ref y]) rfl ?_
  refine wk_callV (cl := ("ProfileRightsModel", T_MD, 27)) (rest := []) C (c_MD_isProfile l D HB h h0 y A (V) p hM) cs_MD_101 kc_MD_isProfile ki_MD hM.ob rfl rfl rfl (Nat.le_of_ble_eq_true rfl) (Nat.le_of_ble_eq_true rfl) (Nat.le_of_ble_eq_true rfl) (Nat.le_of_ble_eq_true rfl) (Nat.le_of_ble_eq_true rfl) d_MD_permit_2 (fun v h2 hq => ?_) (fun _ _ z => nomatch z.1)
  obtain ⟨e1, e2⟩ := hq; cases e1; replace e2 := e2.symm; subst e2
  show Wk _ _ _ _ _ _ _ _ _ _ _ _ _ _ _ _ _ _ _ (.int (if ¬ p < 1 ∧ p ≤ V 9 0 then (1 : Int32) else 0) :: _)
  refine wk_br C d_MD_permit_5 (P := (if ¬ p < 1 ∧ p ≤ V 9 0 then (1 : Int32) else 0) = 0) (tgt := 26) (rest := []) rfl (by decide) (fun c1 => ?_) (fun c1 => ?_)
  ·
    replace c1 := bz_ c1
    refine wk_run C k_MD_permit_26 (pc2 := 27) (lv2 := [(0, .ref y), (1, .int p), (2, .int x), (3, .int a)]) (st2 := [.int 1]) rfl ?_
    refine wk_goto C d_MD_permit_27 (tgt := 31) (by decide) ?_
    refine wk_run C k_MD_permit_31 (pc2 := 35) (lv2 := [(4, .int 1), (0, .ref y), (1, .int p), (2, .int x), (3, .int a)]) (st2 := [.int 1]) rfl ?_
    refine wk_br C d_MD_permit_35 (P := 1 = 0) (tgt := 42) (rest := []) rfl (by decide) (fun c2 => ?_) (fun c2 => ?_)
    ·
      exact absurd c2 (by decide)
    ·
      refine wk_run C k_MD_permit_38 (pc2 := 39) (lv2 := [(4, .int 1), (0, .ref y), (1, .int p), (2, .int x), (3, .int a)]) (st2 := [.int (-1)]) rfl ?_
      refine wk_goto C d_MD_permit_39 (tgt := 48) (by decide) ?_
      refine wk_run C k_MD_permit_48 (pc2 := 55) (lv2 := [(5, .int (-1)), (4, .int 1), (0, .ref y), (1, .int p), (2, .int x), (3, .int a)]) (st2 := [.int 1, .int 1, .ref y]) rfl ?_
      refine wk_br C d_MD_permit_55 (P := ¬ 1 = 0) (tgt := 84) (rest := [.int 1, .ref y]) rfl (by decide) (fun c3 => ?_) (fun c3 => ?_)
      ·
        refine wk_run C k_MD_permit_84 (pc2 := 85) (lv2 := [(5, .int (-1)), (4, .int 1), (0, .ref y), (1, .int p), (2, .int x), (3, .int a)]) (st2 := [.int 0, .int 1, .ref y]) rfl ?_
        refine wk_callV (cl := ("ProfileRightsModel", T_MD, 27)) (rest := []) C (c_MD_f1 l D HB h h0 y A (V) hM) cs_MD_88 kc_MD_fails ki_MD hM.ob rfl rfl rfl (Nat.le_of_ble_eq_true rfl) (Nat.le_of_ble_eq_true rfl) (Nat.le_of_ble_eq_true rfl) (Nat.le_of_ble_eq_true rfl) (Nat.le_of_ble_eq_true rfl) d_MD_permit_85 (fun v h hq => ?_) (fun _ _ z => nomatch z.1)
        obtain ⟨e1, hM⟩ := hq; cases e1
        refine wk_br C d_MD_permit_88 (P := 1 = 0) (tgt := 93) (rest := []) rfl (by decide) (fun c4 => ?_) (fun c4 => ?_)
        ·
          exact absurd c4 (by decide)
        ·
          refine wk_run C k_MD_permit_91 (pc2 := 92) (lv2 := [(5, .int (-1)), (4, .int 1), (0, .ref y), (1, .int p), (2, .int x), (3, .int a)]) (st2 := [.int 0]) rfl ?_
          exact wk_iret C ⟨1, 0, vc (V) 0 1, by clear C hM hnm; grind [sp_permit], rfl, hM⟩ (by decide) (by decide) d_MD_permit_92
      ·
        exact absurd (by decide) c3
  ·
    replace c1 := bn_ c1
    refine wk_run C k_MD_permit_8 (pc2 := 10) (lv2 := [(0, .ref y), (1, .int p), (2, .int x), (3, .int a)]) (st2 := [.int x, .ref y]) rfl ?_
    refine wk_callV (cl := ("ProfileRightsModel", T_MD, 27)) (rest := []) C (c_MD_isWho l D HB h h0 y A (V) x hM) cs_MD_107 kc_MD_isWho ki_MD hM.ob rfl rfl rfl (Nat.le_of_ble_eq_true rfl) (Nat.le_of_ble_eq_true rfl) (Nat.le_of_ble_eq_true rfl) (Nat.le_of_ble_eq_true rfl) (Nat.le_of_ble_eq_true rfl) d_MD_permit_10 (fun v h2 hq => ?_) (fun _ _ z => nomatch z.1)
    obtain ⟨e1, e2⟩ := hq; cases e1; replace e2 := e2.symm; subst e2
    show Wk _ _ _ _ _ _ _ _ _ _ _ _ _ _ _ _ _ _ _ (.int (if ho_ (V) x then (1 : Int32) else 0) :: _)
    refine wk_br C d_MD_permit_13 (P := (if ho_ (V) x then (1 : Int32) else 0) = 0) (tgt := 26) (rest := []) rfl (by decide) (fun c5 => ?_) (fun c5 => ?_)
    ·
      replace c5 := bz_ c5
      refine wk_run C k_MD_permit_26 (pc2 := 27) (lv2 := [(0, .ref y), (1, .int p), (2, .int x), (3, .int a)]) (st2 := [.int 1]) rfl ?_
      refine wk_goto C d_MD_permit_27 (tgt := 31) (by decide) ?_
      refine wk_run C k_MD_permit_31 (pc2 := 35) (lv2 := [(4, .int 1), (0, .ref y), (1, .int p), (2, .int x), (3, .int a)]) (st2 := [.int 1]) rfl ?_
      refine wk_br C d_MD_permit_35 (P := 1 = 0) (tgt := 42) (rest := []) rfl (by decide) (fun c6 => ?_) (fun c6 => ?_)
      ·
        exact absurd c6 (by decide)
      ·
        refine wk_run C k_MD_permit_38 (pc2 := 39) (lv2 := [(4, .int 1), (0, .ref y), (1, .int p), (2, .int x), (3, .int a)]) (st2 := [.int (-1)]) rfl ?_
        refine wk_goto C d_MD_permit_39 (tgt := 48) (by decide) ?_
        refine wk_run C k_MD_permit_48 (pc2 := 55) (lv2 := [(5, .int (-1)), (4, .int 1), (0, .ref y), (1, .int p), (2, .int x), (3, .int a)]) (st2 := [.int 1, .int 1, .ref y]) rfl ?_
        refine wk_br C d_MD_permit_55 (P := ¬ 1 = 0) (tgt := 84) (rest := [.int 1, .ref y]) rfl (by decide) (fun c7 => ?_) (fun c7 => ?_)
        ·
          refine wk_run C k_MD_permit_84 (pc2 := 85) (lv2 := [(5, .int (-1)), (4, .int 1), (0, .ref y), (1, .int p), (2, .int x), (3, .int a)]) (st2 := [.int 0, .int 1, .ref y]) rfl ?_
          refine wk_callV (cl := ("ProfileRightsModel", T_MD, 27)) (rest := []) C (c_MD_f1 l D HB h h0 y A (V) hM) cs_MD_88 kc_MD_fails ki_MD hM.ob rfl rfl rfl (Nat.le_of_ble_eq_true rfl) (Nat.le_of_ble_eq_true rfl) (Nat.le_of_ble_eq_true rfl) (Nat.le_of_ble_eq_true rfl) (Nat.le_of_ble_eq_true rfl) d_MD_permit_85 (fun v h hq => ?_) (fun _ _ z => nomatch z.1)
          obtain ⟨e1, hM⟩ := hq; cases e1
          refine wk_br C d_MD_permit_88 (P := 1 = 0) (tgt := 93) (rest := []) rfl (by decide) (fun c8 => ?_) (fun c8 => ?_)
          ·
            exact absurd c8 (by decide)
          ·
            refine wk_run C k_MD_permit_91 (pc2 := 92) (lv2 := [(5, .int (-1)), (4, .int 1), (0, .ref y), (1, .int p), (2, .int x), (3, .int a)]) (st2 := [.int 0]) rfl ?_
            exact wk_iret C ⟨1, 0, vc (V) 0 1, by clear C hM hnm; grind [sp_permit], rfl, hM⟩ (by decide) (by decide) d_MD_permit_92
        ·
          exact absurd (by decide) c7
    ·
      replace c5 := bn_ c5
      refine wk_run C k_MD_permit_16 (pc2 := 18) (lv2 := [(0, .ref y), (1, .int p), (2, .int x), (3, .int a)]) (st2 := [.int (-1), .int a]) rfl ?_
      refine wk_br C d_MD_permit_18 (P := a < (-1)) (tgt := 26) (rest := []) rfl (by decide) (fun c9 => ?_) (fun c9 => ?_)
      ·
        refine wk_run C k_MD_permit_26 (pc2 := 27) (lv2 := [(0, .ref y), (1, .int p), (2, .int x), (3, .int a)]) (st2 := [.int 1]) rfl ?_
        refine wk_goto C d_MD_permit_27 (tgt := 31) (by decide) ?_
        refine wk_run C k_MD_permit_31 (pc2 := 35) (lv2 := [(4, .int 1), (0, .ref y), (1, .int p), (2, .int x), (3, .int a)]) (st2 := [.int 1]) rfl ?_
        refine wk_br C d_MD_permit_35 (P := 1 = 0) (tgt := 42) (rest := []) rfl (by decide) (fun c10 => ?_) (fun c10 => ?_)
        ·
          exact absurd c10 (by decide)
        ·
          refine wk_run C k_MD_permit_38 (pc2 := 39) (lv2 := [(4, .int 1), (0, .ref y), (1, .int p), (2, .int x), (3, .int a)]) (st2 := [.int (-1)]) rfl ?_
          refine wk_goto C d_MD_permit_39 (tgt := 48) (by decide) ?_
          refine wk_run C k_MD_permit_48 (pc2 := 55) (lv2 := [(5, .int (-1)), (4, .int 1), (0, .ref y), (1, .int p), (2, .int x), (3, .int a)]) (st2 := [.int 1, .int 1, .ref y]) rfl ?_
          refine wk_br C d_MD_permit_55 (P := ¬ 1 = 0) (tgt := 84) (rest := [.int 1, .ref y]) rfl (by decide) (fun c11 => ?_) (fun c11 => ?_)
          ·
            refine wk_run C k_MD_permit_84 (pc2 := 85) (lv2 := [(5, .int (-1)), (4, .int 1), (0, .ref y), (1, .int p), (2, .int x), (3, .int a)]) (st2 := [.int 0, .int 1, .ref y]) rfl ?_
            refine wk_callV (cl := ("ProfileRightsModel", T_MD, 27)) (rest := []) C (c_MD_f1 l D HB h h0 y A (V) hM) cs_MD_88 kc_MD_fails ki_MD hM.ob rfl rfl rfl (Nat.le_of_ble_eq_true rfl) (Nat.le_of_ble_eq_true rfl) (Nat.le_of_ble_eq_true rfl) (Nat.le_of_ble_eq_true rfl) (Nat.le_of_ble_eq_true rfl) d_MD_permit_85 (fun v h hq => ?_) (fun _ _ z => nomatch z.1)
            obtain ⟨e1, hM⟩ := hq; cases e1
            refine wk_br C d_MD_permit_88 (P := 1 = 0) (tgt := 93) (rest := []) rfl (by decide) (fun c12 => ?_) (fun c12 => ?_)
            ·
              exact absurd c12 (by decide)
            ·
              refine wk_run C k_MD_permit_91 (pc2 := 92) (lv2 := [(5, .int (-1)), (4, .int 1), (0, .ref y), (1, .int p), (2, .int x), (3, .int a)]) (st2 := [.int 0]) rfl ?_
              exact wk_iret C ⟨1, 0, vc (V) 0 1, by clear C hM hnm; grind [sp_permit], rfl, hM⟩ (by decide) (by decide) d_MD_permit_92
          ·
            exact absurd (by decide) c11
      ·
        refine wk_run C k_MD_permit_21 (pc2 := 23) (lv2 := [(0, .ref y), (1, .int p), (2, .int x), (3, .int a)]) (st2 := [.int 4, .int a]) rfl ?_
        refine wk_br C d_MD_permit_23 (P := a ≤ 4) (tgt := 30) (rest := []) rfl (by decide) (fun c13 => ?_) (fun c13 => ?_)
        ·
          refine wk_run C k_MD_permit_30 (pc2 := 35) (lv2 := [(4, .int 0), (0, .ref y), (1, .int p), (2, .int x), (3, .int a)]) (st2 := [.int 0]) rfl ?_
          refine wk_br C d_MD_permit_35 (P := 0 = 0) (tgt := 42) (rest := []) rfl (by decide) (fun c14 => ?_) (fun c14 => ?_)
          ·
            refine wk_run C k_MD_permit_42 (pc2 := 45) (lv2 := [(4, .int 0), (0, .ref y), (1, .int p), (2, .int x), (3, .int a)]) (st2 := [.int x, .int p, .ref y]) rfl ?_
            refine wk_callV (cl := ("ProfileRightsModel", T_MD, 27)) (rest := []) C (c_MD_entry l D HB h h0 y A (V) p x none (ok_r c1.1 c1.2 hP (by decide)) hE (hf ▸ fe_s V (nu p) x) hM) cs_MD_110 kc_MD_entry ki_MD hM.ob rfl rfl rfl (Nat.le_of_ble_eq_true rfl) (Nat.le_of_ble_eq_true rfl) (Nat.le_of_ble_eq_true rfl) (Nat.le_of_ble_eq_true rfl) (Nat.le_of_ble_eq_true rfl) d_MD_permit_45 (fun v h2 hq => ?_) (fun _ _ z => nomatch z.1)
            obtain ⟨e1, e2⟩ := hq; cases e1; replace e2 := e2.symm; subst e2
            show Wk _ _ _ _ _ _ _ _ _ _ _ _ _ _ _ _ _ _ _ (.int (-1) :: _)
            refine wk_run C k_MD_permit_48 (pc2 := 55) (lv2 := [(5, .int (-1)), (4, .int 0), (0, .ref y), (1, .int p), (2, .int x), (3, .int a)]) (st2 := [.int 0, .int 0, .ref y]) rfl ?_
            refine wk_br C d_MD_permit_55 (P := ¬ 0 = 0) (tgt := 84) (rest := [.int 0, .ref y]) rfl (by decide) (fun c15 => ?_) (fun c15 => ?_)
            ·
              exact absurd c15 (by decide)
            ·
              refine wk_run C k_MD_permit_58 (pc2 := 61) (lv2 := [(5, .int (-1)), (4, .int 0), (0, .ref y), (1, .int p), (2, .int x), (3, .int a)]) (st2 := [.int (-1), .int (-1), .int 0, .ref y]) rfl ?_
              refine wk_br C d_MD_permit_61 (P := ¬ (-1) = (-1)) (tgt := 84) (rest := [.int 0, .ref y]) rfl (by decide) (fun c16 => ?_) (fun c16 => ?_)
              ·
                exact absurd c16 (by decide)
              ·
                refine wk_run C k_MD_permit_64 (pc2 := 66) (lv2 := [(5, .int (-1)), (4, .int 0), (0, .ref y), (1, .int p), (2, .int x), (3, .int a)]) (st2 := [.int (-1), .int a, .int 0, .ref y]) rfl ?_
                refine wk_br C d_MD_permit_66 (P := a = (-1)) (tgt := 84) (rest := [.int 0, .ref y]) rfl (by decide) (fun c17 => ?_) (fun c17 => ?_)
                ·
                  refine wk_run C k_MD_permit_84 (pc2 := 85) (lv2 := [(5, .int (-1)), (4, .int 0), (0, .ref y), (1, .int p), (2, .int x), (3, .int a)]) (st2 := [.int 0, .int 0, .ref y]) rfl ?_
                  refine wk_callV (cl := ("ProfileRightsModel", T_MD, 27)) (rest := []) C (c_MD_f0 l D HB h h0 y A (V) hM) cs_MD_88 kc_MD_fails ki_MD hM.ob rfl rfl rfl (Nat.le_of_ble_eq_true rfl) (Nat.le_of_ble_eq_true rfl) (Nat.le_of_ble_eq_true rfl) (Nat.le_of_ble_eq_true rfl) (Nat.le_of_ble_eq_true rfl) d_MD_permit_85 (fun v h hq => ?_) (fun _ _ z => nomatch z.1)
                  obtain ⟨e1, hM⟩ := hq; cases e1
                  refine wk_br C d_MD_permit_88 (P := 0 = 0) (tgt := 93) (rest := []) rfl (by decide) (fun c18 => ?_) (fun c18 => ?_)
                  ·
                    refine wk_run C k_MD_permit_93 (pc2 := 96) (lv2 := [(5, .int (-1)), (4, .int 0), (0, .ref y), (1, .int p), (2, .int x), (3, .int a)]) (st2 := [.int (-1), .int (-1)]) rfl ?_
                    refine wk_br C d_MD_permit_96 (P := ¬ (-1) = (-1)) (tgt := 103) (rest := []) rfl (by decide) (fun c19 => ?_) (fun c19 => ?_)
                    ·
                      exact absurd c19 (by decide)
                    ·
                      refine wk_run C k_MD_permit_99 (pc2 := 100) (lv2 := [(5, .int (-1)), (4, .int 0), (0, .ref y), (1, .int p), (2, .int x), (3, .int a)]) (st2 := [.int (-1)]) rfl ?_
                      refine wk_goto C d_MD_permit_100 (tgt := 110) (by decide) ?_
                      refine wk_run C k_MD_permit_110 (pc2 := 115) (lv2 := [(6, .int (-1)), (5, .int (-1)), (4, .int 0), (0, .ref y), (1, .int p), (2, .int x), (3, .int a)]) (st2 := [.int (-1), .int (-1)]) rfl ?_
                      refine wk_br C d_MD_permit_115 (P := ¬ (-1) = (-1)) (tgt := 182) (rest := []) rfl (by decide) (fun c20 => ?_) (fun c20 => ?_)
                      ·
                        exact absurd c20 (by decide)
                      ·
                        refine wk_run C k_MD_permit_118 (pc2 := 120) (lv2 := [(6, .int (-1)), (5, .int (-1)), (4, .int 0), (0, .ref y), (1, .int p), (2, .int x), (3, .int a)]) (st2 := [.int (-1), .int a]) rfl ?_
                        refine wk_br C d_MD_permit_120 (P := a = (-1)) (tgt := 182) (rest := []) rfl (by decide) (fun c21 => ?_) (fun c21 => ?_)
                        ·
                          refine wk_run C k_MD_permit_182 (pc2 := 185) (lv2 := [(6, .int (-1)), (5, .int (-1)), (4, .int 0), (0, .ref y), (1, .int p), (2, .int x), (3, .int a)]) (st2 := [.int (-1), .int (-1)]) rfl ?_
                          refine wk_br C d_MD_permit_185 (P := (-1) = (-1)) (tgt := 204) (rest := []) rfl (by decide) (fun c22 => ?_) (fun c22 => ?_)
                          ·
                            refine wk_run C k_MD_permit_204 (pc2 := 207) (lv2 := [(6, .int (-1)), (5, .int (-1)), (4, .int 0), (0, .ref y), (1, .int p), (2, .int x), (3, .int a)]) (st2 := [.int (-1), .int (-1)]) rfl ?_
                            refine wk_br C d_MD_permit_207 (P := (-1) = (-1)) (tgt := 310) (rest := []) rfl (by decide) (fun c23 => ?_) (fun c23 => ?_)
                            ·
                              refine wk_run C k_MD_permit_310 (pc2 := 312) (lv2 := [(6, .int (-1)), (5, .int (-1)), (4, .int 0), (0, .ref y), (1, .int p), (2, .int x), (3, .int a)]) (st2 := [.int (-1)]) rfl ?_
                              exact wk_iret C ⟨0, (-1), vc (V) 0 0, by clear C hM hnm; grind [sp_permit], rfl, hM⟩ (by decide) (by decide) d_MD_permit_312
                            ·
                              exact absurd (by decide) c23
                          ·
                            exact absurd (by decide) c22
                        ·
                          refine wk_run C k_MD_permit_123 (pc2 := 128) (lv2 := [(6, .int (-1)), (5, .int (-1)), (4, .int 0), (0, .ref y), (1, .int p), (2, .int x), (3, .int a)]) (st2 := [.ref y, .int (10 * p)]) rfl ?_
                          refine wk_get (v := .ref (A 16)) C fd_MD_47 hM.ob rfl d_MD_permit_128 ?_
                          refine wk_run C k_MD_permit_131 (pc2 := 132) (lv2 := [(6, .int (-1)), (5, .int (-1)), (4, .int 0), (0, .ref y), (1, .int p), (2, .int x), (3, .int a)]) (st2 := [.int p, .ref (A 16), .int (10 * p)]) rfl ?_
                          refine wm_ld C hM 16 (j := nu p) rfl (vi_ c1.1 c1.2 hP (by decide) (by decide)) rfl d_MD_permit_132 ?_
                          show Wk _ _ _ _ _ _ _ _ _ _ _ _ _ _ _ _ _ _ _ (.int (V 16 (nu p)) :: _)
                          refine wk_run C k_MD_permit_133 (pc2 := 137) (lv2 := [(7, .int ((10 * p) + (V 16 (nu p)))), (6, .int (-1)), (5, .int (-1)), (4, .int 0), (0, .ref y), (1, .int p), (2, .int x), (3, .int a)]) (st2 := [.ref y]) rfl ?_
                          refine wk_get (v := .ref (A 17)) C fd_MD_50 hM.ob rfl d_MD_permit_137 ?_
                          refine wk_run C k_MD_permit_140 (pc2 := 143) (lv2 := [(7, .int ((10 * p) + (V 16 (nu p)))), (6, .int (-1)), (5, .int (-1)), (4, .int 0), (0, .ref y), (1, .int p), (2, .int x), (3, .int a)]) (st2 := [.int x, .int ((10 * p) + (V 16 (nu p))), .ref (A 17)]) rfl ?_
                          refine wm_st C hM 17 (j := (10 * nu p + nu (V 16 (nu p)))) rfl (nx_ (k := 10) (m := 60) (n := 9) (N := 610) (ok_r c1.1 c1.2 hP (by decide)) (ok_n10 hE (by clear C hM; grind)) (by decide) (by decide)).1 (nx_ (k := 10) (m := 60) (n := 9) (N := 610) (ok_r c1.1 c1.2 hP (by decide)) (ok_n10 hE (by clear C hM; grind)) (by decide) (by decide)).2 d_MD_permit_143 (fun h (hM : mq D h0 h y A (vs (vc (V) 0 0) 17 (upd (V 17) (10 * nu p + nu (V 16 (nu p))) x))) => ?_)
                          refine wk_run C k_MD_permit_144 (pc2 := 145) (lv2 := [(7, .int ((10 * p) + (V 16 (nu p)))), (6, .int (-1)), (5, .int (-1)), (4, .int 0), (0, .ref y), (1, .int p), (2, .int x), (3, .int a)]) (st2 := [.ref y]) rfl ?_
                          refine wk_get (v := .ref (A 18)) C fd_MD_53 hM.ob rfl d_MD_permit_145 ?_
                          refine wk_run C k_MD_permit_148 (pc2 := 151) (lv2 := [(7, .int ((10 * p) + (V 16 (nu p)))), (6, .int (-1)), (5, .int (-1)), (4, .int 0), (0, .ref y), (1, .int p), (2, .int x), (3, .int a)]) (st2 := [.int a, .int ((10 * p) + (V 16 (nu p))), .ref (A 18)]) rfl ?_
                          refine wm_st C hM 18 (j := (10 * nu p + nu (V 16 (nu p)))) rfl (nx_ (k := 10) (m := 60) (n := 9) (N := 610) (ok_r c1.1 c1.2 hP (by decide)) (ok_n10 hE (by clear C hM; grind)) (by decide) (by decide)).1 (nx_ (k := 10) (m := 60) (n := 9) (N := 610) (ok_r c1.1 c1.2 hP (by decide)) (ok_n10 hE (by clear C hM; grind)) (by decide) (by decide)).2 d_MD_permit_151 (fun h (hM : mq D h0 h y A (vs (vs (vc (V) 0 0) 17 (upd (V 17) (10 * nu p + nu (V 16 (nu p))) x)) 18 (upd (V 18) (10 * nu p + nu (V 16 (nu p))) a))) => ?_)
                          refine wk_run C k_MD_permit_152 (pc2 := 153) (lv2 := [(7, .int ((10 * p) + (V 16 (nu p)))), (6, .int (-1)), (5, .int (-1)), (4, .int 0), (0, .ref y), (1, .int p), (2, .int x), (3, .int a)]) (st2 := [.ref y]) rfl ?_
                          refine wk_get (v := .ref (A 19)) C fd_MD_56 hM.ob rfl d_MD_permit_153 ?_
                          refine wk_run C k_MD_permit_156 (pc2 := 159) (lv2 := [(7, .int ((10 * p) + (V 16 (nu p)))), (6, .int (-1)), (5, .int (-1)), (4, .int 0), (0, .ref y), (1, .int p), (2, .int x), (3, .int a)]) (st2 := [.int 0, .int ((10 * p) + (V 16 (nu p))), .ref (A 19)]) rfl ?_
                          refine wm_st C hM 19 (j := (10 * nu p + nu (V 16 (nu p)))) rfl (nx_ (k := 10) (m := 60) (n := 9) (N := 610) (ok_r c1.1 c1.2 hP (by decide)) (ok_n10 hE (by clear C hM; grind)) (by decide) (by decide)).1 (nx_ (k := 10) (m := 60) (n := 9) (N := 610) (ok_r c1.1 c1.2 hP (by decide)) (ok_n10 hE (by clear C hM; grind)) (by decide) (by decide)).2 d_MD_permit_159 (fun h (hM : mq D h0 h y A (vs (vs (vs (vc (V) 0 0) 17 (upd (V 17) (10 * nu p + nu (V 16 (nu p))) x)) 18 (upd (V 18) (10 * nu p + nu (V 16 (nu p))) a)) 19 (upd (V 19) (10 * nu p + nu (V 16 (nu p))) 0))) => ?_)
                          refine wk_run C k_MD_permit_160 (pc2 := 161) (lv2 := [(7, .int ((10 * p) + (V 16 (nu p)))), (6, .int (-1)), (5, .int (-1)), (4, .int 0), (0, .ref y), (1, .int p), (2, .int x), (3, .int a)]) (st2 := [.ref y]) rfl ?_
                          refine wk_get (v := .ref (A 20)) C fd_MD_59 hM.ob rfl d_MD_permit_161 ?_
                          refine wk_run C k_MD_permit_164 (pc2 := 166) (lv2 := [(7, .int ((10 * p) + (V 16 (nu p)))), (6, .int (-1)), (5, .int (-1)), (4, .int 0), (0, .ref y), (1, .int p), (2, .int x), (3, .int a)]) (st2 := [.int ((10 * p) + (V 16 (nu p))), .ref (A 20)]) rfl ?_
                          refine wk_ldc C kk_MD_114 d_MD_permit_166 ?_
                          refine wm_st C hM 20 (j := (10 * nu p + nu (V 16 (nu p)))) rfl (nx_ (k := 10) (m := 60) (n := 9) (N := 610) (ok_r c1.1 c1.2 hP (by decide)) (ok_n10 hE (by clear C hM; grind)) (by decide) (by decide)).1 (nx_ (k := 10) (m := 60) (n := 9) (N := 610) (ok_r c1.1 c1.2 hP (by decide)) (ok_n10 hE (by clear C hM; grind)) (by decide) (by decide)).2 d_MD_permit_168 (fun h (hM : mq D h0 h y A (vs (vs (vs (vs (vc (V) 0 0) 17 (upd (V 17) (10 * nu p + nu (V 16 (nu p))) x)) 18 (upd (V 18) (10 * nu p + nu (V 16 (nu p))) a)) 19 (upd (V 19) (10 * nu p + nu (V 16 (nu p))) 0)) 20 (upd (V 20) (10 * nu p + nu (V 16 (nu p))) 16777215))) => ?_)
                          refine wk_run C k_MD_permit_169 (pc2 := 170) (lv2 := [(7, .int ((10 * p) + (V 16 (nu p)))), (6, .int (-1)), (5, .int (-1)), (4, .int 0), (0, .ref y), (1, .int p), (2, .int x), (3, .int a)]) (st2 := [.ref y]) rfl ?_
                          refine wk_get (v := .ref (A 16)) C fd_MD_47 hM.ob rfl d_MD_permit_170 ?_
                          refine wk_run C k_MD_permit_173 (pc2 := 175) (lv2 := [(7, .int ((10 * p) + (V 16 (nu p)))), (6, .int (-1)), (5, .int (-1)), (4, .int 0), (0, .ref y), (1, .int p), (2, .int x), (3, .int a)]) (st2 := [.int p, .ref (A 16), .int p, .ref (A 16)]) rfl ?_
                          refine wm_ld C hM 16 (j := nu p) rfl (vi_ c1.1 c1.2 hP (by decide) (by decide)) rfl d_MD_permit_175 ?_
                          show Wk _ _ _ _ _ _ _ _ _ _ _ _ _ _ _ _ _ _ _ (.int (V 16 (nu p)) :: _)
                          refine wk_run C k_MD_permit_176 (pc2 := 178) (lv2 := [(7, .int ((10 * p) + (V 16 (nu p)))), (6, .int (-1)), (5, .int (-1)), (4, .int 0), (0, .ref y), (1, .int p), (2, .int x), (3, .int a)]) (st2 := [.int ((V 16 (nu p)) + 1), .int p, .ref (A 16)]) rfl ?_
                          refine wm_st C hM 16 (j := (nu p)) rfl (vi_ c1.1 c1.2 hP (by decide) (by decide)) rfl d_MD_permit_178 (fun h (hM : mq D h0 h y A (vs (vs (vs (vs (vs (vc (V) 0 0) 17 (upd (V 17) (10 * nu p + nu (V 16 (nu p))) x)) 18 (upd (V 18) (10 * nu p + nu (V 16 (nu p))) a)) 19 (upd (V 19) (10 * nu p + nu (V 16 (nu p))) 0)) 20 (upd (V 20) (10 * nu p + nu (V 16 (nu p))) 16777215)) 16 (upd (V 16) (nu p) ((V 16 (nu p)) + 1)))) => ?_)
                          refine wk_goto C d_MD_permit_179 (tgt := 310) (by decide) ?_
                          refine wk_run C k_MD_permit_310 (pc2 := 312) (lv2 := [(7, .int ((10 * p) + (V 16 (nu p)))), (6, .int (-1)), (5, .int (-1)), (4, .int 0), (0, .ref y), (1, .int p), (2, .int x), (3, .int a)]) (st2 := [.int (-1)]) rfl ?_
                          exact wk_iret C ⟨0, (-1), vs (vs (vs (vs (vs (vc (V) 0 0) 17 (upd (V 17) (10 * nu p + nu (V 16 (nu p))) x)) 18 (upd (V 18) (10 * nu p + nu (V 16 (nu p))) a)) 19 (upd (V 19) (10 * nu p + nu (V 16 (nu p))) 0)) 20 (upd (V 20) (10 * nu p + nu (V 16 (nu p))) 16777215)) 16 (upd (V 16) (nu p) ((V 16 (nu p)) + 1)), by clear C hM hnm; grind [sp_permit], rfl, hM⟩ (by decide) (by decide) d_MD_permit_312
                  ·
                    exact absurd (by decide) c18
                ·
                  refine wk_run C k_MD_permit_69 (pc2 := 70) (lv2 := [(5, .int (-1)), (4, .int 0), (0, .ref y), (1, .int p), (2, .int x), (3, .int a)]) (st2 := [.ref y, .int 0, .ref y]) rfl ?_
                  refine wk_get (v := .ref (A 16)) C fd_MD_47 hM.ob rfl d_MD_permit_70 ?_
                  refine wk_run C k_MD_permit_73 (pc2 := 74) (lv2 := [(5, .int (-1)), (4, .int 0), (0, .ref y), (1, .int p), (2, .int x), (3, .int a)]) (st2 := [.int p, .ref (A 16), .int 0, .ref y]) rfl ?_
                  refine wm_ld C hM 16 (j := nu p) rfl (vi_ c1.1 c1.2 hP (by decide) (by decide)) rfl d_MD_permit_74 ?_
                  show Wk _ _ _ _ _ _ _ _ _ _ _ _ _ _ _ _ _ _ _ (.int (V 16 (nu p)) :: _)
                  refine wk_run C k_MD_permit_75 (pc2 := 77) (lv2 := [(5, .int (-1)), (4, .int 0), (0, .ref y), (1, .int p), (2, .int x), (3, .int a)]) (st2 := [.int 10, .int (V 16 (nu p)), .int 0, .ref y]) rfl ?_
                  refine wk_br C d_MD_permit_77 (P := ¬ (V 16 (nu p)) = 10) (tgt := 84) (rest := [.int 0, .ref y]) rfl (by decide) (fun c24 => ?_) (fun c24 => ?_)
                  ·
                    refine wk_run C k_MD_permit_84 (pc2 := 85) (lv2 := [(5, .int (-1)), (4, .int 0), (0, .ref y), (1, .int p), (2, .int x), (3, .int a)]) (st2 := [.int 0, .int 0, .ref y]) rfl ?_
                    refine wk_callV (cl := ("ProfileRightsModel", T_MD, 27)) (rest := []) C (c_MD_f0 l D HB h h0 y A (V) hM) cs_MD_88 kc_MD_fails ki_MD hM.ob rfl rfl rfl (Nat.le_of_ble_eq_true rfl) (Nat.le_of_ble_eq_true rfl) (Nat.le_of_ble_eq_true rfl) (Nat.le_of_ble_eq_true rfl) (Nat.le_of_ble_eq_true rfl) d_MD_permit_85 (fun v h hq => ?_) (fun _ _ z => nomatch z.1)
                    obtain ⟨e1, hM⟩ := hq; cases e1
                    refine wk_br C d_MD_permit_88 (P := 0 = 0) (tgt := 93) (rest := []) rfl (by decide) (fun c25 => ?_) (fun c25 => ?_)
                    ·
                      refine wk_run C k_MD_permit_93 (pc2 := 96) (lv2 := [(5, .int (-1)), (4, .int 0), (0, .ref y), (1, .int p), (2, .int x), (3, .int a)]) (st2 := [.int (-1), .int (-1)]) rfl ?_
                      refine wk_br C d_MD_permit_96 (P := ¬ (-1) = (-1)) (tgt := 103) (rest := []) rfl (by decide) (fun c26 => ?_) (fun c26 => ?_)
                      ·
                        exact absurd c26 (by decide)
                      ·
                        refine wk_run C k_MD_permit_99 (pc2 := 100) (lv2 := [(5, .int (-1)), (4, .int 0), (0, .ref y), (1, .int p), (2, .int x), (3, .int a)]) (st2 := [.int (-1)]) rfl ?_
                        refine wk_goto C d_MD_permit_100 (tgt := 110) (by decide) ?_
                        refine wk_run C k_MD_permit_110 (pc2 := 115) (lv2 := [(6, .int (-1)), (5, .int (-1)), (4, .int 0), (0, .ref y), (1, .int p), (2, .int x), (3, .int a)]) (st2 := [.int (-1), .int (-1)]) rfl ?_
                        refine wk_br C d_MD_permit_115 (P := ¬ (-1) = (-1)) (tgt := 182) (rest := []) rfl (by decide) (fun c27 => ?_) (fun c27 => ?_)
                        ·
                          exact absurd c27 (by decide)
                        ·
                          refine wk_run C k_MD_permit_118 (pc2 := 120) (lv2 := [(6, .int (-1)), (5, .int (-1)), (4, .int 0), (0, .ref y), (1, .int p), (2, .int x), (3, .int a)]) (st2 := [.int (-1), .int a]) rfl ?_
                          refine wk_br C d_MD_permit_120 (P := a = (-1)) (tgt := 182) (rest := []) rfl (by decide) (fun c28 => ?_) (fun c28 => ?_)
                          ·
                            refine wk_run C k_MD_permit_182 (pc2 := 185) (lv2 := [(6, .int (-1)), (5, .int (-1)), (4, .int 0), (0, .ref y), (1, .int p), (2, .int x), (3, .int a)]) (st2 := [.int (-1), .int (-1)]) rfl ?_
                            refine wk_br C d_MD_permit_185 (P := (-1) = (-1)) (tgt := 204) (rest := []) rfl (by decide) (fun c29 => ?_) (fun c29 => ?_)
                            ·
                              refine wk_run C k_MD_permit_204 (pc2 := 207) (lv2 := [(6, .int (-1)), (5, .int (-1)), (4, .int 0), (0, .ref y), (1, .int p), (2, .int x), (3, .int a)]) (st2 := [.int (-1), .int (-1)]) rfl ?_
                              refine wk_br C d_MD_permit_207 (P := (-1) = (-1)) (tgt := 310) (rest := []) rfl (by decide) (fun c30 => ?_) (fun c30 => ?_)
                              ·
                                refine wk_run C k_MD_permit_310 (pc2 := 312) (lv2 := [(6, .int (-1)), (5, .int (-1)), (4, .int 0), (0, .ref y), (1, .int p), (2, .int x), (3, .int a)]) (st2 := [.int (-1)]) rfl ?_
                                exact wk_iret C ⟨0, (-1), vc (V) 0 0, by clear C hM hnm; grind [sp_permit], rfl, hM⟩ (by decide) (by decide) d_MD_permit_312
                              ·
                                exact absurd (by decide) c30
                            ·
                              exact absurd (by decide) c29
                          ·
                            refine wk_run C k_MD_permit_123 (pc2 := 128) (lv2 := [(6, .int (-1)), (5, .int (-1)), (4, .int 0), (0, .ref y), (1, .int p), (2, .int x), (3, .int a)]) (st2 := [.ref y, .int (10 * p)]) rfl ?_
                            refine wk_get (v := .ref (A 16)) C fd_MD_47 hM.ob rfl d_MD_permit_128 ?_
                            refine wk_run C k_MD_permit_131 (pc2 := 132) (lv2 := [(6, .int (-1)), (5, .int (-1)), (4, .int 0), (0, .ref y), (1, .int p), (2, .int x), (3, .int a)]) (st2 := [.int p, .ref (A 16), .int (10 * p)]) rfl ?_
                            refine wm_ld C hM 16 (j := nu p) rfl (vi_ c1.1 c1.2 hP (by decide) (by decide)) rfl d_MD_permit_132 ?_
                            show Wk _ _ _ _ _ _ _ _ _ _ _ _ _ _ _ _ _ _ _ (.int (V 16 (nu p)) :: _)
                            refine wk_run C k_MD_permit_133 (pc2 := 137) (lv2 := [(7, .int ((10 * p) + (V 16 (nu p)))), (6, .int (-1)), (5, .int (-1)), (4, .int 0), (0, .ref y), (1, .int p), (2, .int x), (3, .int a)]) (st2 := [.ref y]) rfl ?_
                            refine wk_get (v := .ref (A 17)) C fd_MD_50 hM.ob rfl d_MD_permit_137 ?_
                            refine wk_run C k_MD_permit_140 (pc2 := 143) (lv2 := [(7, .int ((10 * p) + (V 16 (nu p)))), (6, .int (-1)), (5, .int (-1)), (4, .int 0), (0, .ref y), (1, .int p), (2, .int x), (3, .int a)]) (st2 := [.int x, .int ((10 * p) + (V 16 (nu p))), .ref (A 17)]) rfl ?_
                            refine wm_st C hM 17 (j := (10 * nu p + nu (V 16 (nu p)))) rfl (nx_ (k := 10) (m := 60) (n := 9) (N := 610) (ok_r c1.1 c1.2 hP (by decide)) (ok_n10 hE (by clear C hM; grind)) (by decide) (by decide)).1 (nx_ (k := 10) (m := 60) (n := 9) (N := 610) (ok_r c1.1 c1.2 hP (by decide)) (ok_n10 hE (by clear C hM; grind)) (by decide) (by decide)).2 d_MD_permit_143 (fun h (hM : mq D h0 h y A (vs (vc (V) 0 0) 17 (upd (V 17) (10 * nu p + nu (V 16 (nu p))) x))) => ?_)
                            refine wk_run C k_MD_permit_144 (pc2 := 145) (lv2 := [(7, .int ((10 * p) + (V 16 (nu p)))), (6, .int (-1)), (5, .int (-1)), (4, .int 0), (0, .ref y), (1, .int p), (2, .int x), (3, .int a)]) (st2 := [.ref y]) rfl ?_
                            refine wk_get (v := .ref (A 18)) C fd_MD_53 hM.ob rfl d_MD_permit_145 ?_
                            refine wk_run C k_MD_permit_148 (pc2 := 151) (lv2 := [(7, .int ((10 * p) + (V 16 (nu p)))), (6, .int (-1)), (5, .int (-1)), (4, .int 0), (0, .ref y), (1, .int p), (2, .int x), (3, .int a)]) (st2 := [.int a, .int ((10 * p) + (V 16 (nu p))), .ref (A 18)]) rfl ?_
                            refine wm_st C hM 18 (j := (10 * nu p + nu (V 16 (nu p)))) rfl (nx_ (k := 10) (m := 60) (n := 9) (N := 610) (ok_r c1.1 c1.2 hP (by decide)) (ok_n10 hE (by clear C hM; grind)) (by decide) (by decide)).1 (nx_ (k := 10) (m := 60) (n := 9) (N := 610) (ok_r c1.1 c1.2 hP (by decide)) (ok_n10 hE (by clear C hM; grind)) (by decide) (by decide)).2 d_MD_permit_151 (fun h (hM : mq D h0 h y A (vs (vs (vc (V) 0 0) 17 (upd (V 17) (10 * nu p + nu (V 16 (nu p))) x)) 18 (upd (V 18) (10 * nu p + nu (V 16 (nu p))) a))) => ?_)
                            refine wk_run C k_MD_permit_152 (pc2 := 153) (lv2 := [(7, .int ((10 * p) + (V 16 (nu p)))), (6, .int (-1)), (5, .int (-1)), (4, .int 0), (0, .ref y), (1, .int p), (2, .int x), (3, .int a)]) (st2 := [.ref y]) rfl ?_
                            refine wk_get (v := .ref (A 19)) C fd_MD_56 hM.ob rfl d_MD_permit_153 ?_
                            refine wk_run C k_MD_permit_156 (pc2 := 159) (lv2 := [(7, .int ((10 * p) + (V 16 (nu p)))), (6, .int (-1)), (5, .int (-1)), (4, .int 0), (0, .ref y), (1, .int p), (2, .int x), (3, .int a)]) (st2 := [.int 0, .int ((10 * p) + (V 16 (nu p))), .ref (A 19)]) rfl ?_
                            refine wm_st C hM 19 (j := (10 * nu p + nu (V 16 (nu p)))) rfl (nx_ (k := 10) (m := 60) (n := 9) (N := 610) (ok_r c1.1 c1.2 hP (by decide)) (ok_n10 hE (by clear C hM; grind)) (by decide) (by decide)).1 (nx_ (k := 10) (m := 60) (n := 9) (N := 610) (ok_r c1.1 c1.2 hP (by decide)) (ok_n10 hE (by clear C hM; grind)) (by decide) (by decide)).2 d_MD_permit_159 (fun h (hM : mq D h0 h y A (vs (vs (vs (vc (V) 0 0) 17 (upd (V 17) (10 * nu p + nu (V 16 (nu p))) x)) 18 (upd (V 18) (10 * nu p + nu (V 16 (nu p))) a)) 19 (upd (V 19) (10 * nu p + nu (V 16 (nu p))) 0))) => ?_)
                            refine wk_run C k_MD_permit_160 (pc2 := 161) (lv2 := [(7, .int ((10 * p) + (V 16 (nu p)))), (6, .int (-1)), (5, .int (-1)), (4, .int 0), (0, .ref y), (1, .int p), (2, .int x), (3, .int a)]) (st2 := [.ref y]) rfl ?_
                            refine wk_get (v := .ref (A 20)) C fd_MD_59 hM.ob rfl d_MD_permit_161 ?_
                            refine wk_run C k_MD_permit_164 (pc2 := 166) (lv2 := [(7, .int ((10 * p) + (V 16 (nu p)))), (6, .int (-1)), (5, .int (-1)), (4, .int 0), (0, .ref y), (1, .int p), (2, .int x), (3, .int a)]) (st2 := [.int ((10 * p) + (V 16 (nu p))), .ref (A 20)]) rfl ?_
                            refine wk_ldc C kk_MD_114 d_MD_permit_166 ?_
                            refine wm_st C hM 20 (j := (10 * nu p + nu (V 16 (nu p)))) rfl (nx_ (k := 10) (m := 60) (n := 9) (N := 610) (ok_r c1.1 c1.2 hP (by decide)) (ok_n10 hE (by clear C hM; grind)) (by decide) (by decide)).1 (nx_ (k := 10) (m := 60) (n := 9) (N := 610) (ok_r c1.1 c1.2 hP (by decide)) (ok_n10 hE (by clear C hM; grind)) (by decide) (by decide)).2 d_MD_permit_168 (fun h (hM : mq D h0 h y A (vs (vs (vs (vs (vc (V) 0 0) 17 (upd (V 17) (10 * nu p + nu (V 16 (nu p))) x)) 18 (upd (V 18) (10 * nu p + nu (V 16 (nu p))) a)) 19 (upd (V 19) (10 * nu p + nu (V 16 (nu p))) 0)) 20 (upd (V 20) (10 * nu p + nu (V 16 (nu p))) 16777215))) => ?_)
                            refine wk_run C k_MD_permit_169 (pc2 := 170) (lv2 := [(7, .int ((10 * p) + (V 16 (nu p)))), (6, .int (-1)), (5, .int (-1)), (4, .int 0), (0, .ref y), (1, .int p), (2, .int x), (3, .int a)]) (st2 := [.ref y]) rfl ?_
                            refine wk_get (v := .ref (A 16)) C fd_MD_47 hM.ob rfl d_MD_permit_170 ?_
                            refine wk_run C k_MD_permit_173 (pc2 := 175) (lv2 := [(7, .int ((10 * p) + (V 16 (nu p)))), (6, .int (-1)), (5, .int (-1)), (4, .int 0), (0, .ref y), (1, .int p), (2, .int x), (3, .int a)]) (st2 := [.int p, .ref (A 16), .int p, .ref (A 16)]) rfl ?_
                            refine wm_ld C hM 16 (j := nu p) rfl (vi_ c1.1 c1.2 hP (by decide) (by decide)) rfl d_MD_permit_175 ?_
                            show Wk _ _ _ _ _ _ _ _ _ _ _ _ _ _ _ _ _ _ _ (.int (V 16 (nu p)) :: _)
                            refine wk_run C k_MD_permit_176 (pc2 := 178) (lv2 := [(7, .int ((10 * p) + (V 16 (nu p)))), (6, .int (-1)), (5, .int (-1)), (4, .int 0), (0, .ref y), (1, .int p), (2, .int x), (3, .int a)]) (st2 := [.int ((V 16 (nu p)) + 1), .int p, .ref (A 16)]) rfl ?_
                            refine wm_st C hM 16 (j := (nu p)) rfl (vi_ c1.1 c1.2 hP (by decide) (by decide)) rfl d_MD_permit_178 (fun h (hM : mq D h0 h y A (vs (vs (vs (vs (vs (vc (V) 0 0) 17 (upd (V 17) (10 * nu p + nu (V 16 (nu p))) x)) 18 (upd (V 18) (10 * nu p + nu (V 16 (nu p))) a)) 19 (upd (V 19) (10 * nu p + nu (V 16 (nu p))) 0)) 20 (upd (V 20) (10 * nu p + nu (V 16 (nu p))) 16777215)) 16 (upd (V 16) (nu p) ((V 16 (nu p)) + 1)))) => ?_)
                            refine wk_goto C d_MD_permit_179 (tgt := 310) (by decide) ?_
                            refine wk_run C k_MD_permit_310 (pc2 := 312) (lv2 := [(7, .int ((10 * p) + (V 16 (nu p)))), (6, .int (-1)), (5, .int (-1)), (4, .int 0), (0, .ref y), (1, .int p), (2, .int x), (3, .int a)]) (st2 := [.int (-1)]) rfl ?_
                            exact wk_iret C ⟨0, (-1), vs (vs (vs (vs (vs (vc (V) 0 0) 17 (upd (V 17) (10 * nu p + nu (V 16 (nu p))) x)) 18 (upd (V 18) (10 * nu p + nu (V 16 (nu p))) a)) 19 (upd (V 19) (10 * nu p + nu (V 16 (nu p))) 0)) 20 (upd (V 20) (10 * nu p + nu (V 16 (nu p))) 16777215)) 16 (upd (V 16) (nu p) ((V 16 (nu p)) + 1)), by clear C hM hnm; grind [sp_permit], rfl, hM⟩ (by decide) (by decide) d_MD_permit_312
                    ·
                      exact absurd (by decide) c25
                  ·
                    refine wk_run C k_MD_permit_80 (pc2 := 81) (lv2 := [(5, .int (-1)), (4, .int 0), (0, .ref y), (1, .int p), (2, .int x), (3, .int a)]) (st2 := [.int 1, .int 0, .ref y]) rfl ?_
                    refine wk_goto C d_MD_permit_81 (tgt := 85) (by decide) ?_
                    refine wk_callV (cl := ("ProfileRightsModel", T_MD, 27)) (rest := []) C (c_MD_f2 l D HB h h0 y A (V) hM) cs_MD_88 kc_MD_fails ki_MD hM.ob rfl rfl rfl (Nat.le_of_ble_eq_true rfl) (Nat.le_of_ble_eq_true rfl) (Nat.le_of_ble_eq_true rfl) (Nat.le_of_ble_eq_true rfl) (Nat.le_of_ble_eq_true rfl) d_MD_permit_85 (fun v h hq => ?_) (fun _ _ z => nomatch z.1)
                    obtain ⟨e1, hM⟩ := hq; cases e1
                    refine wk_br C d_MD_permit_88 (P := 1 = 0) (tgt := 93) (rest := []) rfl (by decide) (fun c31 => ?_) (fun c31 => ?_)
                    ·
                      exact absurd c31 (by decide)
                    ·
                      refine wk_run C k_MD_permit_91 (pc2 := 92) (lv2 := [(5, .int (-1)), (4, .int 0), (0, .ref y), (1, .int p), (2, .int x), (3, .int a)]) (st2 := [.int 0]) rfl ?_
                      exact wk_iret C ⟨2, 0, vc (V) 0 2, by clear C hM hnm; grind [sp_permit], rfl, hM⟩ (by decide) (by decide) d_MD_permit_92
          ·
            exact absurd (by decide) c14
        ·
          refine wk_run C k_MD_permit_26 (pc2 := 27) (lv2 := [(0, .ref y), (1, .int p), (2, .int x), (3, .int a)]) (st2 := [.int 1]) rfl ?_
          refine wk_goto C d_MD_permit_27 (tgt := 31) (by decide) ?_
          refine wk_run C k_MD_permit_31 (pc2 := 35) (lv2 := [(4, .int 1), (0, .ref y), (1, .int p), (2, .int x), (3, .int a)]) (st2 := [.int 1]) rfl ?_
          refine wk_br C d_MD_permit_35 (P := 1 = 0) (tgt := 42) (rest := []) rfl (by decide) (fun c32 => ?_) (fun c32 => ?_)
          ·
            exact absurd c32 (by decide)
          ·
            refine wk_run C k_MD_permit_38 (pc2 := 39) (lv2 := [(4, .int 1), (0, .ref y), (1, .int p), (2, .int x), (3, .int a)]) (st2 := [.int (-1)]) rfl ?_
            refine wk_goto C d_MD_permit_39 (tgt := 48) (by decide) ?_
            refine wk_run C k_MD_permit_48 (pc2 := 55) (lv2 := [(5, .int (-1)), (4, .int 1), (0, .ref y), (1, .int p), (2, .int x), (3, .int a)]) (st2 := [.int 1, .int 1, .ref y]) rfl ?_
            refine wk_br C d_MD_permit_55 (P := ¬ 1 = 0) (tgt := 84) (rest := [.int 1, .ref y]) rfl (by decide) (fun c33 => ?_) (fun c33 => ?_)
            ·
              refine wk_run C k_MD_permit_84 (pc2 := 85) (lv2 := [(5, .int (-1)), (4, .int 1), (0, .ref y), (1, .int p), (2, .int x), (3, .int a)]) (st2 := [.int 0, .int 1, .ref y]) rfl ?_
              refine wk_callV (cl := ("ProfileRightsModel", T_MD, 27)) (rest := []) C (c_MD_f1 l D HB h h0 y A (V) hM) cs_MD_88 kc_MD_fails ki_MD hM.ob rfl rfl rfl (Nat.le_of_ble_eq_true rfl) (Nat.le_of_ble_eq_true rfl) (Nat.le_of_ble_eq_true rfl) (Nat.le_of_ble_eq_true rfl) (Nat.le_of_ble_eq_true rfl) d_MD_permit_85 (fun v h hq => ?_) (fun _ _ z => nomatch z.1)
              obtain ⟨e1, hM⟩ := hq; cases e1
              refine wk_br C d_MD_permit_88 (P := 1 = 0) (tgt := 93) (rest := []) rfl (by decide) (fun c34 => ?_) (fun c34 => ?_)
              ·
                exact absurd c34 (by decide)
              ·
                refine wk_run C k_MD_permit_91 (pc2 := 92) (lv2 := [(5, .int (-1)), (4, .int 1), (0, .ref y), (1, .int p), (2, .int x), (3, .int a)]) (st2 := [.int 0]) rfl ?_
                exact wk_iret C ⟨1, 0, vc (V) 0 1, by clear C hM hnm; grind [sp_permit], rfl, hM⟩ (by decide) (by decide) d_MD_permit_92
            ·
              exact absurd (by decide) c33
theorem k_MD_permit_103 : px_dec prog_9_method_24_code [.aload_n 0] 103 = true := by decide +kernel
theorem d_MD_permit_104 : decode prog_9_method_24_code 104 = .ok (.getfield 53, 3) := by decide +kernel
theorem k_MD_permit_107 : px_dec prog_9_method_24_code [.iload 5] 107 = true := by decide +kernel
theorem d_MD_permit_109 : decode prog_9_method_24_code 109 = .ok (.iaload, 1) := by decide +kernel
theorem k_MD_permit_188 : px_dec prog_9_method_24_code [.iload_n 3, .iconst (-1)] 188 = true := by decide +kernel
theorem d_MD_permit_190 : decode prog_9_method_24_code 190 = .ok (.if_icmp .eq 14, 3) := by decide +kernel
theorem k_MD_permit_210 : px_dec prog_9_method_24_code [.aload_n 0] 210 = true := by decide +kernel
theorem d_MD_permit_211 : decode prog_9_method_24_code 211 = .ok (.getfield 47, 3) := by decide +kernel
theorem k_MD_permit_214 : px_dec prog_9_method_24_code [.iload_n 1, .dup2] 214 = true := by decide +kernel
theorem d_MD_permit_216 : decode prog_9_method_24_code 216 = .ok (.iaload, 1) := by decide +kernel
theorem k_MD_permit_217 : px_dec prog_9_method_24_code [.iconst 1, .isub] 217 = true := by decide +kernel
theorem d_MD_permit_219 : decode prog_9_method_24_code 219 = .ok (.iastore, 1) := by decide +kernel
theorem k_MD_permit_220 : px_dec prog_9_method_24_code [.iload 5, .istore 7] 220 = true := by decide +kernel
theorem k_MD_permit_224 : px_dec prog_9_method_24_code [.iload 7, .bipush 10, .iload_n 1, .imul, .aload_n 0] 224 = true := by decide +kernel
theorem d_MD_permit_231 : decode prog_9_method_24_code 231 = .ok (.getfield 47, 3) := by decide +kernel
theorem k_MD_permit_234 : px_dec prog_9_method_24_code [.iload_n 1] 234 = true := by decide +kernel
theorem d_MD_permit_235 : decode prog_9_method_24_code 235 = .ok (.iaload, 1) := by decide +kernel
theorem k_MD_permit_236 : px_dec prog_9_method_24_code [.iadd] 236 = true := by decide +kernel
theorem d_MD_permit_237 : decode prog_9_method_24_code 237 = .ok (.if_icmp .ge 73, 3) := by decide +kernel
theorem k_MD_permit_240 : px_dec prog_9_method_24_code [.aload_n 0] 240 = true := by decide +kernel
theorem d_MD_permit_241 : decode prog_9_method_24_code 241 = .ok (.getfield 50, 3) := by decide +kernel
theorem k_MD_permit_244 : px_dec prog_9_method_24_code [.iload 7, .aload_n 0] 244 = true := by decide +kernel
theorem d_MD_permit_247 : decode prog_9_method_24_code 247 = .ok (.getfield 50, 3) := by decide +kernel
theorem k_MD_permit_250 : px_dec prog_9_method_24_code [.iload 7, .iconst 1, .iadd] 250 = true := by decide +kernel
theorem d_MD_permit_254 : decode prog_9_method_24_code 254 = .ok (.iaload, 1) := by decide +kernel
theorem d_MD_permit_255 : decode prog_9_method_24_code 255 = .ok (.iastore, 1) := by decide +kernel
theorem k_MD_permit_256 : px_dec prog_9_method_24_code [.aload_n 0] 256 = true := by decide +kernel
theorem d_MD_permit_257 : decode prog_9_method_24_code 257 = .ok (.getfield 53, 3) := by decide +kernel
theorem k_MD_permit_260 : px_dec prog_9_method_24_code [.iload 7, .aload_n 0] 260 = true := by decide +kernel
theorem d_MD_permit_263 : decode prog_9_method_24_code 263 = .ok (.getfield 53, 3) := by decide +kernel
theorem k_MD_permit_266 : px_dec prog_9_method_24_code [.iload 7, .iconst 1, .iadd] 266 = true := by decide +kernel
theorem d_MD_permit_270 : decode prog_9_method_24_code 270 = .ok (.iaload, 1) := by decide +kernel
theorem d_MD_permit_271 : decode prog_9_method_24_code 271 = .ok (.iastore, 1) := by decide +kernel
theorem k_MD_permit_272 : px_dec prog_9_method_24_code [.aload_n 0] 272 = true := by decide +kernel
theorem d_MD_permit_273 : decode prog_9_method_24_code 273 = .ok (.getfield 56, 3) := by decide +kernel
theorem k_MD_permit_276 : px_dec prog_9_method_24_code [.iload 7, .aload_n 0] 276 = true := by decide +kernel
theorem d_MD_permit_279 : decode prog_9_method_24_code 279 = .ok (.getfield 56, 3) := by decide +kernel
theorem k_MD_permit_282 : px_dec prog_9_method_24_code [.iload 7, .iconst 1, .iadd] 282 = true := by decide +kernel
theorem d_MD_permit_286 : decode prog_9_method_24_code 286 = .ok (.iaload, 1) := by decide +kernel
theorem d_MD_permit_287 : decode prog_9_method_24_code 287 = .ok (.iastore, 1) := by decide +kernel
theorem k_MD_permit_288 : px_dec prog_9_method_24_code [.aload_n 0] 288 = true := by decide +kernel
theorem d_MD_permit_289 : decode prog_9_method_24_code 289 = .ok (.getfield 59, 3) := by decide +kernel
theorem k_MD_permit_292 : px_dec prog_9_method_24_code [.iload 7, .aload_n 0] 292 = true := by decide +kernel
theorem d_MD_permit_295 : decode prog_9_method_24_code 295 = .ok (.getfield 59, 3) := by decide +kernel
theorem k_MD_permit_298 : px_dec prog_9_method_24_code [.iload 7, .iconst 1, .iadd] 298 = true := by decide +kernel
theorem d_MD_permit_302 : decode prog_9_method_24_code 302 = .ok (.iaload, 1) := by decide +kernel
theorem d_MD_permit_303 : decode prog_9_method_24_code 303 = .ok (.iastore, 1) := by decide +kernel
theorem k_MD_permit_304 : px_dec prog_9_method_24_code [.iinc 7 1] 304 = true := by decide +kernel
theorem d_MD_permit_307 : decode prog_9_method_24_code 307 = .ok (.goto (-83), 3) := by decide +kernel
theorem k_MD_permit_193 : px_dec prog_9_method_24_code [.aload_n 0] 193 = true := by decide +kernel
theorem d_MD_permit_194 : decode prog_9_method_24_code 194 = .ok (.getfield 53, 3) := by decide +kernel
theorem k_MD_permit_197 : px_dec prog_9_method_24_code [.iload 5, .iload_n 3] 197 = true := by decide +kernel
theorem d_MD_permit_200 : decode prog_9_method_24_code 200 = .ok (.iastore, 1) := by decide +kernel
theorem d_MD_permit_201 : decode prog_9_method_24_code 201 = .ok (.goto 109, 3) := by decide +kernel
set_option maxRecDepth 100000 in
set_option maxHeartbeats 4000000 in
theorem c_MD_permitS (l : Launch) (D : va_G) (HB : Heap) (h : hp_T) (h0 : hp_T) (y : Nat) (A : Nat → Nat) (V : vT) (p : Int32) (x : Int32) (a : Int32) (hP : ok_ (V 9 0) 60) (hE : ok_ (V 16 (nu p)) 10) (k : Nat) (hf : fe_ V (nu p) x = some k) (hM : mq D h0 h y A V) : ct_M l y_MD_permit (.code y_MD_permit prog_9_method_24_code 8 (Option.some Jvm.ClassFile.FieldType.int)) ({ frames := 2, cells := 0, slots := 0, locals := 60 }) D HB [.ref y, .int p, .int x, .int a] h (fun o h2 => ∃ (cd r : Int32) (V2 : vT), sp_permit V p x a = (cd, r, V2) ∧ o = .inl (some (.int r)) ∧ mq D h0 h2 y A V2) := by
  refine ct_of (by decide) (Nat.le_of_ble_eq_true rfl) rfl ?_
  intro p_ e_ s_ m_ r_ b_ t_ c_ C hnm
  refine wk_run C k_MD_permit_0 (pc2 := 2) (lv2 := [(0, .ref y), (1, .int p), (2, .int x), (3, .int a)]) (st2 := [.int p, .ref y]) rfl ?_
  refine wk_callV (cl := ("ProfileRightsModel", T_MD, 27)) (rest := []) C (c_MD_isProfile l D HB h h0 y A (V) p hM) cs_MD_101 kc_MD_isProfile ki_MD hM.ob rfl rfl rfl (Nat.le_of_ble_eq_true rfl) (Nat.le_of_ble_eq_true rfl) (Nat.le_of_ble_eq_true rfl) (Nat.le_of_ble_eq_true rfl) (Nat.le_of_ble_eq_true rfl) d_MD_permit_2 (fun v h2 hq => ?_) (fun _ _ z => nomatch z.1)
  obtain ⟨e1, e2⟩ := hq; cases e1; replace e2 := e2.symm; subst e2
  show Wk _ _ _ _ _ _ _ _ _ _ _ _ _ _ _ _ _ _ _ (.int (if ¬ p < 1 ∧ p ≤ V 9 0 then (1 : Int32) else 0) :: _)
  refine wk_br C d_MD_permit_5 (P := (if ¬ p < 1 ∧ p ≤ V 9 0 then (1 : Int32) else 0) = 0) (tgt := 26) (rest := []) rfl (by decide) (fun c1 => ?_) (fun c1 => ?_)
  ·
    replace c1 := bz_ c1
    refine wk_run C k_MD_permit_26 (pc2 := 27) (lv2 := [(0, .ref y), (1, .int p), (2, .int x), (3, .int a)]) (st2 := [.int 1]) rfl ?_
    refine wk_goto C d_MD_permit_27 (tgt := 31) (by decide) ?_
    refine wk_run C k_MD_permit_31 (pc2 := 35) (lv2 := [(4, .int 1), (0, .ref y), (1, .int p), (2, .int x), (3, .int a)]) (st2 := [.int 1]) rfl ?_
    refine wk_br C d_MD_permit_35 (P := 1 = 0) (tgt := 42) (rest := []) rfl (by decide) (fun c2 => ?_) (fun c2 => ?_)
    ·
      exact absurd c2 (by decide)
    ·
      refine wk_run C k_MD_permit_38 (pc2 := 39) (lv2 := [(4, .int 1), (0, .ref y), (1, .int p), (2, .int x), (3, .int a)]) (st2 := [.int (-1)]) rfl ?_
      refine wk_goto C d_MD_permit_39 (tgt := 48) (by decide) ?_
      refine wk_run C k_MD_permit_48 (pc2 := 55) (lv2 := [(5, .int (-1)), (4, .int 1), (0, .ref y), (1, .int p), (2, .int x), (3, .int a)]) (st2 := [.int 1, .int 1, .ref y]) rfl ?_
      refine wk_br C d_MD_permit_55 (P := ¬ 1 = 0) (tgt := 84) (rest := [.int 1, .ref y]) rfl (by decide) (fun c3 => ?_) (fun c3 => ?_)
      ·
        refine wk_run C k_MD_permit_84 (pc2 := 85) (lv2 := [(5, .int (-1)), (4, .int 1), (0, .ref y), (1, .int p), (2, .int x), (3, .int a)]) (st2 := [.int 0, .int 1, .ref y]) rfl ?_
        refine wk_callV (cl := ("ProfileRightsModel", T_MD, 27)) (rest := []) C (c_MD_f1 l D HB h h0 y A (V) hM) cs_MD_88 kc_MD_fails ki_MD hM.ob rfl rfl rfl (Nat.le_of_ble_eq_true rfl) (Nat.le_of_ble_eq_true rfl) (Nat.le_of_ble_eq_true rfl) (Nat.le_of_ble_eq_true rfl) (Nat.le_of_ble_eq_true rfl) d_MD_permit_85 (fun v h hq => ?_) (fun _ _ z => nomatch z.1)
        obtain ⟨e1, hM⟩ := hq; cases e1
        refine wk_br C d_MD_permit_88 (P := 1 = 0) (tgt := 93) (rest := []) rfl (by decide) (fun c4 => ?_) (fun c4 => ?_)
        ·
          exact absurd c4 (by decide)
        ·
          refine wk_run C k_MD_permit_91 (pc2 := 92) (lv2 := [(5, .int (-1)), (4, .int 1), (0, .ref y), (1, .int p), (2, .int x), (3, .int a)]) (st2 := [.int 0]) rfl ?_
          exact wk_iret C ⟨1, 0, vc (V) 0 1, by clear C hM hnm; grind [sp_permit], rfl, hM⟩ (by decide) (by decide) d_MD_permit_92
      ·
        exact absurd (by decide) c3
  ·
    replace c1 := bn_ c1
    refine wk_run C k_MD_permit_8 (pc2 := 10) (lv2 := [(0, .ref y), (1, .int p), (2, .int x), (3, .int a)]) (st2 := [.int x, .ref y]) rfl ?_
    refine wk_callV (cl := ("ProfileRightsModel", T_MD, 27)) (rest := []) C (c_MD_isWho l D HB h h0 y A (V) x hM) cs_MD_107 kc_MD_isWho ki_MD hM.ob rfl rfl rfl (Nat.le_of_ble_eq_true rfl) (Nat.le_of_ble_eq_true rfl) (Nat.le_of_ble_eq_true rfl) (Nat.le_of_ble_eq_true rfl) (Nat.le_of_ble_eq_true rfl) d_MD_permit_10 (fun v h2 hq => ?_) (fun _ _ z => nomatch z.1)
    obtain ⟨e1, e2⟩ := hq; cases e1; replace e2 := e2.symm; subst e2
    show Wk _ _ _ _ _ _ _ _ _ _ _ _ _ _ _ _ _ _ _ (.int (if ho_ (V) x then (1 : Int32) else 0) :: _)
    refine wk_br C d_MD_permit_13 (P := (if ho_ (V) x then (1 : Int32) else 0) = 0) (tgt := 26) (rest := []) rfl (by decide) (fun c5 => ?_) (fun c5 => ?_)
    ·
      replace c5 := bz_ c5
      refine wk_run C k_MD_permit_26 (pc2 := 27) (lv2 := [(0, .ref y), (1, .int p), (2, .int x), (3, .int a)]) (st2 := [.int 1]) rfl ?_
      refine wk_goto C d_MD_permit_27 (tgt := 31) (by decide) ?_
      refine wk_run C k_MD_permit_31 (pc2 := 35) (lv2 := [(4, .int 1), (0, .ref y), (1, .int p), (2, .int x), (3, .int a)]) (st2 := [.int 1]) rfl ?_
      refine wk_br C d_MD_permit_35 (P := 1 = 0) (tgt := 42) (rest := []) rfl (by decide) (fun c6 => ?_) (fun c6 => ?_)
      ·
        exact absurd c6 (by decide)
      ·
        refine wk_run C k_MD_permit_38 (pc2 := 39) (lv2 := [(4, .int 1), (0, .ref y), (1, .int p), (2, .int x), (3, .int a)]) (st2 := [.int (-1)]) rfl ?_
        refine wk_goto C d_MD_permit_39 (tgt := 48) (by decide) ?_
        refine wk_run C k_MD_permit_48 (pc2 := 55) (lv2 := [(5, .int (-1)), (4, .int 1), (0, .ref y), (1, .int p), (2, .int x), (3, .int a)]) (st2 := [.int 1, .int 1, .ref y]) rfl ?_
        refine wk_br C d_MD_permit_55 (P := ¬ 1 = 0) (tgt := 84) (rest := [.int 1, .ref y]) rfl (by decide) (fun c7 => ?_) (fun c7 => ?_)
        ·
          refine wk_run C k_MD_permit_84 (pc2 := 85) (lv2 := [(5, .int (-1)), (4, .int 1), (0, .ref y), (1, .int p), (2, .int x), (3, .int a)]) (st2 := [.int 0, .int 1, .ref y]) rfl ?_
          refine wk_callV (cl := ("ProfileRightsModel", T_MD, 27)) (rest := []) C (c_MD_f1 l D HB h h0 y A (V) hM) cs_MD_88 kc_MD_fails ki_MD hM.ob rfl rfl rfl (Nat.le_of_ble_eq_true rfl) (Nat.le_of_ble_eq_true rfl) (Nat.le_of_ble_eq_true rfl) (Nat.le_of_ble_eq_true rfl) (Nat.le_of_ble_eq_true rfl) d_MD_permit_85 (fun v h hq => ?_) (fun _ _ z => nomatch z.1)
          obtain ⟨e1, hM⟩ := hq; cases e1
          refine wk_br C d_MD_permit_88 (P := 1 = 0) (tgt := 93) (rest := []) rfl (by decide) (fun c8 => ?_) (fun c8 => ?_)
          ·
            exact absurd c8 (by decide)
          ·
            refine wk_run C k_MD_permit_91 (pc2 := 92) (lv2 := [(5, .int (-1)), (4, .int 1), (0, .ref y), (1, .int p), (2, .int x), (3, .int a)]) (st2 := [.int 0]) rfl ?_
            exact wk_iret C ⟨1, 0, vc (V) 0 1, by clear C hM hnm; grind [sp_permit], rfl, hM⟩ (by decide) (by decide) d_MD_permit_92
        ·
          exact absurd (by decide) c7
    ·
      replace c5 := bn_ c5
      refine wk_run C k_MD_permit_16 (pc2 := 18) (lv2 := [(0, .ref y), (1, .int p), (2, .int x), (3, .int a)]) (st2 := [.int (-1), .int a]) rfl ?_
      refine wk_br C d_MD_permit_18 (P := a < (-1)) (tgt := 26) (rest := []) rfl (by decide) (fun c9 => ?_) (fun c9 => ?_)
      ·
        refine wk_run C k_MD_permit_26 (pc2 := 27) (lv2 := [(0, .ref y), (1, .int p), (2, .int x), (3, .int a)]) (st2 := [.int 1]) rfl ?_
        refine wk_goto C d_MD_permit_27 (tgt := 31) (by decide) ?_
        refine wk_run C k_MD_permit_31 (pc2 := 35) (lv2 := [(4, .int 1), (0, .ref y), (1, .int p), (2, .int x), (3, .int a)]) (st2 := [.int 1]) rfl ?_
        refine wk_br C d_MD_permit_35 (P := 1 = 0) (tgt := 42) (rest := []) rfl (by decide) (fun c10 => ?_) (fun c10 => ?_)
        ·
          exact absurd c10 (by decide)
        ·
          refine wk_run C k_MD_permit_38 (pc2 := 39) (lv2 := [(4, .int 1), (0, .ref y), (1, .int p), (2, .int x), (3, .int a)]) (st2 := [.int (-1)]) rfl ?_
          refine wk_goto C d_MD_permit_39 (tgt := 48) (by decide) ?_
          refine wk_run C k_MD_permit_48 (pc2 := 55) (lv2 := [(5, .int (-1)), (4, .int 1), (0, .ref y), (1, .int p), (2, .int x), (3, .int a)]) (st2 := [.int 1, .int 1, .ref y]) rfl ?_
          refine wk_br C d_MD_permit_55 (P := ¬ 1 = 0) (tgt := 84) (rest := [.int 1, .ref y]) rfl (by decide) (fun c11 => ?_) (fun c11 => ?_)
          ·
            refine wk_run C k_MD_permit_84 (pc2 := 85) (lv2 := [(5, .int (-1)), (4, .int 1), (0, .ref y), (1, .int p), (2, .int x), (3, .int a)]) (st2 := [.int 0, .int 1, .ref y]) rfl ?_
            refine wk_callV (cl := ("ProfileRightsModel", T_MD, 27)) (rest := []) C (c_MD_f1 l D HB h h0 y A (V) hM) cs_MD_88 kc_MD_fails ki_MD hM.ob rfl rfl rfl (Nat.le_of_ble_eq_true rfl) (Nat.le_of_ble_eq_true rfl) (Nat.le_of_ble_eq_true rfl) (Nat.le_of_ble_eq_true rfl) (Nat.le_of_ble_eq_true rfl) d_MD_permit_85 (fun v h hq => ?_) (fun _ _ z => nomatch z.1)
            obtain ⟨e1, hM⟩ := hq; cases e1
            refine wk_br C d_MD_permit_88 (P := 1 = 0) (tgt := 93) (rest := []) rfl (by decide) (fun c12 => ?_) (fun c12 => ?_)
            ·
              exact absurd c12 (by decide)
            ·
              refine wk_run C k_MD_permit_91 (pc2 := 92) (lv2 := [(5, .int (-1)), (4, .int 1), (0, .ref y), (1, .int p), (2, .int x), (3, .int a)]) (st2 := [.int 0]) rfl ?_
              exact wk_iret C ⟨1, 0, vc (V) 0 1, by clear C hM hnm; grind [sp_permit], rfl, hM⟩ (by decide) (by decide) d_MD_permit_92
          ·
            exact absurd (by decide) c11
      ·
        refine wk_run C k_MD_permit_21 (pc2 := 23) (lv2 := [(0, .ref y), (1, .int p), (2, .int x), (3, .int a)]) (st2 := [.int 4, .int a]) rfl ?_
        refine wk_br C d_MD_permit_23 (P := a ≤ 4) (tgt := 30) (rest := []) rfl (by decide) (fun c13 => ?_) (fun c13 => ?_)
        ·
          refine wk_run C k_MD_permit_30 (pc2 := 35) (lv2 := [(4, .int 0), (0, .ref y), (1, .int p), (2, .int x), (3, .int a)]) (st2 := [.int 0]) rfl ?_
          refine wk_br C d_MD_permit_35 (P := 0 = 0) (tgt := 42) (rest := []) rfl (by decide) (fun c14 => ?_) (fun c14 => ?_)
          ·
            refine wk_run C k_MD_permit_42 (pc2 := 45) (lv2 := [(4, .int 0), (0, .ref y), (1, .int p), (2, .int x), (3, .int a)]) (st2 := [.int x, .int p, .ref y]) rfl ?_
            refine wk_callV (cl := ("ProfileRightsModel", T_MD, 27)) (rest := []) C (c_MD_entry l D HB h h0 y A (V) p x (some k) (ok_r c1.1 c1.2 hP (by decide)) hE (hf ▸ fe_s V (nu p) x) hM) cs_MD_110 kc_MD_entry ki_MD hM.ob rfl rfl rfl (Nat.le_of_ble_eq_true rfl) (Nat.le_of_ble_eq_true rfl) (Nat.le_of_ble_eq_true rfl) (Nat.le_of_ble_eq_true rfl) (Nat.le_of_ble_eq_true rfl) d_MD_permit_45 (fun v h2 hq => ?_) (fun _ _ z => nomatch z.1)
            obtain ⟨e1, e2⟩ := hq; cases e1; replace e2 := e2.symm; subst e2
            show Wk _ _ _ _ _ _ _ _ _ _ _ _ _ _ _ _ _ _ _ (.int (nI (10 * nu p + k)) :: _)
            have hk : k < 10 := Nat.lt_of_lt_of_le (show k < nu (V 16 (nu p)) from (hf ▸ fe_s V (nu p) x : fs_ _ x _ (some k)).1) hE.2
            have hp6 : nu p ≤ 60 := (ok_r c1.1 c1.2 hP (by decide)).2
            have hkn : ¬ nI (10 * nu p + k) = -1 := nI_nm (by omega)
            refine wk_run C k_MD_permit_48 (pc2 := 55) (lv2 := [(5, .int (nI (10 * nu p + k))), (4, .int 0), (0, .ref y), (1, .int p), (2, .int x), (3, .int a)]) (st2 := [.int 0, .int 0, .ref y]) rfl ?_
            refine wk_br C d_MD_permit_55 (P := ¬ 0 = 0) (tgt := 84) (rest := [.int 0, .ref y]) rfl (by decide) (fun c15 => ?_) (fun c15 => ?_)
            ·
              exact absurd c15 (by decide)
            ·
              refine wk_run C k_MD_permit_58 (pc2 := 61) (lv2 := [(5, .int (nI (10 * nu p + k))), (4, .int 0), (0, .ref y), (1, .int p), (2, .int x), (3, .int a)]) (st2 := [.int (-1), .int (nI (10 * nu p + k)), .int 0, .ref y]) rfl ?_
              refine wk_br C d_MD_permit_61 (P := ¬ (nI (10 * nu p + k)) = (-1)) (tgt := 84) (rest := [.int 0, .ref y]) rfl (by decide) (fun c16 => ?_) (fun c16 => ?_)
              ·
                refine wk_run C k_MD_permit_84 (pc2 := 85) (lv2 := [(5, .int (nI (10 * nu p + k))), (4, .int 0), (0, .ref y), (1, .int p), (2, .int x), (3, .int a)]) (st2 := [.int 0, .int 0, .ref y]) rfl ?_
                refine wk_callV (cl := ("ProfileRightsModel", T_MD, 27)) (rest := []) C (c_MD_f0 l D HB h h0 y A (V) hM) cs_MD_88 kc_MD_fails ki_MD hM.ob rfl rfl rfl (Nat.le_of_ble_eq_true rfl) (Nat.le_of_ble_eq_true rfl) (Nat.le_of_ble_eq_true rfl) (Nat.le_of_ble_eq_true rfl) (Nat.le_of_ble_eq_true rfl) d_MD_permit_85 (fun v h hq => ?_) (fun _ _ z => nomatch z.1)
                obtain ⟨e1, hM⟩ := hq; cases e1
                refine wk_br C d_MD_permit_88 (P := 0 = 0) (tgt := 93) (rest := []) rfl (by decide) (fun c17 => ?_) (fun c17 => ?_)
                ·
                  refine wk_run C k_MD_permit_93 (pc2 := 96) (lv2 := [(5, .int (nI (10 * nu p + k))), (4, .int 0), (0, .ref y), (1, .int p), (2, .int x), (3, .int a)]) (st2 := [.int (-1), .int (nI (10 * nu p + k))]) rfl ?_
                  refine wk_br C d_MD_permit_96 (P := ¬ (nI (10 * nu p + k)) = (-1)) (tgt := 103) (rest := []) rfl (by decide) (fun c18 => ?_) (fun c18 => ?_)
                  ·
                    refine wk_run C k_MD_permit_103 (pc2 := 104) (lv2 := [(5, .int (nI (10 * nu p + k))), (4, .int 0), (0, .ref y), (1, .int p), (2, .int x), (3, .int a)]) (st2 := [.ref y]) rfl ?_
                    refine wk_get (v := .ref (A 18)) C fd_MD_53 hM.ob rfl d_MD_permit_104 ?_
                    refine wk_run C k_MD_permit_107 (pc2 := 109) (lv2 := [(5, .int (nI (10 * nu p + k))), (4, .int 0), (0, .ref y), (1, .int p), (2, .int x), (3, .int a)]) (st2 := [.int (nI (10 * nu p + k)), .ref (A 18)]) rfl ?_
                    refine wm_ld C hM 18 (j := 10 * nu p + k) rfl (vi_k (ok_nI (m := 10 * nu p + k) (n := 609) (by omega) (by decide)) (by decide) (by decide)) (nu_nI (by omega)) d_MD_permit_109 ?_
                    show Wk _ _ _ _ _ _ _ _ _ _ _ _ _ _ _ _ _ _ _ (.int (V 18 (10 * nu p + k)) :: _)
                    refine wk_run C k_MD_permit_110 (pc2 := 115) (lv2 := [(6, .int (V 18 (10 * nu p + k))), (5, .int (nI (10 * nu p + k))), (4, .int 0), (0, .ref y), (1, .int p), (2, .int x), (3, .int a)]) (st2 := [.int (-1), .int (nI (10 * nu p + k))]) rfl ?_
                    refine wk_br C d_MD_permit_115 (P := ¬ (nI (10 * nu p + k)) = (-1)) (tgt := 182) (rest := []) rfl (by decide) (fun c19 => ?_) (fun c19 => ?_)
                    ·
                      refine wk_run C k_MD_permit_182 (pc2 := 185) (lv2 := [(6, .int (V 18 (10 * nu p + k))), (5, .int (nI (10 * nu p + k))), (4, .int 0), (0, .ref y), (1, .int p), (2, .int x), (3, .int a)]) (st2 := [.int (-1), .int (nI (10 * nu p + k))]) rfl ?_
                      refine wk_br C d_MD_permit_185 (P := (nI (10 * nu p + k)) = (-1)) (tgt := 204) (rest := []) rfl (by decide) (fun c20 => ?_) (fun c20 => ?_)
                      ·
                        exact absurd c20 hkn
                      ·
                        refine wk_run C k_MD_permit_188 (pc2 := 190) (lv2 := [(6, .int (V 18 (10 * nu p + k))), (5, .int (nI (10 * nu p + k))), (4, .int 0), (0, .ref y), (1, .int p), (2, .int x), (3, .int a)]) (st2 := [.int (-1), .int a]) rfl ?_
                        refine wk_br C d_MD_permit_190 (P := a = (-1)) (tgt := 204) (rest := []) rfl (by decide) (fun c21 => ?_) (fun c21 => ?_)
                        ·
                          refine wk_run C k_MD_permit_204 (pc2 := 207) (lv2 := [(6, .int (V 18 (10 * nu p + k))), (5, .int (nI (10 * nu p + k))), (4, .int 0), (0, .ref y), (1, .int p), (2, .int x), (3, .int a)]) (st2 := [.int (-1), .int (nI (10 * nu p + k))]) rfl ?_
                          refine wk_br C d_MD_permit_207 (P := (nI (10 * nu p + k)) = (-1)) (tgt := 310) (rest := []) rfl (by decide) (fun c22 => ?_) (fun c22 => ?_)
                          ·
                            exact absurd c22 hkn
                          ·
                            refine wk_run C k_MD_permit_210 (pc2 := 211) (lv2 := [(6, .int (V 18 (10 * nu p + k))), (5, .int (nI (10 * nu p + k))), (4, .int 0), (0, .ref y), (1, .int p), (2, .int x), (3, .int a)]) (st2 := [.ref y]) rfl ?_
                            refine wk_get (v := .ref (A 16)) C fd_MD_47 hM.ob rfl d_MD_permit_211 ?_
                            refine wk_run C k_MD_permit_214 (pc2 := 216) (lv2 := [(6, .int (V 18 (10 * nu p + k))), (5, .int (nI (10 * nu p + k))), (4, .int 0), (0, .ref y), (1, .int p), (2, .int x), (3, .int a)]) (st2 := [.int p, .ref (A 16), .int p, .ref (A 16)]) rfl ?_
                            refine wm_ld C hM 16 (j := nu p) rfl (vi_ c1.1 c1.2 hP (by decide) (by decide)) rfl d_MD_permit_216 ?_
                            show Wk _ _ _ _ _ _ _ _ _ _ _ _ _ _ _ _ _ _ _ (.int (V 16 (nu p)) :: _)
                            refine wk_run C k_MD_permit_217 (pc2 := 219) (lv2 := [(6, .int (V 18 (10 * nu p + k))), (5, .int (nI (10 * nu p + k))), (4, .int 0), (0, .ref y), (1, .int p), (2, .int x), (3, .int a)]) (st2 := [.int ((V 16 (nu p)) - 1), .int p, .ref (A 16)]) rfl ?_
                            refine wm_st C hM 16 (j := (nu p)) rfl (vi_ c1.1 c1.2 hP (by decide) (by decide)) rfl d_MD_permit_219 (fun h (hM : mq D h0 h y A (vs (vc (V) 0 0) 16 (upd (V 16) (nu p) ((V 16 (nu p)) - 1)))) => ?_)
                            refine wk_run C k_MD_permit_220 (pc2 := 224) (lv2 := [(7, .int (nI (10 * nu p + k))), (6, .int (V 18 (10 * nu p + k))), (5, .int (nI (10 * nu p + k))), (4, .int 0), (0, .ref y), (1, .int p), (2, .int x), (3, .int a)]) (st2 := []) rfl ?_
                            refine Wk.sub (lv2 := [(0, .ref y), (1, .int p), (2, .int x), (3, .int a), (6, .int (V 18 (10 * nu p + k))), (7, .int (nI (10 * nu p + k)))]) [4, 5, 6, 7, 1, 0] rfl ?_
                            have hpos : 0 < nu (V 16 (nu p)) := Nat.lt_of_le_of_lt (Nat.zero_le k) (show k < nu (V 16 (nu p)) from (hf ▸ fe_s V (nu p) x : fs_ _ x _ (some k)).1)
                            have hkl : k < nu (V 16 (nu p)) := (hf ▸ fe_s V (nu p) x : fs_ _ x _ (some k)).1
                            have hd := ok_dec hE hpos (by decide)
                            have hE2 := hE.2
                            have hdE := hd.2
                            refine wk_ind (σ := Nat × hp_T) (hF := fun b => b.2) (lvF := fun b => [(0, .ref y), (1, .int p), (2, .int x), (3, .int a), (6, .int (V 18 (10 * nu p + k))), (7, .int (nI b.1))]) (fun b => 10 * nu p + nu (V 16 (nu p) - 1) - b.1) (fun b => 10 * nu p + k ≤ b.1 ∧ b.1 ≤ 10 * nu p + nu (V 16 (nu p) - 1) ∧ mq D h0 b.2 y A (rm_ (vs (vc V 0 0) 16 (upd (V 16) (nu p) (V 16 (nu p) - 1))) (10 * nu p + k) b.1)) (fun b hb ih => ?_) (10 * nu p + k, h) ⟨Nat.le_refl _, by omega, by rw [rm_0]; exact hM⟩
                            obtain ⟨i, h⟩ := b
                            obtain ⟨hi1, hi2, hM⟩ := hb
                            replace hi1 : 10 * nu p + k ≤ i := hi1
                            replace hi2 : i ≤ 10 * nu p + nu (V 16 (nu p) - 1) := hi2
                            show Wk _ _ _ _ _ _ _ _ _ _ _ _ _ _ _ _ _ _ [(0, .ref y), (1, .int p), (2, .int x), (3, .int a), (6, .int (V 18 (10 * nu p + k))), (7, .int (nI i))] _
                            refine wk_run C k_MD_permit_224 (pc2 := 231) (lv2 := [(0, .ref y), (1, .int p), (2, .int x), (3, .int a), (6, .int (V 18 (10 * nu p + k))), (7, .int (nI i))]) (st2 := [.ref y, .int (10 * p), .int (nI i)]) rfl ?_
                            refine wk_get (v := .ref (A 16)) C fd_MD_47 hM.ob rfl d_MD_permit_231 ?_
                            refine wk_run C k_MD_permit_234 (pc2 := 235) (lv2 := [(0, .ref y), (1, .int p), (2, .int x), (3, .int a), (6, .int (V 18 (10 * nu p + k))), (7, .int (nI i))]) (st2 := [.int p, .ref (A 16), .int (10 * p), .int (nI i)]) rfl ?_
                            refine wm_ld C hM 16 (j := nu p) rfl (vi_k (ok_r c1.1 c1.2 hP (by decide)) (by decide) (by decide)) rfl d_MD_permit_235 ?_
                            show Wk _ _ _ _ _ _ _ _ _ _ _ _ _ _ _ _ _ _ _ (.int ((upd (V 16) (nu p) (V 16 (nu p) - 1)) (nu p)) :: _)
                            refine wk_run C k_MD_permit_236 (pc2 := 237) (lv2 := [(0, .ref y), (1, .int p), (2, .int x), (3, .int a), (6, .int (V 18 (10 * nu p + k))), (7, .int (nI i))]) (st2 := [.int ((10 * p) + ((upd (V 16) (nu p) (V 16 (nu p) - 1)) (nu p))), .int (nI i)]) rfl ?_
                            refine wk_br C d_MD_permit_237 (P := ((10 * p) + ((upd (V 16) (nu p) (V 16 (nu p) - 1)) (nu p))) ≤ (nI i)) (tgt := 310) (rest := []) rfl (by decide) (fun c51 => ?_) (fun c51 => ?_)
                            ·
                              have hie : i = 10 * nu p + nu (V 16 (nu p) - 1) := by have := c51; rw [upd_s, show (10 : Int32) * p + (V 16 (nu p) - 1) = nI (10 * nu p + nu (V 16 (nu p) - 1)) from nxe_ (k := 10) (ok_r c1.1 c1.2 hP (by decide)) hd.1, nI_leI (by omega) (by omega)] at this; omega
                              rw [hie] at hM
                              refine wk_run C k_MD_permit_310 (pc2 := 312) (lv2 := [(0, .ref y), (1, .int p), (2, .int x), (3, .int a), (6, .int (V 18 (10 * nu p + k))), (7, .int (nI i))]) (st2 := [.int (V 18 (10 * nu p + k))]) rfl ?_
                              exact wk_iret C ⟨0, (V 18 (10 * nu p + k)), rm_ (vs (vc V 0 0) 16 (upd (V 16) (nu p) (V 16 (nu p) - 1))) (10 * nu p + k) (10 * nu p + nu (V 16 (nu p) - 1)), by clear C hM hnm; grind [sp_permit], rfl, hM⟩ (by decide) (by decide) d_MD_permit_312
                            ·
                              have hlt : i < 10 * nu p + nu (V 16 (nu p) - 1) := by rcases Nat.lt_or_ge i (10 * nu p + nu (V 16 (nu p) - 1)) with z | z; exact z; exact absurd (by rw [upd_s, show (10 : Int32) * p + (V 16 (nu p) - 1) = nI (10 * nu p + nu (V 16 (nu p) - 1)) from nxe_ (k := 10) (ok_r c1.1 c1.2 hP (by decide)) hd.1]; exact nI_le z (by omega)) c51
                              refine wk_run C k_MD_permit_240 (pc2 := 241) (lv2 := [(0, .ref y), (1, .int p), (2, .int x), (3, .int a), (6, .int (V 18 (10 * nu p + k))), (7, .int (nI i))]) (st2 := [.ref y]) rfl ?_
                              refine wk_get (v := .ref (A 17)) C fd_MD_50 hM.ob rfl d_MD_permit_241 ?_
                              refine wk_run C k_MD_permit_244 (pc2 := 247) (lv2 := [(0, .ref y), (1, .int p), (2, .int x), (3, .int a), (6, .int (V 18 (10 * nu p + k))), (7, .int (nI i))]) (st2 := [.ref y, .int (nI i), .ref (A 17)]) rfl ?_
                              refine wk_get (v := .ref (A 17)) C fd_MD_50 hM.ob rfl d_MD_permit_247 ?_
                              refine wk_run C k_MD_permit_250 (pc2 := 254) (lv2 := [(0, .ref y), (1, .int p), (2, .int x), (3, .int a), (6, .int (V 18 (10 * nu p + k))), (7, .int (nI i))]) (st2 := [.int ((nI i) + 1), .ref (A 17), .int (nI i), .ref (A 17)]) rfl ?_
                              refine wm_ld C hM 17 (j := i + 1) rfl (vi_k (ok_of (nI_1 i) (n := 609) (by omega) (by decide)) (by decide) (by decide)) ((congrArg nu (nI_1 i)).trans (nu_nI (by omega))) d_MD_permit_254 ?_
                              show Wk _ _ _ _ _ _ _ _ _ _ _ _ _ _ _ _ _ _ _ (.int ((sh_ (V 17) (10 * nu p + k) i) (i + 1)) :: _)
                              refine wm_st C hM 17 (j := i) rfl (vi_k (ok_nI (m := i) (n := 609) (by omega) (by decide)) (by decide) (by decide)) (nu_nI (by omega)) d_MD_permit_255 (fun h (hM : mq D h0 h y A (vs (rm_ (vs (vc V 0 0) 16 (upd (V 16) (nu p) (V 16 (nu p) - 1))) (10 * nu p + k) i) 17 (upd (sh_ (V 17) (10 * nu p + k) i) i ((sh_ (V 17) (10 * nu p + k) i) (i + 1))))) => ?_)
                              refine wk_run C k_MD_permit_256 (pc2 := 257) (lv2 := [(0, .ref y), (1, .int p), (2, .int x), (3, .int a), (6, .int (V 18 (10 * nu p + k))), (7, .int (nI i))]) (st2 := [.ref y]) rfl ?_
                              refine wk_get (v := .ref (A 18)) C fd_MD_53 hM.ob rfl d_MD_permit_257 ?_
                              refine wk_run C k_MD_permit_260 (pc2 := 263) (lv2 := [(0, .ref y), (1, .int p), (2, .int x), (3, .int a), (6, .int (V 18 (10 * nu p + k))), (7, .int (nI i))]) (st2 := [.ref y, .int (nI i), .ref (A 18)]) rfl ?_
                              refine wk_get (v := .ref (A 18)) C fd_MD_53 hM.ob rfl d_MD_permit_263 ?_
                              refine wk_run C k_MD_permit_266 (pc2 := 270) (lv2 := [(0, .ref y), (1, .int p), (2, .int x), (3, .int a), (6, .int (V 18 (10 * nu p + k))), (7, .int (nI i))]) (st2 := [.int ((nI i) + 1), .ref (A 18), .int (nI i), .ref (A 18)]) rfl ?_
                              refine wm_ld C hM 18 (j := i + 1) rfl (vi_k (ok_of (nI_1 i) (n := 609) (by omega) (by decide)) (by decide) (by decide)) ((congrArg nu (nI_1 i)).trans (nu_nI (by omega))) d_MD_permit_270 ?_
                              show Wk _ _ _ _ _ _ _ _ _ _ _ _ _ _ _ _ _ _ _ (.int ((sh_ (V 18) (10 * nu p + k) i) (i + 1)) :: _)
                              refine wm_st C hM 18 (j := i) rfl (vi_k (ok_nI (m := i) (n := 609) (by omega) (by decide)) (by decide) (by decide)) (nu_nI (by omega)) d_MD_permit_271 (fun h (hM : mq D h0 h y A (vs (vs (rm_ (vs (vc V 0 0) 16 (upd (V 16) (nu p) (V 16 (nu p) - 1))) (10 * nu p + k) i) 17 (upd (sh_ (V 17) (10 * nu p + k) i) i ((sh_ (V 17) (10 * nu p + k) i) (i + 1)))) 18 (upd (sh_ (V 18) (10 * nu p + k) i) i ((sh_ (V 18) (10 * nu p + k) i) (i + 1))))) => ?_)
                              refine wk_run C k_MD_permit_272 (pc2 := 273) (lv2 := [(0, .ref y), (1, .int p), (2, .int x), (3, .int a), (6, .int (V 18 (10 * nu p + k))), (7, .int (nI i))]) (st2 := [.ref y]) rfl ?_
                              refine wk_get (v := .ref (A 19)) C fd_MD_56 hM.ob rfl d_MD_permit_273 ?_
                              refine wk_run C k_MD_permit_276 (pc2 := 279) (lv2 := [(0, .ref y), (1, .int p), (2, .int x), (3, .int a), (6, .int (V 18 (10 * nu p + k))), (7, .int (nI i))]) (st2 := [.ref y, .int (nI i), .ref (A 19)]) rfl ?_
                              refine wk_get (v := .ref (A 19)) C fd_MD_56 hM.ob rfl d_MD_permit_279 ?_
                              refine wk_run C k_MD_permit_282 (pc2 := 286) (lv2 := [(0, .ref y), (1, .int p), (2, .int x), (3, .int a), (6, .int (V 18 (10 * nu p + k))), (7, .int (nI i))]) (st2 := [.int ((nI i) + 1), .ref (A 19), .int (nI i), .ref (A 19)]) rfl ?_
                              refine wm_ld C hM 19 (j := i + 1) rfl (vi_k (ok_of (nI_1 i) (n := 609) (by omega) (by decide)) (by decide) (by decide)) ((congrArg nu (nI_1 i)).trans (nu_nI (by omega))) d_MD_permit_286 ?_
                              show Wk _ _ _ _ _ _ _ _ _ _ _ _ _ _ _ _ _ _ _ (.int ((sh_ (V 19) (10 * nu p + k) i) (i + 1)) :: _)
                              refine wm_st C hM 19 (j := i) rfl (vi_k (ok_nI (m := i) (n := 609) (by omega) (by decide)) (by decide) (by decide)) (nu_nI (by omega)) d_MD_permit_287 (fun h (hM : mq D h0 h y A (vs (vs (vs (rm_ (vs (vc V 0 0) 16 (upd (V 16) (nu p) (V 16 (nu p) - 1))) (10 * nu p + k) i) 17 (upd (sh_ (V 17) (10 * nu p + k) i) i ((sh_ (V 17) (10 * nu p + k) i) (i + 1)))) 18 (upd (sh_ (V 18) (10 * nu p + k) i) i ((sh_ (V 18) (10 * nu p + k) i) (i + 1)))) 19 (upd (sh_ (V 19) (10 * nu p + k) i) i ((sh_ (V 19) (10 * nu p + k) i) (i + 1))))) => ?_)
                              refine wk_run C k_MD_permit_288 (pc2 := 289) (lv2 := [(0, .ref y), (1, .int p), (2, .int x), (3, .int a), (6, .int (V 18 (10 * nu p + k))), (7, .int (nI i))]) (st2 := [.ref y]) rfl ?_
                              refine wk_get (v := .ref (A 20)) C fd_MD_59 hM.ob rfl d_MD_permit_289 ?_
                              refine wk_run C k_MD_permit_292 (pc2 := 295) (lv2 := [(0, .ref y), (1, .int p), (2, .int x), (3, .int a), (6, .int (V 18 (10 * nu p + k))), (7, .int (nI i))]) (st2 := [.ref y, .int (nI i), .ref (A 20)]) rfl ?_
                              refine wk_get (v := .ref (A 20)) C fd_MD_59 hM.ob rfl d_MD_permit_295 ?_
                              refine wk_run C k_MD_permit_298 (pc2 := 302) (lv2 := [(0, .ref y), (1, .int p), (2, .int x), (3, .int a), (6, .int (V 18 (10 * nu p + k))), (7, .int (nI i))]) (st2 := [.int ((nI i) + 1), .ref (A 20), .int (nI i), .ref (A 20)]) rfl ?_
                              refine wm_ld C hM 20 (j := i + 1) rfl (vi_k (ok_of (nI_1 i) (n := 609) (by omega) (by decide)) (by decide) (by decide)) ((congrArg nu (nI_1 i)).trans (nu_nI (by omega))) d_MD_permit_302 ?_
                              show Wk _ _ _ _ _ _ _ _ _ _ _ _ _ _ _ _ _ _ _ (.int ((sh_ (V 20) (10 * nu p + k) i) (i + 1)) :: _)
                              refine wm_st C hM 20 (j := i) rfl (vi_k (ok_nI (m := i) (n := 609) (by omega) (by decide)) (by decide) (by decide)) (nu_nI (by omega)) d_MD_permit_303 (fun h (hM : mq D h0 h y A (vs (vs (vs (vs (rm_ (vs (vc V 0 0) 16 (upd (V 16) (nu p) (V 16 (nu p) - 1))) (10 * nu p + k) i) 17 (upd (sh_ (V 17) (10 * nu p + k) i) i ((sh_ (V 17) (10 * nu p + k) i) (i + 1)))) 18 (upd (sh_ (V 18) (10 * nu p + k) i) i ((sh_ (V 18) (10 * nu p + k) i) (i + 1)))) 19 (upd (sh_ (V 19) (10 * nu p + k) i) i ((sh_ (V 19) (10 * nu p + k) i) (i + 1)))) 20 (upd (sh_ (V 20) (10 * nu p + k) i) i ((sh_ (V 20) (10 * nu p + k) i) (i + 1))))) => ?_)
                              refine wk_run C k_MD_permit_304 (pc2 := 307) (lv2 := [(7, .int ((nI i) + 1)), (0, .ref y), (1, .int p), (2, .int x), (3, .int a), (6, .int (V 18 (10 * nu p + k)))]) (st2 := []) rfl ?_
                              refine wk_goto C d_MD_permit_307 (tgt := 224) (by decide) ?_
                              refine Wk.sub (lv2 := [(0, .ref y), (1, .int p), (2, .int x), (3, .int a), (6, .int (V 18 (10 * nu p + k))), (7, .int ((nI i) + 1))]) [1, 2, 3, 4, 5, 0] rfl ?_
                              rw [nI_1]
                              exact ih (i + 1, h) ⟨by omega, by omega, by rw [rm_1 _ hi1]; exact hM⟩ (by show _ - (i + 1) < _ - i; omega)
                        ·
                          refine wk_run C k_MD_permit_193 (pc2 := 194) (lv2 := [(6, .int (V 18 (10 * nu p + k))), (5, .int (nI (10 * nu p + k))), (4, .int 0), (0, .ref y), (1, .int p), (2, .int x), (3, .int a)]) (st2 := [.ref y]) rfl ?_
                          refine wk_get (v := .ref (A 18)) C fd_MD_53 hM.ob rfl d_MD_permit_194 ?_
                          refine wk_run C k_MD_permit_197 (pc2 := 200) (lv2 := [(6, .int (V 18 (10 * nu p + k))), (5, .int (nI (10 * nu p + k))), (4, .int 0), (0, .ref y), (1, .int p), (2, .int x), (3, .int a)]) (st2 := [.int a, .int (nI (10 * nu p + k)), .ref (A 18)]) rfl ?_
                          refine wm_st C hM 18 (j := (10 * nu p + k)) rfl (vi_k (ok_nI (m := 10 * nu p + k) (n := 609) (by omega) (by decide)) (by decide) (by decide)) (nu_nI (by omega)) d_MD_permit_200 (fun h (hM : mq D h0 h y A (vs (vc (V) 0 0) 18 (upd (V 18) (10 * nu p + k) a))) => ?_)
                          refine wk_goto C d_MD_permit_201 (tgt := 310) (by decide) ?_
                          refine wk_run C k_MD_permit_310 (pc2 := 312) (lv2 := [(6, .int (V 18 (10 * nu p + k))), (5, .int (nI (10 * nu p + k))), (4, .int 0), (0, .ref y), (1, .int p), (2, .int x), (3, .int a)]) (st2 := [.int (V 18 (10 * nu p + k))]) rfl ?_
                          exact wk_iret C ⟨0, (V 18 (10 * nu p + k)), vs (vc (V) 0 0) 18 (upd (V 18) (10 * nu p + k) a), by clear C hM hnm; grind [sp_permit], rfl, hM⟩ (by decide) (by decide) d_MD_permit_312
                    ·
                      exact absurd hkn c19
                  ·
                    exact absurd hkn c18
                ·
                  exact absurd (by decide) c17
              ·
                exact absurd hkn c16
          ·
            exact absurd (by decide) c14
        ·
          refine wk_run C k_MD_permit_26 (pc2 := 27) (lv2 := [(0, .ref y), (1, .int p), (2, .int x), (3, .int a)]) (st2 := [.int 1]) rfl ?_
          refine wk_goto C d_MD_permit_27 (tgt := 31) (by decide) ?_
          refine wk_run C k_MD_permit_31 (pc2 := 35) (lv2 := [(4, .int 1), (0, .ref y), (1, .int p), (2, .int x), (3, .int a)]) (st2 := [.int 1]) rfl ?_
          refine wk_br C d_MD_permit_35 (P := 1 = 0) (tgt := 42) (rest := []) rfl (by decide) (fun c23 => ?_) (fun c23 => ?_)
          ·
            exact absurd c23 (by decide)
          ·
            refine wk_run C k_MD_permit_38 (pc2 := 39) (lv2 := [(4, .int 1), (0, .ref y), (1, .int p), (2, .int x), (3, .int a)]) (st2 := [.int (-1)]) rfl ?_
            refine wk_goto C d_MD_permit_39 (tgt := 48) (by decide) ?_
            refine wk_run C k_MD_permit_48 (pc2 := 55) (lv2 := [(5, .int (-1)), (4, .int 1), (0, .ref y), (1, .int p), (2, .int x), (3, .int a)]) (st2 := [.int 1, .int 1, .ref y]) rfl ?_
            refine wk_br C d_MD_permit_55 (P := ¬ 1 = 0) (tgt := 84) (rest := [.int 1, .ref y]) rfl (by decide) (fun c24 => ?_) (fun c24 => ?_)
            ·
              refine wk_run C k_MD_permit_84 (pc2 := 85) (lv2 := [(5, .int (-1)), (4, .int 1), (0, .ref y), (1, .int p), (2, .int x), (3, .int a)]) (st2 := [.int 0, .int 1, .ref y]) rfl ?_
              refine wk_callV (cl := ("ProfileRightsModel", T_MD, 27)) (rest := []) C (c_MD_f1 l D HB h h0 y A (V) hM) cs_MD_88 kc_MD_fails ki_MD hM.ob rfl rfl rfl (Nat.le_of_ble_eq_true rfl) (Nat.le_of_ble_eq_true rfl) (Nat.le_of_ble_eq_true rfl) (Nat.le_of_ble_eq_true rfl) (Nat.le_of_ble_eq_true rfl) d_MD_permit_85 (fun v h hq => ?_) (fun _ _ z => nomatch z.1)
              obtain ⟨e1, hM⟩ := hq; cases e1
              refine wk_br C d_MD_permit_88 (P := 1 = 0) (tgt := 93) (rest := []) rfl (by decide) (fun c25 => ?_) (fun c25 => ?_)
              ·
                exact absurd c25 (by decide)
              ·
                refine wk_run C k_MD_permit_91 (pc2 := 92) (lv2 := [(5, .int (-1)), (4, .int 1), (0, .ref y), (1, .int p), (2, .int x), (3, .int a)]) (st2 := [.int 0]) rfl ?_
                exact wk_iret C ⟨1, 0, vc (V) 0 1, by clear C hM hnm; grind [sp_permit], rfl, hM⟩ (by decide) (by decide) d_MD_permit_92
            ·
              exact absurd (by decide) c24
