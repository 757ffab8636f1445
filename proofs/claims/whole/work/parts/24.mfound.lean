abbrev ca_ (V : vT) (c a : Int32) (p : Nat) : Prop := V 11 p = c ∧ (a = 0 ∨ (0 < V 15 p &&& 4 ∧ a ≤ V 14 p))
def fp_ (V : vT) (p : Nat) : Prop := ft_ (nf_ V p) (V 21) (nu (V 13 p)) (nu (V 22 0))
noncomputable def fo_ (V : vT) (c a : Int32) : Nat → Nat
  | 0 => 0
  | n + 1 => @ite _ (ca_ V c a (n + 1) ∧ fp_ V (n + 1) ∧ (fo_ V c a n = 0 ∨ mo_ V (n + 1) (fo_ V c a n))) (Classical.propDecidable _) (n + 1) (fo_ V c a n)
theorem fo_p {V : vT} {c a : Int32} {n : Nat} (h : ca_ V c a (n + 1) ∧ fp_ V (n + 1) ∧ (fo_ V c a n = 0 ∨ mo_ V (n + 1) (fo_ V c a n))) : fo_ V c a (n + 1) = n + 1 := if_pos h
theorem fo_n {V : vT} {c a : Int32} {n : Nat} (h : ¬ (ca_ V c a (n + 1) ∧ fp_ V (n + 1) ∧ (fo_ V c a n = 0 ∨ mo_ V (n + 1) (fo_ V c a n)))) : fo_ V c a (n + 1) = fo_ V c a n := if_neg h
theorem fo_le (V : vT) (c a : Int32) (n : Nat) : fo_ V c a n ≤ n := by
  induction n with
  | zero => exact Nat.le_refl 0
  | succ n ih =>
    by_cases h : ca_ V c a (n + 1) ∧ fp_ V (n + 1) ∧ (fo_ V c a n = 0 ∨ mo_ V (n + 1) (fo_ V c a n))
    · rw [fo_p h]; exact Nat.le_refl _
    · rw [fo_n h]; omega
theorem c_MD_fitsN (l : Launch) (D : va_G) (HB : Heap) (h h0 : hp_T) (y : Nat) (A : Nat → Nat) (V : vT) (F : Nat → Int32) (p : Nat) (hp : p ≤ 60) (hL : ok_ (V 13 p) 20) (hA : ok_ (V 22 0) 20) (hM : mq D h0 h y A (vs V 26 F)) : ct_M l y_MD_fits (.code y_MD_fits prog_9_method_28_code 7 (some .boolean)) { frames := 1, cells := 0, slots := 0, locals := 30 } D HB [.ref y, .int (nI p)] h (fun o h2 => o = .inl (some (.int (z_ (fp_ V p)))) ∧ ∃ F, mq D h0 h2 y A (vs V 26 F)) := by
  have e : nu (nI p) = p := nu_nI (by omega)
  have k := c_MD_fits l D HB h h0 y A (vs V 26 F) (nI p) (ok_nI hp (by decide)) (by rw [e]; exact hL) hA hM
  rw [e] at k
  have e2 : ∀ F2, vs (vs V 26 F) 26 F2 = vs V 26 F2 := fun F2 => vs_vs
  simp only [e2] at k
  exact k
theorem c_MD_isMoreN (l : Launch) (D : va_G) (HB : Heap) (h h0 : hp_T) (y : Nat) (A : Nat → Nat) (V : vT) (F : Nat → Int32) (p q : Nat) (hp : p ≤ 60) (hq : q ≤ 60) (hL : ok_ (V 13 p) 20) (hL2 : ok_ (V 13 q) 20) (hM : mq D h0 h y A (vs V 26 F)) : ct_M l y_MD_isMore (.code y_MD_isMore prog_9_method_31_code 5 (some .boolean)) { frames := 2, cells := 0, slots := 0, locals := 60 } D HB [.ref y, .int (nI p), .int (nI q)] h (fun o h2 => o = .inl (some (.int (z_ (mo_ V p q)))) ∧ h2 = h) := by
  have e : nu (nI p) = p := nu_nI (by omega)
  have e2 : nu (nI q) = q := nu_nI (by omega)
  have k := c_MD_isMore l D HB h h0 y A (vs V 26 F) (nI p) (nI q) (ok_nI hp (by decide)) (ok_nI hq (by decide)) (by rw [e]; exact hL) (by rw [e2]; exact hL2) hM
  rw [e, e2] at k
  exact k

theorem k_MD_found_0 : px_dec prog_9_method_32_code [.iconst 0, .istore_n 3, .iconst 1, .istore 4] 0 = true := by decide +kernel
theorem k_MD_found_5 : px_dec prog_9_method_32_code [.iload 4, .aload_n 0] 5 = true := by decide +kernel
theorem d_MD_found_8 : decode prog_9_method_32_code 8 = .ok (.getfield 81, 3) := by decide +kernel
theorem d_MD_found_11 : decode prog_9_method_32_code 11 = .ok (.if_icmp .gt 85, 3) := by decide +kernel
theorem k_MD_found_96 : px_dec prog_9_method_32_code [.iload_n 3] 96 = true := by decide +kernel
theorem d_MD_found_97 : decode prog_9_method_32_code 97 = .ok (.ireturn, 1) := by decide +kernel
theorem k_MD_found_14 : px_dec prog_9_method_32_code [.aload_n 0] 14 = true := by decide +kernel
theorem d_MD_found_15 : decode prog_9_method_32_code 15 = .ok (.getfield 32, 3) := by decide +kernel
theorem k_MD_found_18 : px_dec prog_9_method_32_code [.iload 4] 18 = true := by decide +kernel
theorem d_MD_found_20 : decode prog_9_method_32_code 20 = .ok (.iaload, 1) := by decide +kernel
theorem k_MD_found_21 : px_dec prog_9_method_32_code [.iload_n 1] 21 = true := by decide +kernel
theorem d_MD_found_22 : decode prog_9_method_32_code 22 = .ok (.if_icmp .ne 34, 3) := by decide +kernel
theorem k_MD_found_56 : px_dec prog_9_method_32_code [.iconst 0, .istore 5, .iload 5] 56 = true := by decide +kernel
theorem d_MD_found_61 : decode prog_9_method_32_code 61 = .ok (.ifCond .eq 29, 3) := by decide +kernel
theorem k_MD_found_90 : px_dec prog_9_method_32_code [.iinc 4 1] 90 = true := by decide +kernel
theorem d_MD_found_93 : decode prog_9_method_32_code 93 = .ok (.goto (-88), 3) := by decide +kernel
theorem k_MD_found_25 : px_dec prog_9_method_32_code [.iload_n 2] 25 = true := by decide +kernel
theorem d_MD_found_26 : decode prog_9_method_32_code 26 = .ok (.ifCond .eq 26, 3) := by decide +kernel
theorem k_MD_found_52 : px_dec prog_9_method_32_code [.iconst 1] 52 = true := by decide +kernel
theorem d_MD_found_53 : decode prog_9_method_32_code 53 = .ok (.goto 4, 3) := by decide +kernel
theorem k_MD_found_57 : px_dec prog_9_method_32_code [.istore 5, .iload 5] 57 = true := by decide +kernel
theorem k_MD_found_64 : px_dec prog_9_method_32_code [.aload_n 0, .iload 4] 64 = true := by decide +kernel
theorem d_MD_found_67 : decode prog_9_method_32_code 67 = .ok (.invokevirtual 125, 3) := by decide +kernel
theorem d_MD_found_70 : decode prog_9_method_32_code 70 = .ok (.ifCond .eq 20, 3) := by decide +kernel
theorem k_MD_found_73 : px_dec prog_9_method_32_code [.iload_n 3] 73 = true := by decide +kernel
theorem d_MD_found_74 : decode prog_9_method_32_code 74 = .ok (.ifCond .eq 13, 3) := by decide +kernel
theorem k_MD_found_87 : px_dec prog_9_method_32_code [.iload 4, .istore_n 3, .iinc 4 1] 87 = true := by decide +kernel
theorem k_MD_found_77 : px_dec prog_9_method_32_code [.aload_n 0, .iload 4, .iload_n 3] 77 = true := by decide +kernel
theorem d_MD_found_81 : decode prog_9_method_32_code 81 = .ok (.invokevirtual 128, 3) := by decide +kernel
theorem d_MD_found_84 : decode prog_9_method_32_code 84 = .ok (.ifCond .eq 6, 3) := by decide +kernel
theorem k_MD_found_29 : px_dec prog_9_method_32_code [.aload_n 0] 29 = true := by decide +kernel
theorem d_MD_found_30 : decode prog_9_method_32_code 30 = .ok (.getfield 44, 3) := by decide +kernel
theorem k_MD_found_33 : px_dec prog_9_method_32_code [.iload 4] 33 = true := by decide +kernel
theorem d_MD_found_35 : decode prog_9_method_32_code 35 = .ok (.iaload, 1) := by decide +kernel
theorem k_MD_found_36 : px_dec prog_9_method_32_code [.iconst 4, .iand] 36 = true := by decide +kernel
theorem d_MD_found_38 : decode prog_9_method_32_code 38 = .ok (.ifCond .le 18, 3) := by decide +kernel
theorem k_MD_found_41 : px_dec prog_9_method_32_code [.aload_n 0] 41 = true := by decide +kernel
theorem d_MD_found_42 : decode prog_9_method_32_code 42 = .ok (.getfield 41, 3) := by decide +kernel
theorem k_MD_found_45 : px_dec prog_9_method_32_code [.iload 4] 45 = true := by decide +kernel
theorem d_MD_found_47 : decode prog_9_method_32_code 47 = .ok (.iaload, 1) := by decide +kernel
theorem k_MD_found_48 : px_dec prog_9_method_32_code [.iload_n 2] 48 = true := by decide +kernel
theorem d_MD_found_49 : decode prog_9_method_32_code 49 = .ok (.if_icmp .lt 7, 3) := by decide +kernel
set_option maxRecDepth 100000 in
set_option maxHeartbeats 4000000 in
theorem c_MD_found (l : Launch) (D : va_G) (HB : Heap) (h : hp_T) (h0 : hp_T) (y : Nat) (A : Nat → Nat) (V : vT) (F : Nat → Int32) (c a : Int32) (hP : ok_ (V 9 0) 60) (hL : ∀ q, q ≤ 60 → ok_ (V 13 q) 20) (hA : ok_ (V 22 0) 20) (hM : mq D h0 h y A (vs V 26 F)) : ct_M l y_MD_found (.code y_MD_found prog_9_method_32_code 6 (Option.some Jvm.ClassFile.FieldType.int)) ({ frames := 3, cells := 0, slots := 0, locals := 100 }) D HB [.ref y, .int c, .int a] h (fun o h2 => o = .inl (some (.int (nI (fo_ V c a (nu (V 9 0)))))) ∧ ∃ F, mq D h0 h2 y A (vs V 26 F)) := by
  refine ct_of (by decide) (Nat.le_of_ble_eq_true rfl) rfl ?_
  intro p_ e_ s_ m_ r_ b_ t_ c_ C hnm
  refine wk_run C k_MD_found_0 (pc2 := 5) (lv2 := [(4, .int 1), (3, .int 0), (0, .ref y), (1, .int c), (2, .int a)]) (st2 := []) rfl ?_
  refine Wk.sub (lv2 := [(0, .ref y), (1, .int c), (2, .int a), (3, .int 0), (4, .int 1)]) [2, 3, 4, 1, 0] rfl ?_
  have hP2 := hP.2
  refine wk_ind (σ := Nat × hp_T) (hF := fun b => b.2) (lvF := fun b => [(0, .ref y), (1, .int c), (2, .int a), (3, .int (nI (fo_ V c a b.1))), (4, .int (nI (b.1 + 1)))]) (fun b => nu (V 9 0) - b.1) (fun b => b.1 ≤ nu (V 9 0) ∧ ∃ F, mq D h0 b.2 y A (vs V 26 F)) (fun b hb ih => ?_) (0, h) ⟨Nat.zero_le _, F, hM⟩
  clear hM
  obtain ⟨i, h⟩ := b
  obtain ⟨hi, F, hM⟩ := hb
  replace hi : i ≤ nu (V 9 0) := hi
  have hfo := fo_le V c a i
  have hz : nI (fo_ V c a i) = 0 ↔ fo_ V c a i = 0 := nI_eq (b := 0) (by omega) (by decide)
  show Wk _ _ _ _ _ _ _ _ _ _ _ _ _ _ _ _ _ _ [(0, .ref y), (1, .int c), (2, .int a), (3, .int (nI (fo_ V c a i))), (4, .int (nI (i + 1)))] _
  refine wk_run C k_MD_found_5 (pc2 := 8) (lv2 := [(0, .ref y), (1, .int c), (2, .int a), (3, .int (nI (fo_ V c a i))), (4, .int (nI (i + 1)))]) (st2 := [.ref y, .int (nI (i + 1))]) rfl ?_
  refine wk_get (v := .int (V 9 0)) C fd_MD_81 hM.ob rfl d_MD_found_8 ?_
  refine wk_br C d_MD_found_11 (P := (V 9 0) < (nI (i + 1))) (tgt := 96) (rest := []) rfl (by decide) (fun c1 => ?_) (fun c1 => ?_)
  ·
    have hie : i = nu (V 9 0) := by have := c1; rw [hP.1, nI_ltI (by omega) (by omega)] at this; omega
    refine wk_run C k_MD_found_96 (pc2 := 97) (lv2 := [(0, .ref y), (1, .int c), (2, .int a), (3, .int (nI (fo_ V c a i))), (4, .int (nI (i + 1)))]) (st2 := [.int (nI (fo_ V c a i))]) rfl ?_
    exact wk_iret C ⟨by rw [← hie], F, hM⟩ (by decide) (by decide) d_MD_found_97
  ·
    have hlt : i < nu (V 9 0) := by rcases Nat.lt_or_ge i (nu (V 9 0)) with z | z; exact z; exact absurd (by rw [hP.1]; exact nI_lt (by omega) (by omega)) c1
    refine wk_run C k_MD_found_14 (pc2 := 15) (lv2 := [(0, .ref y), (1, .int c), (2, .int a), (3, .int (nI (fo_ V c a i))), (4, .int (nI (i + 1)))]) (st2 := [.ref y]) rfl ?_
    refine wk_get (v := .ref (A 11)) C fd_MD_32 hM.ob rfl d_MD_found_15 ?_
    refine wk_run C k_MD_found_18 (pc2 := 20) (lv2 := [(0, .ref y), (1, .int c), (2, .int a), (3, .int (nI (fo_ V c a i))), (4, .int (nI (i + 1)))]) (st2 := [.int (nI (i + 1)), .ref (A 11)]) rfl ?_
    refine wm_ld C hM 11 (j := i + 1) rfl (nI_in (c := i + 1) (by omega) (by decide)) (nu_nI (by omega)) d_MD_found_20 ?_
    show Wk _ _ _ _ _ _ _ _ _ _ _ _ _ _ _ _ _ _ _ (.int (V 11 (i + 1)) :: _)
    refine wk_run C k_MD_found_21 (pc2 := 22) (lv2 := [(0, .ref y), (1, .int c), (2, .int a), (3, .int (nI (fo_ V c a i))), (4, .int (nI (i + 1)))]) (st2 := [.int c, .int (V 11 (i + 1))]) rfl ?_
    refine wk_br C d_MD_found_22 (P := ¬ (V 11 (i + 1)) = c) (tgt := 56) (rest := []) rfl (by decide) (fun c2 => ?_) (fun c2 => ?_)
    ·
      refine wk_run C k_MD_found_56 (pc2 := 61) (lv2 := [(5, .int 0), (0, .ref y), (1, .int c), (2, .int a), (3, .int (nI (fo_ V c a i))), (4, .int (nI (i + 1)))]) (st2 := [.int 0]) rfl ?_
      refine wk_br C d_MD_found_61 (P := 0 = 0) (tgt := 90) (rest := []) rfl (by decide) (fun c3 => ?_) (fun c3 => ?_)
      ·
        refine wk_run C k_MD_found_90 (pc2 := 93) (lv2 := [(4, .int ((nI (i + 1)) + 1)), (5, .int 0), (0, .ref y), (1, .int c), (2, .int a), (3, .int (nI (fo_ V c a i)))]) (st2 := []) rfl ?_
        refine wk_goto C d_MD_found_93 (tgt := 5) (by decide) ?_
        refine Wk.sub (lv2 := [(0, .ref y), (1, .int c), (2, .int a), (3, .int (nI (fo_ V c a i))), (4, .int ((nI (i + 1)) + 1))]) [2, 3, 4, 5, 0] rfl ?_
        have e1 : fo_ V c a (i + 1) = fo_ V c a i := fo_n (by clear C hM ih; grind [z_0, z_1])
        rw [nI_1, ← e1]
        refine Wk.lve (lv2 := [(0, .ref y), (1, .int c), (2, .int a), (3, .int (nI (fo_ V c a (i + 1)))), (4, .int (nI (i + 1 + 1)))]) (by rw [e1]) (ih (i + 1, h) ⟨hlt, F, hM⟩ (by show _ - (i + 1) < _ - i; omega))
      ·
        exact absurd (by decide) c3
    ·
      refine wk_run C k_MD_found_25 (pc2 := 26) (lv2 := [(0, .ref y), (1, .int c), (2, .int a), (3, .int (nI (fo_ V c a i))), (4, .int (nI (i + 1)))]) (st2 := [.int a]) rfl ?_
      refine wk_br C d_MD_found_26 (P := a = 0) (tgt := 52) (rest := []) rfl (by decide) (fun c4 => ?_) (fun c4 => ?_)
      ·
        refine wk_run C k_MD_found_52 (pc2 := 53) (lv2 := [(0, .ref y), (1, .int c), (2, .int a), (3, .int (nI (fo_ V c a i))), (4, .int (nI (i + 1)))]) (st2 := [.int 1]) rfl ?_
        refine wk_goto C d_MD_found_53 (tgt := 57) (by decide) ?_
        refine wk_run C k_MD_found_57 (pc2 := 61) (lv2 := [(5, .int 1), (0, .ref y), (1, .int c), (2, .int a), (3, .int (nI (fo_ V c a i))), (4, .int (nI (i + 1)))]) (st2 := [.int 1]) rfl ?_
        refine wk_br C d_MD_found_61 (P := 1 = 0) (tgt := 90) (rest := []) rfl (by decide) (fun c5 => ?_) (fun c5 => ?_)
        ·
          exact absurd c5 (by decide)
        ·
          refine wk_run C k_MD_found_64 (pc2 := 67) (lv2 := [(5, .int 1), (0, .ref y), (1, .int c), (2, .int a), (3, .int (nI (fo_ V c a i))), (4, .int (nI (i + 1)))]) (st2 := [.int (nI (i + 1)), .ref y]) rfl ?_
          refine wk_callV (cl := ("ProfileRightsModel", T_MD, 27)) (rest := []) C (c_MD_fitsN l D HB h h0 y A V F (i + 1) (by omega) (hL _ (by omega)) hA hM) cs_MD_125 kc_MD_fits ki_MD hM.ob rfl rfl rfl (Nat.le_of_ble_eq_true rfl) (Nat.le_of_ble_eq_true rfl) (Nat.le_of_ble_eq_true rfl) (Nat.le_of_ble_eq_true rfl) (Nat.le_of_ble_eq_true rfl) d_MD_found_67 (fun v h hq => ?_) (fun _ _ z => nomatch z.1)
          obtain ⟨e1, F, hM⟩ := hq; cases e1
          refine wk_br C d_MD_found_70 (P := (z_ (fp_ V (i + 1))) = 0) (tgt := 90) (rest := []) rfl (by decide) (fun c6 => ?_) (fun c6 => ?_)
          ·
            refine wk_run C k_MD_found_90 (pc2 := 93) (lv2 := [(4, .int ((nI (i + 1)) + 1)), (5, .int 1), (0, .ref y), (1, .int c), (2, .int a), (3, .int (nI (fo_ V c a i)))]) (st2 := []) rfl ?_
            refine wk_goto C d_MD_found_93 (tgt := 5) (by decide) ?_
            refine Wk.sub (lv2 := [(0, .ref y), (1, .int c), (2, .int a), (3, .int (nI (fo_ V c a i))), (4, .int ((nI (i + 1)) + 1))]) [2, 3, 4, 5, 0] rfl ?_
            have e1 : fo_ V c a (i + 1) = fo_ V c a i := fo_n (by clear C hM ih; grind [z_0, z_1])
            rw [nI_1, ← e1]
            refine Wk.lve (lv2 := [(0, .ref y), (1, .int c), (2, .int a), (3, .int (nI (fo_ V c a (i + 1)))), (4, .int (nI (i + 1 + 1)))]) (by rw [e1]) (ih (i + 1, h) ⟨hlt, F, hM⟩ (by show _ - (i + 1) < _ - i; omega))
          ·
            refine wk_run C k_MD_found_73 (pc2 := 74) (lv2 := [(5, .int 1), (0, .ref y), (1, .int c), (2, .int a), (3, .int (nI (fo_ V c a i))), (4, .int (nI (i + 1)))]) (st2 := [.int (nI (fo_ V c a i))]) rfl ?_
            refine wk_br C d_MD_found_74 (P := (nI (fo_ V c a i)) = 0) (tgt := 87) (rest := []) rfl (by decide) (fun c7 => ?_) (fun c7 => ?_)
            ·
              refine wk_run C k_MD_found_87 (pc2 := 93) (lv2 := [(4, .int ((nI (i + 1)) + 1)), (3, .int (nI (i + 1))), (5, .int 1), (0, .ref y), (1, .int c), (2, .int a)]) (st2 := []) rfl ?_
              refine wk_goto C d_MD_found_93 (tgt := 5) (by decide) ?_
              refine Wk.sub (lv2 := [(0, .ref y), (1, .int c), (2, .int a), (3, .int (nI (i + 1))), (4, .int ((nI (i + 1)) + 1))]) [3, 4, 5, 1, 0] rfl ?_
              have e1 : fo_ V c a (i + 1) = i + 1 := fo_p (by clear C hM ih; grind [z_0, z_1])
              rw [nI_1]
              refine Wk.lve (lv2 := [(0, .ref y), (1, .int c), (2, .int a), (3, .int (nI (fo_ V c a (i + 1)))), (4, .int (nI (i + 1 + 1)))]) (by rw [e1]) (ih (i + 1, h) ⟨hlt, F, hM⟩ (by show _ - (i + 1) < _ - i; omega))
            ·
              refine wk_run C k_MD_found_77 (pc2 := 81) (lv2 := [(5, .int 1), (0, .ref y), (1, .int c), (2, .int a), (3, .int (nI (fo_ V c a i))), (4, .int (nI (i + 1)))]) (st2 := [.int (nI (fo_ V c a i)), .int (nI (i + 1)), .ref y]) rfl ?_
              refine wk_callV (cl := ("ProfileRightsModel", T_MD, 27)) (rest := []) C (c_MD_isMoreN l D HB h h0 y A V F (i + 1) (fo_ V c a i) (by omega) (by omega) (hL _ (by omega)) (hL _ (by omega)) hM) cs_MD_128 kc_MD_isMore ki_MD hM.ob rfl rfl rfl (Nat.le_of_ble_eq_true rfl) (Nat.le_of_ble_eq_true rfl) (Nat.le_of_ble_eq_true rfl) (Nat.le_of_ble_eq_true rfl) (Nat.le_of_ble_eq_true rfl) d_MD_found_81 (fun v h2 hq => ?_) (fun _ _ z => nomatch z.1)
              obtain ⟨e1, e2⟩ := hq; cases e1; replace e2 := e2.symm; subst e2
              refine wk_br C d_MD_found_84 (P := (z_ (mo_ V (i + 1) (fo_ V c a i))) = 0) (tgt := 90) (rest := []) rfl (by decide) (fun c8 => ?_) (fun c8 => ?_)
              ·
                refine wk_run C k_MD_found_90 (pc2 := 93) (lv2 := [(4, .int ((nI (i + 1)) + 1)), (5, .int 1), (0, .ref y), (1, .int c), (2, .int a), (3, .int (nI (fo_ V c a i)))]) (st2 := []) rfl ?_
                refine wk_goto C d_MD_found_93 (tgt := 5) (by decide) ?_
                refine Wk.sub (lv2 := [(0, .ref y), (1, .int c), (2, .int a), (3, .int (nI (fo_ V c a i))), (4, .int ((nI (i + 1)) + 1))]) [2, 3, 4, 5, 0] rfl ?_
                have e1 : fo_ V c a (i + 1) = fo_ V c a i := fo_n (by clear C hM ih; grind [z_0, z_1])
                rw [nI_1, ← e1]
                refine Wk.lve (lv2 := [(0, .ref y), (1, .int c), (2, .int a), (3, .int (nI (fo_ V c a (i + 1)))), (4, .int (nI (i + 1 + 1)))]) (by rw [e1]) (ih (i + 1, h) ⟨hlt, F, hM⟩ (by show _ - (i + 1) < _ - i; omega))
              ·
                refine wk_run C k_MD_found_87 (pc2 := 93) (lv2 := [(4, .int ((nI (i + 1)) + 1)), (3, .int (nI (i + 1))), (5, .int 1), (0, .ref y), (1, .int c), (2, .int a)]) (st2 := []) rfl ?_
                refine wk_goto C d_MD_found_93 (tgt := 5) (by decide) ?_
                refine Wk.sub (lv2 := [(0, .ref y), (1, .int c), (2, .int a), (3, .int (nI (i + 1))), (4, .int ((nI (i + 1)) + 1))]) [3, 4, 5, 1, 0] rfl ?_
                have e1 : fo_ V c a (i + 1) = i + 1 := fo_p (by clear C hM ih; grind [z_0, z_1])
                rw [nI_1]
                refine Wk.lve (lv2 := [(0, .ref y), (1, .int c), (2, .int a), (3, .int (nI (fo_ V c a (i + 1)))), (4, .int (nI (i + 1 + 1)))]) (by rw [e1]) (ih (i + 1, h) ⟨hlt, F, hM⟩ (by show _ - (i + 1) < _ - i; omega))
      ·
        refine wk_run C k_MD_found_29 (pc2 := 30) (lv2 := [(0, .ref y), (1, .int c), (2, .int a), (3, .int (nI (fo_ V c a i))), (4, .int (nI (i + 1)))]) (st2 := [.ref y]) rfl ?_
        refine wk_get (v := .ref (A 15)) C fd_MD_44 hM.ob rfl d_MD_found_30 ?_
        refine wk_run C k_MD_found_33 (pc2 := 35) (lv2 := [(0, .ref y), (1, .int c), (2, .int a), (3, .int (nI (fo_ V c a i))), (4, .int (nI (i + 1)))]) (st2 := [.int (nI (i + 1)), .ref (A 15)]) rfl ?_
        refine wm_ld C hM 15 (j := i + 1) rfl (nI_in (c := i + 1) (by omega) (by decide)) (nu_nI (by omega)) d_MD_found_35 ?_
        show Wk _ _ _ _ _ _ _ _ _ _ _ _ _ _ _ _ _ _ _ (.int (V 15 (i + 1)) :: _)
        refine wk_run C k_MD_found_36 (pc2 := 38) (lv2 := [(0, .ref y), (1, .int c), (2, .int a), (3, .int (nI (fo_ V c a i))), (4, .int (nI (i + 1)))]) (st2 := [.int ((V 15 (i + 1)) &&& 4)]) rfl ?_
        refine wk_br C d_MD_found_38 (P := ((V 15 (i + 1)) &&& 4) ≤ 0) (tgt := 56) (rest := []) rfl (by decide) (fun c9 => ?_) (fun c9 => ?_)
        ·
          refine wk_run C k_MD_found_56 (pc2 := 61) (lv2 := [(5, .int 0), (0, .ref y), (1, .int c), (2, .int a), (3, .int (nI (fo_ V c a i))), (4, .int (nI (i + 1)))]) (st2 := [.int 0]) rfl ?_
          refine wk_br C d_MD_found_61 (P := 0 = 0) (tgt := 90) (rest := []) rfl (by decide) (fun c10 => ?_) (fun c10 => ?_)
          ·
            refine wk_run C k_MD_found_90 (pc2 := 93) (lv2 := [(4, .int ((nI (i + 1)) + 1)), (5, .int 0), (0, .ref y), (1, .int c), (2, .int a), (3, .int (nI (fo_ V c a i)))]) (st2 := []) rfl ?_
            refine wk_goto C d_MD_found_93 (tgt := 5) (by decide) ?_
            refine Wk.sub (lv2 := [(0, .ref y), (1, .int c), (2, .int a), (3, .int (nI (fo_ V c a i))), (4, .int ((nI (i + 1)) + 1))]) [2, 3, 4, 5, 0] rfl ?_
            have e1 : fo_ V c a (i + 1) = fo_ V c a i := fo_n (by clear C hM ih; grind [z_0, z_1])
            rw [nI_1, ← e1]
            refine Wk.lve (lv2 := [(0, .ref y), (1, .int c), (2, .int a), (3, .int (nI (fo_ V c a (i + 1)))), (4, .int (nI (i + 1 + 1)))]) (by rw [e1]) (ih (i + 1, h) ⟨hlt, F, hM⟩ (by show _ - (i + 1) < _ - i; omega))
          ·
            exact absurd (by decide) c10
        ·
          refine wk_run C k_MD_found_41 (pc2 := 42) (lv2 := [(0, .ref y), (1, .int c), (2, .int a), (3, .int (nI (fo_ V c a i))), (4, .int (nI (i + 1)))]) (st2 := [.ref y]) rfl ?_
          refine wk_get (v := .ref (A 14)) C fd_MD_41 hM.ob rfl d_MD_found_42 ?_
          refine wk_run C k_MD_found_45 (pc2 := 47) (lv2 := [(0, .ref y), (1, .int c), (2, .int a), (3, .int (nI (fo_ V c a i))), (4, .int (nI (i + 1)))]) (st2 := [.int (nI (i + 1)), .ref (A 14)]) rfl ?_
          refine wm_ld C hM 14 (j := i + 1) rfl (nI_in (c := i + 1) (by omega) (by decide)) (nu_nI (by omega)) d_MD_found_47 ?_
          show Wk _ _ _ _ _ _ _ _ _ _ _ _ _ _ _ _ _ _ _ (.int (V 14 (i + 1)) :: _)
          refine wk_run C k_MD_found_48 (pc2 := 49) (lv2 := [(0, .ref y), (1, .int c), (2, .int a), (3, .int (nI (fo_ V c a i))), (4, .int (nI (i + 1)))]) (st2 := [.int a, .int (V 14 (i + 1))]) rfl ?_
          refine wk_br C d_MD_found_49 (P := (V 14 (i + 1)) < a) (tgt := 56) (rest := []) rfl (by decide) (fun c11 => ?_) (fun c11 => ?_)
          ·
            refine wk_run C k_MD_found_56 (pc2 := 61) (lv2 := [(5, .int 0), (0, .ref y), (1, .int c), (2, .int a), (3, .int (nI (fo_ V c a i))), (4, .int (nI (i + 1)))]) (st2 := [.int 0]) rfl ?_
            refine wk_br C d_MD_found_61 (P := 0 = 0) (tgt := 90) (rest := []) rfl (by decide) (fun c12 => ?_) (fun c12 => ?_)
            ·
              refine wk_run C k_MD_found_90 (pc2 := 93) (lv2 := [(4, .int ((nI (i + 1)) + 1)), (5, .int 0), (0, .ref y), (1, .int c), (2, .int a), (3, .int (nI (fo_ V c a i)))]) (st2 := []) rfl ?_
              refine wk_goto C d_MD_found_93 (tgt := 5) (by decide) ?_
              refine Wk.sub (lv2 := [(0, .ref y), (1, .int c), (2, .int a), (3, .int (nI (fo_ V c a i))), (4, .int ((nI (i + 1)) + 1))]) [2, 3, 4, 5, 0] rfl ?_
              have e1 : fo_ V c a (i + 1) = fo_ V c a i := fo_n (by clear C hM ih; grind [z_0, z_1])
              rw [nI_1, ← e1]
              refine Wk.lve (lv2 := [(0, .ref y), (1, .int c), (2, .int a), (3, .int (nI (fo_ V c a (i + 1)))), (4, .int (nI (i + 1 + 1)))]) (by rw [e1]) (ih (i + 1, h) ⟨hlt, F, hM⟩ (by show _ - (i + 1) < _ - i; omega))
            ·
              exact absurd (by decide) c12
          ·
            refine wk_run C k_MD_found_52 (pc2 := 53) (lv2 := [(0, .ref y), (1, .int c), (2, .int a), (3, .int (nI (fo_ V c a i))), (4, .int (nI (i + 1)))]) (st2 := [.int 1]) rfl ?_
            refine wk_goto C d_MD_found_53 (tgt := 57) (by decide) ?_
            refine wk_run C k_MD_found_57 (pc2 := 61) (lv2 := [(5, .int 1), (0, .ref y), (1, .int c), (2, .int a), (3, .int (nI (fo_ V c a i))), (4, .int (nI (i + 1)))]) (st2 := [.int 1]) rfl ?_
            refine wk_br C d_MD_found_61 (P := 1 = 0) (tgt := 90) (rest := []) rfl (by decide) (fun c13 => ?_) (fun c13 => ?_)
            ·
              exact absurd c13 (by decide)
            ·
              refine wk_run C k_MD_found_64 (pc2 := 67) (lv2 := [(5, .int 1), (0, .ref y), (1, .int c), (2, .int a), (3, .int (nI (fo_ V c a i))), (4, .int (nI (i + 1)))]) (st2 := [.int (nI (i + 1)), .ref y]) rfl ?_
              refine wk_callV (cl := ("ProfileRightsModel", T_MD, 27)) (rest := []) C (c_MD_fitsN l D HB h h0 y A V F (i + 1) (by omega) (hL _ (by omega)) hA hM) cs_MD_125 kc_MD_fits ki_MD hM.ob rfl rfl rfl (Nat.le_of_ble_eq_true rfl) (Nat.le_of_ble_eq_true rfl) (Nat.le_of_ble_eq_true rfl) (Nat.le_of_ble_eq_true rfl) (Nat.le_of_ble_eq_true rfl) d_MD_found_67 (fun v h hq => ?_) (fun _ _ z => nomatch z.1)
              obtain ⟨e1, F, hM⟩ := hq; cases e1
              refine wk_br C d_MD_found_70 (P := (z_ (fp_ V (i + 1))) = 0) (tgt := 90) (rest := []) rfl (by decide) (fun c14 => ?_) (fun c14 => ?_)
              ·
                refine wk_run C k_MD_found_90 (pc2 := 93) (lv2 := [(4, .int ((nI (i + 1)) + 1)), (5, .int 1), (0, .ref y), (1, .int c), (2, .int a), (3, .int (nI (fo_ V c a i)))]) (st2 := []) rfl ?_
                refine wk_goto C d_MD_found_93 (tgt := 5) (by decide) ?_
                refine Wk.sub (lv2 := [(0, .ref y), (1, .int c), (2, .int a), (3, .int (nI (fo_ V c a i))), (4, .int ((nI (i + 1)) + 1))]) [2, 3, 4, 5, 0] rfl ?_
                have e1 : fo_ V c a (i + 1) = fo_ V c a i := fo_n (by clear C hM ih; grind [z_0, z_1])
                rw [nI_1, ← e1]
                refine Wk.lve (lv2 := [(0, .ref y), (1, .int c), (2, .int a), (3, .int (nI (fo_ V c a (i + 1)))), (4, .int (nI (i + 1 + 1)))]) (by rw [e1]) (ih (i + 1, h) ⟨hlt, F, hM⟩ (by show _ - (i + 1) < _ - i; omega))
              ·
                refine wk_run C k_MD_found_73 (pc2 := 74) (lv2 := [(5, .int 1), (0, .ref y), (1, .int c), (2, .int a), (3, .int (nI (fo_ V c a i))), (4, .int (nI (i + 1)))]) (st2 := [.int (nI (fo_ V c a i))]) rfl ?_
                refine wk_br C d_MD_found_74 (P := (nI (fo_ V c a i)) = 0) (tgt := 87) (rest := []) rfl (by decide) (fun c15 => ?_) (fun c15 => ?_)
                ·
                  refine wk_run C k_MD_found_87 (pc2 := 93) (lv2 := [(4, .int ((nI (i + 1)) + 1)), (3, .int (nI (i + 1))), (5, .int 1), (0, .ref y), (1, .int c), (2, .int a)]) (st2 := []) rfl ?_
                  refine wk_goto C d_MD_found_93 (tgt := 5) (by decide) ?_
                  refine Wk.sub (lv2 := [(0, .ref y), (1, .int c), (2, .int a), (3, .int (nI (i + 1))), (4, .int ((nI (i + 1)) + 1))]) [3, 4, 5, 1, 0] rfl ?_
                  have e1 : fo_ V c a (i + 1) = i + 1 := fo_p (by clear C hM ih; grind [z_0, z_1])
                  rw [nI_1]
                  refine Wk.lve (lv2 := [(0, .ref y), (1, .int c), (2, .int a), (3, .int (nI (fo_ V c a (i + 1)))), (4, .int (nI (i + 1 + 1)))]) (by rw [e1]) (ih (i + 1, h) ⟨hlt, F, hM⟩ (by show _ - (i + 1) < _ - i; omega))
                ·
                  refine wk_run C k_MD_found_77 (pc2 := 81) (lv2 := [(5, .int 1), (0, .ref y), (1, .int c), (2, .int a), (3, .int (nI (fo_ V c a i))), (4, .int (nI (i + 1)))]) (st2 := [.int (nI (fo_ V c a i)), .int (nI (i + 1)), .ref y]) rfl ?_
                  refine wk_callV (cl := ("ProfileRightsModel", T_MD, 27)) (rest := []) C (c_MD_isMoreN l D HB h h0 y A V F (i + 1) (fo_ V c a i) (by omega) (by omega) (hL _ (by omega)) (hL _ (by omega)) hM) cs_MD_128 kc_MD_isMore ki_MD hM.ob rfl rfl rfl (Nat.le_of_ble_eq_true rfl) (Nat.le_of_ble_eq_true rfl) (Nat.le_of_ble_eq_true rfl) (Nat.le_of_ble_eq_true rfl) (Nat.le_of_ble_eq_true rfl) d_MD_found_81 (fun v h2 hq => ?_) (fun _ _ z => nomatch z.1)
                  obtain ⟨e1, e2⟩ := hq; cases e1; replace e2 := e2.symm; subst e2
                  refine wk_br C d_MD_found_84 (P := (z_ (mo_ V (i + 1) (fo_ V c a i))) = 0) (tgt := 90) (rest := []) rfl (by decide) (fun c16 => ?_) (fun c16 => ?_)
                  ·
                    refine wk_run C k_MD_found_90 (pc2 := 93) (lv2 := [(4, .int ((nI (i + 1)) + 1)), (5, .int 1), (0, .ref y), (1, .int c), (2, .int a), (3, .int (nI (fo_ V c a i)))]) (st2 := []) rfl ?_
                    refine wk_goto C d_MD_found_93 (tgt := 5) (by decide) ?_
                    refine Wk.sub (lv2 := [(0, .ref y), (1, .int c), (2, .int a), (3, .int (nI (fo_ V c a i))), (4, .int ((nI (i + 1)) + 1))]) [2, 3, 4, 5, 0] rfl ?_
                    have e1 : fo_ V c a (i + 1) = fo_ V c a i := fo_n (by clear C hM ih; grind [z_0, z_1])
                    rw [nI_1, ← e1]
                    refine Wk.lve (lv2 := [(0, .ref y), (1, .int c), (2, .int a), (3, .int (nI (fo_ V c a (i + 1)))), (4, .int (nI (i + 1 + 1)))]) (by rw [e1]) (ih (i + 1, h) ⟨hlt, F, hM⟩ (by show _ - (i + 1) < _ - i; omega))
                  ·
                    refine wk_run C k_MD_found_87 (pc2 := 93) (lv2 := [(4, .int ((nI (i + 1)) + 1)), (3, .int (nI (i + 1))), (5, .int 1), (0, .ref y), (1, .int c), (2, .int a)]) (st2 := []) rfl ?_
                    refine wk_goto C d_MD_found_93 (tgt := 5) (by decide) ?_
                    refine Wk.sub (lv2 := [(0, .ref y), (1, .int c), (2, .int a), (3, .int (nI (i + 1))), (4, .int ((nI (i + 1)) + 1))]) [3, 4, 5, 1, 0] rfl ?_
                    have e1 : fo_ V c a (i + 1) = i + 1 := fo_p (by clear C hM ih; grind [z_0, z_1])
                    rw [nI_1]
                    refine Wk.lve (lv2 := [(0, .ref y), (1, .int c), (2, .int a), (3, .int (nI (fo_ V c a (i + 1)))), (4, .int (nI (i + 1 + 1)))]) (by rw [e1]) (ih (i + 1, h) ⟨hlt, F, hM⟩ (by show _ - (i + 1) < _ - i; omega))
/-- the entry of a holder, if it is open -/
noncomputable def og_ (V : vT) (p u : Nat) (t : Int64) (x : Int32) : Option Nat := match fe_ V p x with
  | some k => if io_ V (10 * p + k) u t then some k else none
  | none => none
noncomputable def lv_ (V : vT) (p u : Nat) (t : Int64) : Nat → Int32 → Int32
  | 0, _ => V 14 p
  | n + 1, g => if g = 0 then V 14 p else match og_ V p u t (0 - g) with
    | some k => V 18 (10 * p + k)
    | none => lv_ V p u t n (V 1 (nu g))
noncomputable def dp_ (V : vT) (g : Nat) : Nat := Classical.epsilon (fun n => cn_ V n g = 0)
theorem dp_s {V : vT} {g : Nat} (h : ∃ n, cn_ V n g = 0) : cn_ V (dp_ V g) g = 0 := Classical.epsilon_spec h
noncomputable def ll_ (V : vT) (p u : Nat) (t : Int64) : Int32 := match og_ V p u t (nI u) with
  | some k => V 18 (10 * p + k)
  | none => lv_ V p u t (dp_ V (nu (V 2 u))) (V 2 u)
theorem og_n {V : vT} {p u : Nat} {t : Int64} {x : Int32} (h : fe_ V p x = none) : og_ V p u t x = none := by unfold og_; rw [h]
theorem og_s {V : vT} {p u k : Nat} {t : Int64} {x : Int32} (h : fe_ V p x = some k) (h2 : io_ V (10 * p + k) u t) : og_ V p u t x = some k := by unfold og_; rw [h]; exact if_pos h2
theorem og_c {V : vT} {p u k : Nat} {t : Int64} {x : Int32} (h : fe_ V p x = some k) (h2 : ¬ io_ V (10 * p + k) u t) : og_ V p u t x = none := by unfold og_; rw [h]; exact if_neg h2
theorem ll_s {V : vT} {p u k : Nat} {t : Int64} (h : og_ V p u t (nI u) = some k) : ll_ V p u t = V 18 (10 * p + k) := by unfold ll_; rw [h]
theorem ll_n {V : vT} {p u : Nat} {t : Int64} (h : og_ V p u t (nI u) = none) : ll_ V p u t = lv_ V p u t (dp_ V (nu (V 2 u))) (V 2 u) := by unfold ll_; rw [h]
theorem lv_z {V : vT} {p u n : Nat} {t : Int64} : lv_ V p u t n 0 = V 14 p := by cases n with
  | zero => rfl
  | succ n => exact if_pos rfl
theorem lv_s {V : vT} {p u n k : Nat} {t : Int64} {g : Int32} (h0 : ¬ g = 0) (h : og_ V p u t (0 - g) = some k) : lv_ V p u t (n + 1) g = V 18 (10 * p + k) := by
  show (if g = 0 then V 14 p else match og_ V p u t (0 - g) with | some k => V 18 (10 * p + k) | none => lv_ V p u t n (V 1 (nu g))) = _
  rw [if_neg h0, h]
theorem lv_n {V : vT} {p u n : Nat} {t : Int64} {g : Int32} (h0 : ¬ g = 0) (h : og_ V p u t (0 - g) = none) : lv_ V p u t (n + 1) g = lv_ V p u t n (V 1 (nu g)) := by
  show (if g = 0 then V 14 p else match og_ V p u t (0 - g) with | some k => V 18 (10 * p + k) | none => lv_ V p u t n (V 1 (nu g))) = _
  rw [if_neg h0, h]

theorem k_MD_levelOf_0 : px_dec prog_9_method_34_code [.aload_n 0, .iload_n 2, .iload_n 1] 0 = true := by decide +kernel
theorem d_MD_levelOf_3 : decode prog_9_method_34_code 3 = .ok (.invokevirtual 110, 3) := by decide +kernel
theorem k_MD_levelOf_6 : px_dec prog_9_method_34_code [.istore 5, .aload_n 0, .iload 5, .iload_n 1, .lload_n 3] 6 = true := by decide +kernel
theorem d_MD_levelOf_13 : decode prog_9_method_34_code 13 = .ok (.invokevirtual 136, 3) := by decide +kernel
theorem d_MD_levelOf_16 : decode prog_9_method_34_code 16 = .ok (.ifCond .eq 11, 3) := by decide +kernel
theorem k_MD_levelOf_27 : px_dec prog_9_method_34_code [.aload_n 0] 27 = true := by decide +kernel
theorem d_MD_levelOf_28 : decode prog_9_method_34_code 28 = .ok (.getfield 13, 3) := by decide +kernel
theorem k_MD_levelOf_31 : px_dec prog_9_method_34_code [.iload_n 1] 31 = true := by decide +kernel
theorem d_MD_levelOf_32 : decode prog_9_method_34_code 32 = .ok (.iaload, 1) := by decide +kernel
theorem k_MD_levelOf_33 : px_dec prog_9_method_34_code [.istore 6] 33 = true := by decide +kernel
theorem k_MD_levelOf_35 : px_dec prog_9_method_34_code [.iload 6] 35 = true := by decide +kernel
theorem d_MD_levelOf_37 : decode prog_9_method_34_code 37 = .ok (.ifCond .eq 45, 3) := by decide +kernel
theorem k_MD_levelOf_82 : px_dec prog_9_method_34_code [.aload_n 0] 82 = true := by decide +kernel
theorem d_MD_levelOf_83 : decode prog_9_method_34_code 83 = .ok (.getfield 41, 3) := by decide +kernel
theorem k_MD_levelOf_86 : px_dec prog_9_method_34_code [.iload_n 2] 86 = true := by decide +kernel
theorem d_MD_levelOf_87 : decode prog_9_method_34_code 87 = .ok (.iaload, 1) := by decide +kernel
theorem d_MD_levelOf_88 : decode prog_9_method_34_code 88 = .ok (.ireturn, 1) := by decide +kernel
theorem k_MD_levelOf_40 : px_dec prog_9_method_34_code [.aload_n 0, .iload_n 2, .iconst 0, .iload 6, .isub] 40 = true := by decide +kernel
theorem d_MD_levelOf_46 : decode prog_9_method_34_code 46 = .ok (.invokevirtual 110, 3) := by decide +kernel
theorem k_MD_levelOf_49 : px_dec prog_9_method_34_code [.istore 5, .aload_n 0, .iload 5, .iload_n 1, .lload_n 3] 49 = true := by decide +kernel
theorem d_MD_levelOf_56 : decode prog_9_method_34_code 56 = .ok (.invokevirtual 136, 3) := by decide +kernel
theorem d_MD_levelOf_59 : decode prog_9_method_34_code 59 = .ok (.ifCond .eq 11, 3) := by decide +kernel
theorem k_MD_levelOf_70 : px_dec prog_9_method_34_code [.aload_n 0] 70 = true := by decide +kernel
theorem d_MD_levelOf_71 : decode prog_9_method_34_code 71 = .ok (.getfield 7, 3) := by decide +kernel
theorem k_MD_levelOf_74 : px_dec prog_9_method_34_code [.iload 6] 74 = true := by decide +kernel
theorem d_MD_levelOf_76 : decode prog_9_method_34_code 76 = .ok (.iaload, 1) := by decide +kernel
theorem k_MD_levelOf_77 : px_dec prog_9_method_34_code [.istore 6] 77 = true := by decide +kernel
theorem d_MD_levelOf_79 : decode prog_9_method_34_code 79 = .ok (.goto (-44), 3) := by decide +kernel
theorem k_MD_levelOf_62 : px_dec prog_9_method_34_code [.aload_n 0] 62 = true := by decide +kernel
theorem d_MD_levelOf_63 : decode prog_9_method_34_code 63 = .ok (.getfield 53, 3) := by decide +kernel
theorem k_MD_levelOf_66 : px_dec prog_9_method_34_code [.iload 5] 66 = true := by decide +kernel
theorem d_MD_levelOf_68 : decode prog_9_method_34_code 68 = .ok (.iaload, 1) := by decide +kernel
theorem d_MD_levelOf_69 : decode prog_9_method_34_code 69 = .ok (.ireturn, 1) := by decide +kernel
theorem k_MD_levelOf_19 : px_dec prog_9_method_34_code [.aload_n 0] 19 = true := by decide +kernel
theorem d_MD_levelOf_20 : decode prog_9_method_34_code 20 = .ok (.getfield 53, 3) := by decide +kernel
theorem k_MD_levelOf_23 : px_dec prog_9_method_34_code [.iload 5] 23 = true := by decide +kernel
theorem d_MD_levelOf_25 : decode prog_9_method_34_code 25 = .ok (.iaload, 1) := by decide +kernel
theorem d_MD_levelOf_26 : decode prog_9_method_34_code 26 = .ok (.ireturn, 1) := by decide +kernel
set_option maxRecDepth 100000 in
set_option maxHeartbeats 4000000 in
theorem c_MD_levelOf (l : Launch) (D : va_G) (HB : Heap) (h : hp_T) (h0 : hp_T) (y : Nat) (A : Nat → Nat) (V : vT) (u p : Int32) (t : Int64) (hu : ok_ u 40) (hp : ok_ p 60) (hE : ok_ (V 16 (nu p)) 10) (hg : ok_ (V 2 (nu u)) 20) (hA : ∀ q, q ≤ 20 → ok_ (V 1 q) 20) (hC : ∃ n, cn_ V n (nu (V 2 (nu u))) = 0) (hM : mq D h0 h y A V) : ct_M l y_MD_levelOf (.code y_MD_levelOf prog_9_method_34_code 7 (Option.some Jvm.ClassFile.FieldType.int)) ({ frames := 2, cells := 0, slots := 0, locals := 60 }) D HB [.ref y, .int u, .int p, .long t] h (fun o h2 => o = .inl (some (.int (ll_ V (nu p) (nu u) t))) ∧ h2 = h) := by
  refine ct_of (by decide) (Nat.le_of_ble_eq_true rfl) rfl ?_
  intro p_ e_ s_ m_ r_ b_ t_ c_ C hnm
  have hub : nI (nu u) = u := hu.1.symm
  refine wk_run C k_MD_levelOf_0 (pc2 := 3) (lv2 := [(0, .ref y), (1, .int u), (2, .int p), (3, .long t)]) (st2 := [.int u, .int p, .ref y]) rfl ?_
  cases hf : fe_ V (nu p) (u) with
  | none =>
    refine wk_callV (cl := ("ProfileRightsModel", T_MD, 27)) (rest := []) C (c_MD_entry l D HB h h0 y A V p (u) none hp hE (hf ▸ fe_s V (nu p) (u)) hM) cs_MD_110 kc_MD_entry ki_MD hM.ob rfl rfl rfl (Nat.le_of_ble_eq_true rfl) (Nat.le_of_ble_eq_true rfl) (Nat.le_of_ble_eq_true rfl) (Nat.le_of_ble_eq_true rfl) (Nat.le_of_ble_eq_true rfl) d_MD_levelOf_3 (fun v h2 hq => ?_) (fun _ _ z => nomatch z.1)
    obtain ⟨e1, e2⟩ := hq; cases e1; replace e2 := e2.symm; subst e2
    show Wk _ _ _ _ _ _ _ _ _ _ _ _ _ _ _ _ _ _ _ (.int (-1) :: _)
    refine wk_run C k_MD_levelOf_6 (pc2 := 13) (lv2 := [(5, .int (-1)), (0, .ref y), (1, .int u), (2, .int p), (3, .long t)]) (st2 := [.long t, .int u, .int (-1), .ref y]) rfl ?_
    refine wk_callV (cl := ("ProfileRightsModel", T_MD, 27)) (rest := []) C (c_MD_isOpenN l D HB h h0 y A V u t hM) cs_MD_136 kc_MD_isOpen ki_MD hM.ob rfl rfl rfl (Nat.le_of_ble_eq_true rfl) (Nat.le_of_ble_eq_true rfl) (Nat.le_of_ble_eq_true rfl) (Nat.le_of_ble_eq_true rfl) (Nat.le_of_ble_eq_true rfl) d_MD_levelOf_13 (fun v h2 hq => ?_) (fun _ _ z => nomatch z.1)
    obtain ⟨e1, e2⟩ := hq; cases e1; replace e2 := e2.symm; subst e2
    refine wk_br C d_MD_levelOf_16 (P := 0 = 0) (tgt := 27) (rest := []) rfl (by decide) (fun c21 => ?_) (fun c21 => ?_)
    ·
      refine wk_run C k_MD_levelOf_27 (pc2 := 28) (lv2 := [(5, .int (-1)), (0, .ref y), (1, .int u), (2, .int p), (3, .long t)]) (st2 := [.ref y]) rfl ?_
      refine wk_get (v := .ref (A 2)) C fd_MD_13 hM.ob rfl d_MD_levelOf_28 ?_
      refine wk_run C k_MD_levelOf_31 (pc2 := 32) (lv2 := [(5, .int (-1)), (0, .ref y), (1, .int u), (2, .int p), (3, .long t)]) (st2 := [.int u, .ref (A 2)]) rfl ?_
      refine wm_ld C hM 2 (j := nu u) rfl (vi_k hu (by decide) (by decide)) rfl d_MD_levelOf_32 ?_
      show Wk _ _ _ _ _ _ _ _ _ _ _ _ _ _ _ _ _ _ _ (.int (V 2 (nu u)) :: _)
      refine wk_run C k_MD_levelOf_33 (pc2 := 35) (lv2 := [(6, .int (V 2 (nu u))), (5, .int (-1)), (0, .ref y), (1, .int u), (2, .int p), (3, .long t)]) (st2 := []) rfl ?_
      refine Wk.sub (lv2 := [(0, .ref y), (1, .int u), (2, .int p), (3, .long t), (6, .int (V 2 (nu u)))]) [2, 3, 4, 5, 0] rfl ?_
      have hog : og_ V (nu p) (nu u) t (nI (nu u)) = none := by rw [hub]; exact og_n hf
      rw [ll_n hog]
      clear hf
      refine wk_ind (σ := Nat × Int32) (hF := fun _ => h) (lvF := fun b => [(0, .ref y), (1, .int u), (2, .int p), (3, .long t), (6, .int b.2)]) (fun b => b.1) (fun b => ok_ b.2 20 ∧ cn_ V b.1 (nu b.2) = 0 ∧ lv_ V (nu p) (nu u) t b.1 b.2 = lv_ V (nu p) (nu u) t (dp_ V (nu (V 2 (nu u)))) (V 2 (nu u))) (fun b hb ih => ?_) (dp_ V (nu (V 2 (nu u))), V 2 (nu u)) ⟨hg, dp_s hC, rfl⟩
      obtain ⟨n, b⟩ := b
      obtain ⟨hb, hn, hv⟩ := hb
      replace hb : ok_ b 20 := hb
      replace hn : cn_ V n (nu b) = 0 := hn
      replace hv : lv_ V (nu p) (nu u) t n b = lv_ V (nu p) (nu u) t (dp_ V (nu (V 2 (nu u)))) (V 2 (nu u)) := hv
      show Wk _ _ _ _ _ _ _ _ _ _ _ _ _ _ _ _ _ _ [(0, .ref y), (1, .int u), (2, .int p), (3, .long t), (6, .int b)] _
      refine wk_run C k_MD_levelOf_35 (pc2 := 37) (lv2 := [(0, .ref y), (1, .int u), (2, .int p), (3, .long t), (6, .int b)]) (st2 := [.int b]) rfl ?_
      refine wk_br C d_MD_levelOf_37 (P := b = 0) (tgt := 82) (rest := []) rfl (by decide) (fun c41 => ?_) (fun c41 => ?_)
      ·
        refine wk_run C k_MD_levelOf_82 (pc2 := 83) (lv2 := [(0, .ref y), (1, .int u), (2, .int p), (3, .long t), (6, .int b)]) (st2 := [.ref y]) rfl ?_
        refine wk_get (v := .ref (A 14)) C fd_MD_41 hM.ob rfl d_MD_levelOf_83 ?_
        refine wk_run C k_MD_levelOf_86 (pc2 := 87) (lv2 := [(0, .ref y), (1, .int u), (2, .int p), (3, .long t), (6, .int b)]) (st2 := [.int p, .ref (A 14)]) rfl ?_
        refine wm_ld C hM 14 (j := nu p) rfl (vi_k hp (by decide) (by decide)) rfl d_MD_levelOf_87 ?_
        show Wk _ _ _ _ _ _ _ _ _ _ _ _ _ _ _ _ _ _ _ (.int (V 14 (nu p)) :: _)
        exact wk_iret C ⟨by rw [← hv, c41, lv_z], rfl⟩ (by decide) (by decide) d_MD_levelOf_88
      ·
        cases n with
        | zero => exact absurd hn (ok_z hb c41)
        | succ n =>
          refine wk_run C k_MD_levelOf_40 (pc2 := 46) (lv2 := [(0, .ref y), (1, .int u), (2, .int p), (3, .long t), (6, .int b)]) (st2 := [.int (0 - b), .int p, .ref y]) rfl ?_
          cases hf : fe_ V (nu p) (0 - b) with
          | none =>
            refine wk_callV (cl := ("ProfileRightsModel", T_MD, 27)) (rest := []) C (c_MD_entry l D HB h h0 y A V p (0 - b) none hp hE (hf ▸ fe_s V (nu p) (0 - b)) hM) cs_MD_110 kc_MD_entry ki_MD hM.ob rfl rfl rfl (Nat.le_of_ble_eq_true rfl) (Nat.le_of_ble_eq_true rfl) (Nat.le_of_ble_eq_true rfl) (Nat.le_of_ble_eq_true rfl) (Nat.le_of_ble_eq_true rfl) d_MD_levelOf_46 (fun v h2 hq => ?_) (fun _ _ z => nomatch z.1)
            obtain ⟨e1, e2⟩ := hq; cases e1; replace e2 := e2.symm; subst e2
            show Wk _ _ _ _ _ _ _ _ _ _ _ _ _ _ _ _ _ _ _ (.int (-1) :: _)
            refine wk_run C k_MD_levelOf_49 (pc2 := 56) (lv2 := [(5, .int (-1)), (0, .ref y), (1, .int u), (2, .int p), (3, .long t), (6, .int b)]) (st2 := [.long t, .int u, .int (-1), .ref y]) rfl ?_
            refine wk_callV (cl := ("ProfileRightsModel", T_MD, 27)) (rest := []) C (c_MD_isOpenN l D HB h h0 y A V u t hM) cs_MD_136 kc_MD_isOpen ki_MD hM.ob rfl rfl rfl (Nat.le_of_ble_eq_true rfl) (Nat.le_of_ble_eq_true rfl) (Nat.le_of_ble_eq_true rfl) (Nat.le_of_ble_eq_true rfl) (Nat.le_of_ble_eq_true rfl) d_MD_levelOf_56 (fun v h2 hq => ?_) (fun _ _ z => nomatch z.1)
            obtain ⟨e1, e2⟩ := hq; cases e1; replace e2 := e2.symm; subst e2
            refine wk_br C d_MD_levelOf_59 (P := 0 = 0) (tgt := 70) (rest := []) rfl (by decide) (fun c61 => ?_) (fun c61 => ?_)
            ·
              refine wk_run C k_MD_levelOf_70 (pc2 := 71) (lv2 := [(5, .int (-1)), (0, .ref y), (1, .int u), (2, .int p), (3, .long t), (6, .int b)]) (st2 := [.ref y]) rfl ?_
              refine wk_get (v := .ref (A 1)) C fd_MD_7 hM.ob rfl d_MD_levelOf_71 ?_
              refine wk_run C k_MD_levelOf_74 (pc2 := 76) (lv2 := [(5, .int (-1)), (0, .ref y), (1, .int u), (2, .int p), (3, .long t), (6, .int b)]) (st2 := [.int b, .ref (A 1)]) rfl ?_
              refine wm_ld C hM 1 (j := nu b) rfl (vi_k hb (by decide) (by decide)) rfl d_MD_levelOf_76 ?_
              show Wk _ _ _ _ _ _ _ _ _ _ _ _ _ _ _ _ _ _ _ (.int (V 1 (nu b)) :: _)
              refine wk_run C k_MD_levelOf_77 (pc2 := 79) (lv2 := [(6, .int (V 1 (nu b))), (5, .int (-1)), (0, .ref y), (1, .int u), (2, .int p), (3, .long t)]) (st2 := []) rfl ?_
              refine wk_goto C d_MD_levelOf_79 (tgt := 35) (by decide) ?_
              refine Wk.sub (lv2 := [(0, .ref y), (1, .int u), (2, .int p), (3, .long t), (6, .int (V 1 (nu b)))]) [2, 3, 4, 5, 0] rfl ?_
              have hog : og_ V (nu p) (nu u) t (0 - b) = none := og_n hf
              exact ih (n, V 1 (nu b)) ⟨hA _ hb.2, by rw [cn_s (ok_z hb c41)] at hn; exact hn, by rw [← lv_n c41 hog]; exact hv⟩ (Nat.lt_succ_self n)
            ·
              exact absurd (by decide) c61
          | some k =>
            refine wk_callV (cl := ("ProfileRightsModel", T_MD, 27)) (rest := []) C (c_MD_entry l D HB h h0 y A V p (0 - b) (some k) hp hE (hf ▸ fe_s V (nu p) (0 - b)) hM) cs_MD_110 kc_MD_entry ki_MD hM.ob rfl rfl rfl (Nat.le_of_ble_eq_true rfl) (Nat.le_of_ble_eq_true rfl) (Nat.le_of_ble_eq_true rfl) (Nat.le_of_ble_eq_true rfl) (Nat.le_of_ble_eq_true rfl) d_MD_levelOf_46 (fun v h2 hq => ?_) (fun _ _ z => nomatch z.1)
            obtain ⟨e1, e2⟩ := hq; cases e1; replace e2 := e2.symm; subst e2
            show Wk _ _ _ _ _ _ _ _ _ _ _ _ _ _ _ _ _ _ _ (.int (nI (10 * nu p + k)) :: _)
            have hk : k < 10 := Nat.lt_of_lt_of_le (show k < nu (V 16 (nu p)) from (hf ▸ fe_s V (nu p) (0 - b) : fs_ _ (0 - b) _ (some k)).1) hE.2
            have hp6 := hp.2
            refine wk_run C k_MD_levelOf_49 (pc2 := 56) (lv2 := [(5, .int (nI (10 * nu p + k))), (0, .ref y), (1, .int u), (2, .int p), (3, .long t), (6, .int b)]) (st2 := [.long t, .int u, .int (nI (10 * nu p + k)), .ref y]) rfl ?_
            refine wk_callV (cl := ("ProfileRightsModel", T_MD, 27)) (rest := []) C (c_MD_isOpen l D HB h h0 y A V (10 * nu p + k) u t (by omega) hu hM) cs_MD_136 kc_MD_isOpen ki_MD hM.ob rfl rfl rfl (Nat.le_of_ble_eq_true rfl) (Nat.le_of_ble_eq_true rfl) (Nat.le_of_ble_eq_true rfl) (Nat.le_of_ble_eq_true rfl) (Nat.le_of_ble_eq_true rfl) d_MD_levelOf_56 (fun v h2 hq => ?_) (fun _ _ z => nomatch z.1)
            obtain ⟨e1, e2⟩ := hq; cases e1; replace e2 := e2.symm; subst e2
            refine wk_br C d_MD_levelOf_59 (P := (if io_ V (10 * nu p + k) (nu u) t then (1 : Int32) else 0) = 0) (tgt := 70) (rest := []) rfl (by decide) (fun c61 => ?_) (fun c61 => ?_)
            ·
              replace c61 := bz_ c61
              refine wk_run C k_MD_levelOf_70 (pc2 := 71) (lv2 := [(5, .int (nI (10 * nu p + k))), (0, .ref y), (1, .int u), (2, .int p), (3, .long t), (6, .int b)]) (st2 := [.ref y]) rfl ?_
              refine wk_get (v := .ref (A 1)) C fd_MD_7 hM.ob rfl d_MD_levelOf_71 ?_
              refine wk_run C k_MD_levelOf_74 (pc2 := 76) (lv2 := [(5, .int (nI (10 * nu p + k))), (0, .ref y), (1, .int u), (2, .int p), (3, .long t), (6, .int b)]) (st2 := [.int b, .ref (A 1)]) rfl ?_
              refine wm_ld C hM 1 (j := nu b) rfl (vi_k hb (by decide) (by decide)) rfl d_MD_levelOf_76 ?_
              show Wk _ _ _ _ _ _ _ _ _ _ _ _ _ _ _ _ _ _ _ (.int (V 1 (nu b)) :: _)
              refine wk_run C k_MD_levelOf_77 (pc2 := 79) (lv2 := [(6, .int (V 1 (nu b))), (5, .int (nI (10 * nu p + k))), (0, .ref y), (1, .int u), (2, .int p), (3, .long t)]) (st2 := []) rfl ?_
              refine wk_goto C d_MD_levelOf_79 (tgt := 35) (by decide) ?_
              refine Wk.sub (lv2 := [(0, .ref y), (1, .int u), (2, .int p), (3, .long t), (6, .int (V 1 (nu b)))]) [2, 3, 4, 5, 0] rfl ?_
              have hog : og_ V (nu p) (nu u) t (0 - b) = none := og_c hf c61
              exact ih (n, V 1 (nu b)) ⟨hA _ hb.2, by rw [cn_s (ok_z hb c41)] at hn; exact hn, by rw [← lv_n c41 hog]; exact hv⟩ (Nat.lt_succ_self n)
            ·
              replace c61 := bn_ c61
              refine wk_run C k_MD_levelOf_62 (pc2 := 63) (lv2 := [(5, .int (nI (10 * nu p + k))), (0, .ref y), (1, .int u), (2, .int p), (3, .long t), (6, .int b)]) (st2 := [.ref y]) rfl ?_
              refine wk_get (v := .ref (A 18)) C fd_MD_53 hM.ob rfl d_MD_levelOf_63 ?_
              refine wk_run C k_MD_levelOf_66 (pc2 := 68) (lv2 := [(5, .int (nI (10 * nu p + k))), (0, .ref y), (1, .int u), (2, .int p), (3, .long t), (6, .int b)]) (st2 := [.int (nI (10 * nu p + k)), .ref (A 18)]) rfl ?_
              refine wm_ld C hM 18 (j := 10 * nu p + k) rfl (vi_k (ok_nI (m := 10 * nu p + k) (n := 609) (by omega) (by decide)) (by decide) (by decide)) (nu_nI (by omega)) d_MD_levelOf_68 ?_
              show Wk _ _ _ _ _ _ _ _ _ _ _ _ _ _ _ _ _ _ _ (.int (V 18 (10 * nu p + k)) :: _)
              exact wk_iret C ⟨by rw [← hv, lv_s c41 (og_s hf c61)], rfl⟩ (by decide) (by decide) d_MD_levelOf_69
    ·
      exact absurd (by decide) c21
  | some k =>
    refine wk_callV (cl := ("ProfileRightsModel", T_MD, 27)) (rest := []) C (c_MD_entry l D HB h h0 y A V p (u) (some k) hp hE (hf ▸ fe_s V (nu p) (u)) hM) cs_MD_110 kc_MD_entry ki_MD hM.ob rfl rfl rfl (Nat.le_of_ble_eq_true rfl) (Nat.le_of_ble_eq_true rfl) (Nat.le_of_ble_eq_true rfl) (Nat.le_of_ble_eq_true rfl) (Nat.le_of_ble_eq_true rfl) d_MD_levelOf_3 (fun v h2 hq => ?_) (fun _ _ z => nomatch z.1)
    obtain ⟨e1, e2⟩ := hq; cases e1; replace e2 := e2.symm; subst e2
    show Wk _ _ _ _ _ _ _ _ _ _ _ _ _ _ _ _ _ _ _ (.int (nI (10 * nu p + k)) :: _)
    have hk : k < 10 := Nat.lt_of_lt_of_le (show k < nu (V 16 (nu p)) from (hf ▸ fe_s V (nu p) (u) : fs_ _ (u) _ (some k)).1) hE.2
    have hp6 := hp.2
    refine wk_run C k_MD_levelOf_6 (pc2 := 13) (lv2 := [(5, .int (nI (10 * nu p + k))), (0, .ref y), (1, .int u), (2, .int p), (3, .long t)]) (st2 := [.long t, .int u, .int (nI (10 * nu p + k)), .ref y]) rfl ?_
    refine wk_callV (cl := ("ProfileRightsModel", T_MD, 27)) (rest := []) C (c_MD_isOpen l D HB h h0 y A V (10 * nu p + k) u t (by omega) hu hM) cs_MD_136 kc_MD_isOpen ki_MD hM.ob rfl rfl rfl (Nat.le_of_ble_eq_true rfl) (Nat.le_of_ble_eq_true rfl) (Nat.le_of_ble_eq_true rfl) (Nat.le_of_ble_eq_true rfl) (Nat.le_of_ble_eq_true rfl) d_MD_levelOf_13 (fun v h2 hq => ?_) (fun _ _ z => nomatch z.1)
    obtain ⟨e1, e2⟩ := hq; cases e1; replace e2 := e2.symm; subst e2
    refine wk_br C d_MD_levelOf_16 (P := (if io_ V (10 * nu p + k) (nu u) t then (1 : Int32) else 0) = 0) (tgt := 27) (rest := []) rfl (by decide) (fun c31 => ?_) (fun c31 => ?_)
    ·
      replace c31 := bz_ c31
      refine wk_run C k_MD_levelOf_27 (pc2 := 28) (lv2 := [(5, .int (nI (10 * nu p + k))), (0, .ref y), (1, .int u), (2, .int p), (3, .long t)]) (st2 := [.ref y]) rfl ?_
      refine wk_get (v := .ref (A 2)) C fd_MD_13 hM.ob rfl d_MD_levelOf_28 ?_
      refine wk_run C k_MD_levelOf_31 (pc2 := 32) (lv2 := [(5, .int (nI (10 * nu p + k))), (0, .ref y), (1, .int u), (2, .int p), (3, .long t)]) (st2 := [.int u, .ref (A 2)]) rfl ?_
      refine wm_ld C hM 2 (j := nu u) rfl (vi_k hu (by decide) (by decide)) rfl d_MD_levelOf_32 ?_
      show Wk _ _ _ _ _ _ _ _ _ _ _ _ _ _ _ _ _ _ _ (.int (V 2 (nu u)) :: _)
      refine wk_run C k_MD_levelOf_33 (pc2 := 35) (lv2 := [(6, .int (V 2 (nu u))), (5, .int (nI (10 * nu p + k))), (0, .ref y), (1, .int u), (2, .int p), (3, .long t)]) (st2 := []) rfl ?_
      refine Wk.sub (lv2 := [(0, .ref y), (1, .int u), (2, .int p), (3, .long t), (6, .int (V 2 (nu u)))]) [2, 3, 4, 5, 0] rfl ?_
      have hog : og_ V (nu p) (nu u) t (nI (nu u)) = none := by rw [hub]; exact og_c hf c31
      rw [ll_n hog]
      clear hf
      refine wk_ind (σ := Nat × Int32) (hF := fun _ => h) (lvF := fun b => [(0, .ref y), (1, .int u), (2, .int p), (3, .long t), (6, .int b.2)]) (fun b => b.1) (fun b => ok_ b.2 20 ∧ cn_ V b.1 (nu b.2) = 0 ∧ lv_ V (nu p) (nu u) t b.1 b.2 = lv_ V (nu p) (nu u) t (dp_ V (nu (V 2 (nu u)))) (V 2 (nu u))) (fun b hb ih => ?_) (dp_ V (nu (V 2 (nu u))), V 2 (nu u)) ⟨hg, dp_s hC, rfl⟩
      obtain ⟨n, b⟩ := b
      obtain ⟨hb, hn, hv⟩ := hb
      replace hb : ok_ b 20 := hb
      replace hn : cn_ V n (nu b) = 0 := hn
      replace hv : lv_ V (nu p) (nu u) t n b = lv_ V (nu p) (nu u) t (dp_ V (nu (V 2 (nu u)))) (V 2 (nu u)) := hv
      show Wk _ _ _ _ _ _ _ _ _ _ _ _ _ _ _ _ _ _ [(0, .ref y), (1, .int u), (2, .int p), (3, .long t), (6, .int b)] _
      refine wk_run C k_MD_levelOf_35 (pc2 := 37) (lv2 := [(0, .ref y), (1, .int u), (2, .int p), (3, .long t), (6, .int b)]) (st2 := [.int b]) rfl ?_
      refine wk_br C d_MD_levelOf_37 (P := b = 0) (tgt := 82) (rest := []) rfl (by decide) (fun c41 => ?_) (fun c41 => ?_)
      ·
        refine wk_run C k_MD_levelOf_82 (pc2 := 83) (lv2 := [(0, .ref y), (1, .int u), (2, .int p), (3, .long t), (6, .int b)]) (st2 := [.ref y]) rfl ?_
        refine wk_get (v := .ref (A 14)) C fd_MD_41 hM.ob rfl d_MD_levelOf_83 ?_
        refine wk_run C k_MD_levelOf_86 (pc2 := 87) (lv2 := [(0, .ref y), (1, .int u), (2, .int p), (3, .long t), (6, .int b)]) (st2 := [.int p, .ref (A 14)]) rfl ?_
        refine wm_ld C hM 14 (j := nu p) rfl (vi_k hp (by decide) (by decide)) rfl d_MD_levelOf_87 ?_
        show Wk _ _ _ _ _ _ _ _ _ _ _ _ _ _ _ _ _ _ _ (.int (V 14 (nu p)) :: _)
        exact wk_iret C ⟨by rw [← hv, c41, lv_z], rfl⟩ (by decide) (by decide) d_MD_levelOf_88
      ·
        cases n with
        | zero => exact absurd hn (ok_z hb c41)
        | succ n =>
          refine wk_run C k_MD_levelOf_40 (pc2 := 46) (lv2 := [(0, .ref y), (1, .int u), (2, .int p), (3, .long t), (6, .int b)]) (st2 := [.int (0 - b), .int p, .ref y]) rfl ?_
          cases hf : fe_ V (nu p) (0 - b) with
          | none =>
            refine wk_callV (cl := ("ProfileRightsModel", T_MD, 27)) (rest := []) C (c_MD_entry l D HB h h0 y A V p (0 - b) none hp hE (hf ▸ fe_s V (nu p) (0 - b)) hM) cs_MD_110 kc_MD_entry ki_MD hM.ob rfl rfl rfl (Nat.le_of_ble_eq_true rfl) (Nat.le_of_ble_eq_true rfl) (Nat.le_of_ble_eq_true rfl) (Nat.le_of_ble_eq_true rfl) (Nat.le_of_ble_eq_true rfl) d_MD_levelOf_46 (fun v h2 hq => ?_) (fun _ _ z => nomatch z.1)
            obtain ⟨e1, e2⟩ := hq; cases e1; replace e2 := e2.symm; subst e2
            show Wk _ _ _ _ _ _ _ _ _ _ _ _ _ _ _ _ _ _ _ (.int (-1) :: _)
            refine wk_run C k_MD_levelOf_49 (pc2 := 56) (lv2 := [(5, .int (-1)), (0, .ref y), (1, .int u), (2, .int p), (3, .long t), (6, .int b)]) (st2 := [.long t, .int u, .int (-1), .ref y]) rfl ?_
            refine wk_callV (cl := ("ProfileRightsModel", T_MD, 27)) (rest := []) C (c_MD_isOpenN l D HB h h0 y A V u t hM) cs_MD_136 kc_MD_isOpen ki_MD hM.ob rfl rfl rfl (Nat.le_of_ble_eq_true rfl) (Nat.le_of_ble_eq_true rfl) (Nat.le_of_ble_eq_true rfl) (Nat.le_of_ble_eq_true rfl) (Nat.le_of_ble_eq_true rfl) d_MD_levelOf_56 (fun v h2 hq => ?_) (fun _ _ z => nomatch z.1)
            obtain ⟨e1, e2⟩ := hq; cases e1; replace e2 := e2.symm; subst e2
            refine wk_br C d_MD_levelOf_59 (P := 0 = 0) (tgt := 70) (rest := []) rfl (by decide) (fun c61 => ?_) (fun c61 => ?_)
            ·
              refine wk_run C k_MD_levelOf_70 (pc2 := 71) (lv2 := [(5, .int (-1)), (0, .ref y), (1, .int u), (2, .int p), (3, .long t), (6, .int b)]) (st2 := [.ref y]) rfl ?_
              refine wk_get (v := .ref (A 1)) C fd_MD_7 hM.ob rfl d_MD_levelOf_71 ?_
              refine wk_run C k_MD_levelOf_74 (pc2 := 76) (lv2 := [(5, .int (-1)), (0, .ref y), (1, .int u), (2, .int p), (3, .long t), (6, .int b)]) (st2 := [.int b, .ref (A 1)]) rfl ?_
              refine wm_ld C hM 1 (j := nu b) rfl (vi_k hb (by decide) (by decide)) rfl d_MD_levelOf_76 ?_
              show Wk _ _ _ _ _ _ _ _ _ _ _ _ _ _ _ _ _ _ _ (.int (V 1 (nu b)) :: _)
              refine wk_run C k_MD_levelOf_77 (pc2 := 79) (lv2 := [(6, .int (V 1 (nu b))), (5, .int (-1)), (0, .ref y), (1, .int u), (2, .int p), (3, .long t)]) (st2 := []) rfl ?_
              refine wk_goto C d_MD_levelOf_79 (tgt := 35) (by decide) ?_
              refine Wk.sub (lv2 := [(0, .ref y), (1, .int u), (2, .int p), (3, .long t), (6, .int (V 1 (nu b)))]) [2, 3, 4, 5, 0] rfl ?_
              have hog : og_ V (nu p) (nu u) t (0 - b) = none := og_n hf
              exact ih (n, V 1 (nu b)) ⟨hA _ hb.2, by rw [cn_s (ok_z hb c41)] at hn; exact hn, by rw [← lv_n c41 hog]; exact hv⟩ (Nat.lt_succ_self n)
            ·
              exact absurd (by decide) c61
          | some k =>
            refine wk_callV (cl := ("ProfileRightsModel", T_MD, 27)) (rest := []) C (c_MD_entry l D HB h h0 y A V p (0 - b) (some k) hp hE (hf ▸ fe_s V (nu p) (0 - b)) hM) cs_MD_110 kc_MD_entry ki_MD hM.ob rfl rfl rfl (Nat.le_of_ble_eq_true rfl) (Nat.le_of_ble_eq_true rfl) (Nat.le_of_ble_eq_true rfl) (Nat.le_of_ble_eq_true rfl) (Nat.le_of_ble_eq_true rfl) d_MD_levelOf_46 (fun v h2 hq => ?_) (fun _ _ z => nomatch z.1)
            obtain ⟨e1, e2⟩ := hq; cases e1; replace e2 := e2.symm; subst e2
            show Wk _ _ _ _ _ _ _ _ _ _ _ _ _ _ _ _ _ _ _ (.int (nI (10 * nu p + k)) :: _)
            have hk : k < 10 := Nat.lt_of_lt_of_le (show k < nu (V 16 (nu p)) from (hf ▸ fe_s V (nu p) (0 - b) : fs_ _ (0 - b) _ (some k)).1) hE.2
            have hp6 := hp.2
            refine wk_run C k_MD_levelOf_49 (pc2 := 56) (lv2 := [(5, .int (nI (10 * nu p + k))), (0, .ref y), (1, .int u), (2, .int p), (3, .long t), (6, .int b)]) (st2 := [.long t, .int u, .int (nI (10 * nu p + k)), .ref y]) rfl ?_
            refine wk_callV (cl := ("ProfileRightsModel", T_MD, 27)) (rest := []) C (c_MD_isOpen l D HB h h0 y A V (10 * nu p + k) u t (by omega) hu hM) cs_MD_136 kc_MD_isOpen ki_MD hM.ob rfl rfl rfl (Nat.le_of_ble_eq_true rfl) (Nat.le_of_ble_eq_true rfl) (Nat.le_of_ble_eq_true rfl) (Nat.le_of_ble_eq_true rfl) (Nat.le_of_ble_eq_true rfl) d_MD_levelOf_56 (fun v h2 hq => ?_) (fun _ _ z => nomatch z.1)
            obtain ⟨e1, e2⟩ := hq; cases e1; replace e2 := e2.symm; subst e2
            refine wk_br C d_MD_levelOf_59 (P := (if io_ V (10 * nu p + k) (nu u) t then (1 : Int32) else 0) = 0) (tgt := 70) (rest := []) rfl (by decide) (fun c61 => ?_) (fun c61 => ?_)
            ·
              replace c61 := bz_ c61
              refine wk_run C k_MD_levelOf_70 (pc2 := 71) (lv2 := [(5, .int (nI (10 * nu p + k))), (0, .ref y), (1, .int u), (2, .int p), (3, .long t), (6, .int b)]) (st2 := [.ref y]) rfl ?_
              refine wk_get (v := .ref (A 1)) C fd_MD_7 hM.ob rfl d_MD_levelOf_71 ?_
              refine wk_run C k_MD_levelOf_74 (pc2 := 76) (lv2 := [(5, .int (nI (10 * nu p + k))), (0, .ref y), (1, .int u), (2, .int p), (3, .long t), (6, .int b)]) (st2 := [.int b, .ref (A 1)]) rfl ?_
              refine wm_ld C hM 1 (j := nu b) rfl (vi_k hb (by decide) (by decide)) rfl d_MD_levelOf_76 ?_
              show Wk _ _ _ _ _ _ _ _ _ _ _ _ _ _ _ _ _ _ _ (.int (V 1 (nu b)) :: _)
              refine wk_run C k_MD_levelOf_77 (pc2 := 79) (lv2 := [(6, .int (V 1 (nu b))), (5, .int (nI (10 * nu p + k))), (0, .ref y), (1, .int u), (2, .int p), (3, .long t)]) (st2 := []) rfl ?_
              refine wk_goto C d_MD_levelOf_79 (tgt := 35) (by decide) ?_
              refine Wk.sub (lv2 := [(0, .ref y), (1, .int u), (2, .int p), (3, .long t), (6, .int (V 1 (nu b)))]) [2, 3, 4, 5, 0] rfl ?_
              have hog : og_ V (nu p) (nu u) t (0 - b) = none := og_c hf c61
              exact ih (n, V 1 (nu b)) ⟨hA _ hb.2, by rw [cn_s (ok_z hb c41)] at hn; exact hn, by rw [← lv_n c41 hog]; exact hv⟩ (Nat.lt_succ_self n)
            ·
              replace c61 := bn_ c61
              refine wk_run C k_MD_levelOf_62 (pc2 := 63) (lv2 := [(5, .int (nI (10 * nu p + k))), (0, .ref y), (1, .int u), (2, .int p), (3, .long t), (6, .int b)]) (st2 := [.ref y]) rfl ?_
              refine wk_get (v := .ref (A 18)) C fd_MD_53 hM.ob rfl d_MD_levelOf_63 ?_
              refine wk_run C k_MD_levelOf_66 (pc2 := 68) (lv2 := [(5, .int (nI (10 * nu p + k))), (0, .ref y), (1, .int u), (2, .int p), (3, .long t), (6, .int b)]) (st2 := [.int (nI (10 * nu p + k)), .ref (A 18)]) rfl ?_
              refine wm_ld C hM 18 (j := 10 * nu p + k) rfl (vi_k (ok_nI (m := 10 * nu p + k) (n := 609) (by omega) (by decide)) (by decide) (by decide)) (nu_nI (by omega)) d_MD_levelOf_68 ?_
              show Wk _ _ _ _ _ _ _ _ _ _ _ _ _ _ _ _ _ _ _ (.int (V 18 (10 * nu p + k)) :: _)
              exact wk_iret C ⟨by rw [← hv, lv_s c41 (og_s hf c61)], rfl⟩ (by decide) (by decide) d_MD_levelOf_69
    ·
      replace c31 := bn_ c31
      refine wk_run C k_MD_levelOf_19 (pc2 := 20) (lv2 := [(5, .int (nI (10 * nu p + k))), (0, .ref y), (1, .int u), (2, .int p), (3, .long t)]) (st2 := [.ref y]) rfl ?_
      refine wk_get (v := .ref (A 18)) C fd_MD_53 hM.ob rfl d_MD_levelOf_20 ?_
      refine wk_run C k_MD_levelOf_23 (pc2 := 25) (lv2 := [(5, .int (nI (10 * nu p + k))), (0, .ref y), (1, .int u), (2, .int p), (3, .long t)]) (st2 := [.int (nI (10 * nu p + k)), .ref (A 18)]) rfl ?_
      refine wm_ld C hM 18 (j := 10 * nu p + k) rfl (vi_k (ok_nI (m := 10 * nu p + k) (n := 609) (by omega) (by decide)) (by decide) (by decide)) (nu_nI (by omega)) d_MD_levelOf_25 ?_
      show Wk _ _ _ _ _ _ _ _ _ _ _ _ _ _ _ _ _ _ _ (.int (V 18 (10 * nu p + k)) :: _)
      exact wk_iret C ⟨by rw [ll_s (by rw [hub]; exact og_s hf c31)], rfl⟩ (by decide) (by decide) d_MD_levelOf_26
