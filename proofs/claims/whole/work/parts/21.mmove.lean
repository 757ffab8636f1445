/-- the chain of groups above g -/
def cn_ (V : vT) : Nat → Nat → Nat
  | 0, g => g
  | n + 1, g => if g = 0 then 0 else cn_ V n (nu (V 1 g))
theorem cn_0 (V : vT) (n : Nat) : cn_ V n 0 = 0 := by cases n with
  | zero => rfl
  | succ n => exact if_pos rfl
theorem cn_s {V : vT} {n g : Nat} (h : ¬ g = 0) : cn_ V (n + 1) g = cn_ V n (nu (V 1 g)) := if_neg h
/-- the chain of g meets x -/
def mv_ (V : vT) (x g : Nat) : Prop := ∃ n, cn_ V n g = x
theorem mv_0 {V : vT} {x : Nat} (h : 1 ≤ x) : ¬ mv_ V x 0 := fun ⟨n, hn⟩ => by rw [cn_0] at hn; omega
theorem mv_s {V : vT} {x g : Nat} (h : ¬ g = 0) (h2 : ¬ g = x) (hx : 1 ≤ x) : mv_ V x g ↔ mv_ V x (nu (V 1 g)) := by
  constructor
  · intro ⟨n, hn⟩
    cases n with
    | zero => exact absurd hn h2
    | succ n => exact ⟨n, by rw [cn_s h] at hn; exact hn⟩
  · intro ⟨n, hn⟩; exact ⟨n + 1, by rw [cn_s h]; exact hn⟩
noncomputable def sp_move (V : vT) (x g : Int32) : rT := if ¬ ((¬ x < 1 ∧ x ≤ V 7 0) ∧ (g = 0 ∨ ¬ g < 1 ∧ g ≤ V 7 0)) then (1, 0, vc V 0 1) else @ite _ (mv_ V (nu x) (nu g)) (Classical.propDecidable _) (0, 0, vc V 0 0) (0, 1, vs (vc V 0 0) 1 (upd (V 1) (nu x) g))
theorem sp_m1 {V : vT} {x g : Int32} (h1 : (¬ x < 1 ∧ x ≤ V 7 0) ∧ (g = 0 ∨ ¬ g < 1 ∧ g ≤ V 7 0)) (h2 : mv_ V (nu x) (nu g)) : sp_move V x g = (0, 0, vc V 0 0) := by unfold sp_move; rw [if_neg (fun z => z h1), if_pos h2]
theorem sp_m2 {V : vT} {x g : Int32} (h1 : (¬ x < 1 ∧ x ≤ V 7 0) ∧ (g = 0 ∨ ¬ g < 1 ∧ g ≤ V 7 0)) (h2 : ¬ mv_ V (nu x) (nu g)) : sp_move V x g = (0, 1, vs (vc V 0 0) 1 (upd (V 1) (nu x) g)) := by unfold sp_move; rw [if_neg (fun z => z h1), if_neg h2]
theorem ok_0g {V : vT} {g : Int32} (hG : ok_ (V 7 0) 20) (h : g = 0 ∨ ¬ g < 1 ∧ g ≤ V 7 0) : ok_ g 20 := by
  rcases h with rfl | h
  · exact ok_nI (m := 0) (by decide) (by decide)
  · exact ok_r h.1 h.2 hG (by decide)
theorem ok_1 {x : Int32} {n : Nat} (h : ok_ x n) (h1 : ¬ x < 1) (hn : n < 2 ^ 31) : 1 ≤ nu x := by
  rcases Nat.eq_zero_or_pos (nu x) with z | z
  · exact absurd (by rw [h.1, z]; decide) h1
  · exact z
theorem ok_z {x : Int32} {n : Nat} (h : ok_ x n) (h1 : ¬ x = 0) : ¬ nu x = 0 := fun z => h1 (by rw [h.1, z]; rfl)
theorem nu_e {x y : Int32} {m n : Nat} (h : ok_ x m) (h2 : ok_ y n) (e : ¬ x = y) : ¬ nu x = nu y := fun z => e (by rw [h.1, h2.1, z])

theorem k_MD_move_0 : px_dec prog_9_method_11_code [.aload_n 0, .aload_n 0, .iload_n 1] 0 = true := by decide +kernel
theorem d_MD_move_3 : decode prog_9_method_11_code 3 = .ok (.invokevirtual 84, 3) := by decide +kernel
theorem d_MD_move_6 : decode prog_9_method_11_code 6 = .ok (.ifCond .eq 15, 3) := by decide +kernel
theorem k_MD_move_21 : px_dec prog_9_method_11_code [.iconst 1] 21 = true := by decide +kernel
theorem d_MD_move_22 : decode prog_9_method_11_code 22 = .ok (.goto 4, 3) := by decide +kernel
theorem k_MD_move_26 : px_dec prog_9_method_11_code [.iconst 0] 26 = true := by decide +kernel
theorem d_MD_move_27 : decode prog_9_method_11_code 27 = .ok (.invokevirtual 88, 3) := by decide +kernel
theorem d_MD_move_30 : decode prog_9_method_11_code 30 = .ok (.ifCond .eq 5, 3) := by decide +kernel
theorem k_MD_move_33 : px_dec prog_9_method_11_code [.iconst 0] 33 = true := by decide +kernel
theorem d_MD_move_34 : decode prog_9_method_11_code 34 = .ok (.ireturn, 1) := by decide +kernel
theorem k_MD_move_9 : px_dec prog_9_method_11_code [.iload_n 2] 9 = true := by decide +kernel
theorem d_MD_move_10 : decode prog_9_method_11_code 10 = .ok (.ifCond .eq 15, 3) := by decide +kernel
theorem k_MD_move_25 : px_dec prog_9_method_11_code [.iconst 0, .iconst 0] 25 = true := by decide +kernel
theorem k_MD_move_35 : px_dec prog_9_method_11_code [.iload_n 2, .istore_n 3] 35 = true := by decide +kernel
theorem k_MD_move_37 : px_dec prog_9_method_11_code [.iload_n 3] 37 = true := by decide +kernel
theorem d_MD_move_38 : decode prog_9_method_11_code 38 = .ok (.ifCond .eq 18, 3) := by decide +kernel
theorem k_MD_move_56 : px_dec prog_9_method_11_code [.iload_n 3] 56 = true := by decide +kernel
theorem d_MD_move_57 : decode prog_9_method_11_code 57 = .ok (.ifCond .eq 5, 3) := by decide +kernel
theorem k_MD_move_62 : px_dec prog_9_method_11_code [.aload_n 0] 62 = true := by decide +kernel
theorem d_MD_move_63 : decode prog_9_method_11_code 63 = .ok (.getfield 7, 3) := by decide +kernel
theorem k_MD_move_66 : px_dec prog_9_method_11_code [.iload_n 1, .iload_n 2] 66 = true := by decide +kernel
theorem d_MD_move_68 : decode prog_9_method_11_code 68 = .ok (.iastore, 1) := by decide +kernel
theorem k_MD_move_69 : px_dec prog_9_method_11_code [.iconst 1] 69 = true := by decide +kernel
theorem d_MD_move_70 : decode prog_9_method_11_code 70 = .ok (.ireturn, 1) := by decide +kernel
theorem k_MD_move_41 : px_dec prog_9_method_11_code [.iload_n 3, .iload_n 1] 41 = true := by decide +kernel
theorem d_MD_move_43 : decode prog_9_method_11_code 43 = .ok (.if_icmp .eq 13, 3) := by decide +kernel
theorem k_MD_move_60 : px_dec prog_9_method_11_code [.iconst 0] 60 = true := by decide +kernel
theorem d_MD_move_61 : decode prog_9_method_11_code 61 = .ok (.ireturn, 1) := by decide +kernel
theorem k_MD_move_46 : px_dec prog_9_method_11_code [.aload_n 0] 46 = true := by decide +kernel
theorem d_MD_move_47 : decode prog_9_method_11_code 47 = .ok (.getfield 7, 3) := by decide +kernel
theorem k_MD_move_50 : px_dec prog_9_method_11_code [.iload_n 3] 50 = true := by decide +kernel
theorem d_MD_move_51 : decode prog_9_method_11_code 51 = .ok (.iaload, 1) := by decide +kernel
theorem k_MD_move_52 : px_dec prog_9_method_11_code [.istore_n 3] 52 = true := by decide +kernel
theorem d_MD_move_53 : decode prog_9_method_11_code 53 = .ok (.goto (-16), 3) := by decide +kernel
theorem k_MD_move_13 : px_dec prog_9_method_11_code [.aload_n 0, .iload_n 2] 13 = true := by decide +kernel
theorem d_MD_move_15 : decode prog_9_method_11_code 15 = .ok (.invokevirtual 84, 3) := by decide +kernel
theorem d_MD_move_18 : decode prog_9_method_11_code 18 = .ok (.ifCond .ne 7, 3) := by decide +kernel
set_option maxRecDepth 100000 in
set_option maxHeartbeats 4000000 in
theorem c_MD_move (l : Launch) (D : va_G) (HB : Heap) (h : hp_T) (h0 : hp_T) (y : Nat) (A : Nat → Nat) (V : vT) (x g : Int32) (hG : ok_ (V 7 0) 20) (hA : ∀ q, q ≤ 20 → ok_ (V 1 q) 20) (hC : ∃ n, cn_ V n (nu g) = 0) (hM : mq D h0 h y A V) : ct_M l y_MD_move (.code y_MD_move prog_9_method_11_code 4 (Option.some Jvm.ClassFile.FieldType.int)) ({ frames := 1, cells := 0, slots := 0, locals := 30 }) D HB [.ref y, .int x, .int g] h (fun o h2 => ∃ (cd r : Int32) (V2 : vT), sp_move V x g = (cd, r, V2) ∧ o = .inl (some (.int r)) ∧ mq D h0 h2 y A V2) := by
  refine ct_of (by decide) (Nat.le_of_ble_eq_true rfl) rfl ?_
  intro p_ e_ s_ m_ r_ b_ t_ c_ C hnm
  refine wk_run C k_MD_move_0 (pc2 := 3) (lv2 := [(0, .ref y), (1, .int x), (2, .int g)]) (st2 := [.int x, .ref y, .ref y]) rfl ?_
  refine wk_callV (cl := ("ProfileRightsModel", T_MD, 27)) (rest := [.ref y]) C (c_MD_isGroup l D HB h h0 y A (V) x hM) cs_MD_84 kc_MD_isGroup ki_MD hM.ob rfl rfl rfl (Nat.le_of_ble_eq_true rfl) (Nat.le_of_ble_eq_true rfl) (Nat.le_of_ble_eq_true rfl) (Nat.le_of_ble_eq_true rfl) (Nat.le_of_ble_eq_true rfl) d_MD_move_3 (fun v h2 hq => ?_) (fun _ _ z => nomatch z.1)
  obtain ⟨e1, e2⟩ := hq; cases e1; replace e2 := e2.symm; subst e2
  show Wk _ _ _ _ _ _ _ _ _ _ _ _ _ _ _ _ _ _ _ (.int (if ¬ x < 1 ∧ x ≤ V 7 0 then (1 : Int32) else 0) :: _)
  refine wk_br C d_MD_move_6 (P := (if ¬ x < 1 ∧ x ≤ V 7 0 then (1 : Int32) else 0) = 0) (tgt := 21) (rest := [.ref y]) rfl (by decide) (fun c1 => ?_) (fun c1 => ?_)
  ·
    replace c1 := bz_ c1
    refine wk_run C k_MD_move_21 (pc2 := 22) (lv2 := [(0, .ref y), (1, .int x), (2, .int g)]) (st2 := [.int 1, .ref y]) rfl ?_
    refine wk_goto C d_MD_move_22 (tgt := 26) (by decide) ?_
    refine wk_run C k_MD_move_26 (pc2 := 27) (lv2 := [(0, .ref y), (1, .int x), (2, .int g)]) (st2 := [.int 0, .int 1, .ref y]) rfl ?_
    refine wk_callV (cl := ("ProfileRightsModel", T_MD, 27)) (rest := []) C (c_MD_f1 l D HB h h0 y A (V) hM) cs_MD_88 kc_MD_fails ki_MD hM.ob rfl rfl rfl (Nat.le_of_ble_eq_true rfl) (Nat.le_of_ble_eq_true rfl) (Nat.le_of_ble_eq_true rfl) (Nat.le_of_ble_eq_true rfl) (Nat.le_of_ble_eq_true rfl) d_MD_move_27 (fun v h hq => ?_) (fun _ _ z => nomatch z.1)
    obtain ⟨e1, hM⟩ := hq; cases e1
    refine wk_br C d_MD_move_30 (P := 1 = 0) (tgt := 35) (rest := []) rfl (by decide) (fun c2 => ?_) (fun c2 => ?_)
    ·
      exact absurd c2 (by decide)
    ·
      refine wk_run C k_MD_move_33 (pc2 := 34) (lv2 := [(0, .ref y), (1, .int x), (2, .int g)]) (st2 := [.int 0]) rfl ?_
      exact wk_iret C ⟨1, 0, vc (V) 0 1, by clear C hM hnm; grind [sp_move], rfl, hM⟩ (by decide) (by decide) d_MD_move_34
  ·
    replace c1 := bn_ c1
    refine wk_run C k_MD_move_9 (pc2 := 10) (lv2 := [(0, .ref y), (1, .int x), (2, .int g)]) (st2 := [.int g, .ref y]) rfl ?_
    refine wk_br C d_MD_move_10 (P := g = 0) (tgt := 25) (rest := [.ref y]) rfl (by decide) (fun c3 => ?_) (fun c3 => ?_)
    ·
      refine wk_run C k_MD_move_25 (pc2 := 27) (lv2 := [(0, .ref y), (1, .int x), (2, .int g)]) (st2 := [.int 0, .int 0, .ref y]) rfl ?_
      refine wk_callV (cl := ("ProfileRightsModel", T_MD, 27)) (rest := []) C (c_MD_f0 l D HB h h0 y A (V) hM) cs_MD_88 kc_MD_fails ki_MD hM.ob rfl rfl rfl (Nat.le_of_ble_eq_true rfl) (Nat.le_of_ble_eq_true rfl) (Nat.le_of_ble_eq_true rfl) (Nat.le_of_ble_eq_true rfl) (Nat.le_of_ble_eq_true rfl) d_MD_move_27 (fun v h hq => ?_) (fun _ _ z => nomatch z.1)
      obtain ⟨e1, hM⟩ := hq; cases e1
      refine wk_br C d_MD_move_30 (P := 0 = 0) (tgt := 35) (rest := []) rfl (by decide) (fun c4 => ?_) (fun c4 => ?_)
      ·
        refine wk_run C k_MD_move_35 (pc2 := 37) (lv2 := [(3, .int g), (0, .ref y), (1, .int x), (2, .int g)]) (st2 := []) rfl ?_
        refine Wk.sub (lv2 := [(0, .ref y), (1, .int x), (2, .int g), (3, .int g)]) [1, 2, 3, 0] rfl ?_
        have hc : (¬ x < 1 ∧ x ≤ V 7 0) ∧ (g = 0 ∨ ¬ g < 1 ∧ g ≤ V 7 0) := by clear C hM; grind
        have hg : ok_ g 20 := ok_0g hG hc.2
        have hx : ok_ x 20 := ok_r hc.1.1 hc.1.2 hG (by decide)
        have hx1 := ok_1 hx hc.1.1 (by decide)
        obtain ⟨n, hn⟩ := id hC
        refine wk_ind (σ := Nat × Int32) (hF := fun _ => h) (lvF := fun b => [(0, .ref y), (1, .int x), (2, .int g), (3, .int b.2)]) (fun b => b.1) (fun b => ok_ b.2 20 ∧ cn_ V b.1 (nu b.2) = 0 ∧ (mv_ V (nu x) (nu b.2) ↔ mv_ V (nu x) (nu g))) (fun b hb ih => ?_) (n, g) ⟨hg, hn, Iff.rfl⟩
        obtain ⟨n, b⟩ := b
        obtain ⟨hb, hn, hm⟩ := hb
        replace hb : ok_ b 20 := hb
        replace hn : cn_ V n (nu b) = 0 := hn
        replace hm : mv_ V (nu x) (nu b) ↔ mv_ V (nu x) (nu g) := hm
        show Wk _ _ _ _ _ _ _ _ _ _ _ _ _ _ _ _ _ _ [(0, .ref y), (1, .int x), (2, .int g), (3, .int b)] _
        refine wk_run C k_MD_move_37 (pc2 := 38) (lv2 := [(0, .ref y), (1, .int x), (2, .int g), (3, .int b)]) (st2 := [.int b]) rfl ?_
        refine wk_br C d_MD_move_38 (P := b = 0) (tgt := 56) (rest := []) rfl (by decide) (fun c51 => ?_) (fun c51 => ?_)
        ·
          refine wk_run C k_MD_move_56 (pc2 := 57) (lv2 := [(0, .ref y), (1, .int x), (2, .int g), (3, .int b)]) (st2 := [.int b]) rfl ?_
          refine wk_br C d_MD_move_57 (P := b = 0) (tgt := 62) (rest := []) rfl (by decide) (fun c52 => ?_) (fun c52 => ?_)
          ·
            refine wk_run C k_MD_move_62 (pc2 := 63) (lv2 := [(0, .ref y), (1, .int x), (2, .int g), (3, .int b)]) (st2 := [.ref y]) rfl ?_
            refine wk_get (v := .ref (A 1)) C fd_MD_7 hM.ob rfl d_MD_move_63 ?_
            refine wk_run C k_MD_move_66 (pc2 := 68) (lv2 := [(0, .ref y), (1, .int x), (2, .int g), (3, .int b)]) (st2 := [.int g, .int x, .ref (A 1)]) rfl ?_
            refine wm_st C hM 1 (j := (nu x)) rfl (vi_k hx (by decide) (by decide)) rfl d_MD_move_68 (fun h (hM : mq D h0 h y A (vs (vc (V) 0 0) 1 (upd (V 1) (nu x) g))) => ?_)
            refine wk_run C k_MD_move_69 (pc2 := 70) (lv2 := [(0, .ref y), (1, .int x), (2, .int g), (3, .int b)]) (st2 := [.int 1]) rfl ?_
            exact wk_iret C ⟨0, 1, vs (vc (V) 0 0) 1 (upd (V 1) (nu x) g), sp_m2 hc (fun z => mv_0 hx1 (by have z2 := hm.mpr z; rw [c51] at z2; exact z2)), rfl, hM⟩ (by decide) (by decide) d_MD_move_70
          ·
            exact absurd c51 c52
        ·
          refine wk_run C k_MD_move_41 (pc2 := 43) (lv2 := [(0, .ref y), (1, .int x), (2, .int g), (3, .int b)]) (st2 := [.int x, .int b]) rfl ?_
          refine wk_br C d_MD_move_43 (P := b = x) (tgt := 56) (rest := []) rfl (by decide) (fun c53 => ?_) (fun c53 => ?_)
          ·
            refine wk_run C k_MD_move_56 (pc2 := 57) (lv2 := [(0, .ref y), (1, .int x), (2, .int g), (3, .int b)]) (st2 := [.int b]) rfl ?_
            refine wk_br C d_MD_move_57 (P := b = 0) (tgt := 62) (rest := []) rfl (by decide) (fun c54 => ?_) (fun c54 => ?_)
            ·
              exact absurd c54 c51
            ·
              refine wk_run C k_MD_move_60 (pc2 := 61) (lv2 := [(0, .ref y), (1, .int x), (2, .int g), (3, .int b)]) (st2 := [.int 0]) rfl ?_
              exact wk_iret C ⟨0, 0, vc (V) 0 0, sp_m1 hc (hm.mp ⟨0, by rw [c53]; rfl⟩), rfl, hM⟩ (by decide) (by decide) d_MD_move_61
          ·
            cases n with
            | zero => exact absurd hn (ok_z hb c51)
            | succ n =>
              refine wk_run C k_MD_move_46 (pc2 := 47) (lv2 := [(0, .ref y), (1, .int x), (2, .int g), (3, .int b)]) (st2 := [.ref y]) rfl ?_
              refine wk_get (v := .ref (A 1)) C fd_MD_7 hM.ob rfl d_MD_move_47 ?_
              refine wk_run C k_MD_move_50 (pc2 := 51) (lv2 := [(0, .ref y), (1, .int x), (2, .int g), (3, .int b)]) (st2 := [.int b, .ref (A 1)]) rfl ?_
              refine wm_ld C hM 1 (j := nu b) rfl (vi_k hb (by decide) (by decide)) rfl d_MD_move_51 ?_
              show Wk _ _ _ _ _ _ _ _ _ _ _ _ _ _ _ _ _ _ _ (.int (V 1 (nu b)) :: _)
              refine wk_run C k_MD_move_52 (pc2 := 53) (lv2 := [(3, .int (V 1 (nu b))), (0, .ref y), (1, .int x), (2, .int g)]) (st2 := []) rfl ?_
              refine wk_goto C d_MD_move_53 (tgt := 37) (by decide) ?_
              refine Wk.sub (lv2 := [(0, .ref y), (1, .int x), (2, .int g), (3, .int (V 1 (nu b)))]) [1, 2, 3, 0] rfl ?_
              exact ih (n, V 1 (nu b)) ⟨hA _ hb.2, by rw [cn_s (ok_z hb c51)] at hn; exact hn, (mv_s (ok_z hb c51) (nu_e hb hx c53) hx1).symm.trans hm⟩ (Nat.lt_succ_self n)
      ·
        exact absurd (by decide) c4
    ·
      refine wk_run C k_MD_move_13 (pc2 := 15) (lv2 := [(0, .ref y), (1, .int x), (2, .int g)]) (st2 := [.int g, .ref y, .ref y]) rfl ?_
      refine wk_callV (cl := ("ProfileRightsModel", T_MD, 27)) (rest := [.ref y]) C (c_MD_isGroup l D HB h h0 y A (V) g hM) cs_MD_84 kc_MD_isGroup ki_MD hM.ob rfl rfl rfl (Nat.le_of_ble_eq_true rfl) (Nat.le_of_ble_eq_true rfl) (Nat.le_of_ble_eq_true rfl) (Nat.le_of_ble_eq_true rfl) (Nat.le_of_ble_eq_true rfl) d_MD_move_15 (fun v h2 hq => ?_) (fun _ _ z => nomatch z.1)
      obtain ⟨e1, e2⟩ := hq; cases e1; replace e2 := e2.symm; subst e2
      show Wk _ _ _ _ _ _ _ _ _ _ _ _ _ _ _ _ _ _ _ (.int (if ¬ g < 1 ∧ g ≤ V 7 0 then (1 : Int32) else 0) :: _)
      refine wk_br C d_MD_move_18 (P := ¬ (if ¬ g < 1 ∧ g ≤ V 7 0 then (1 : Int32) else 0) = 0) (tgt := 25) (rest := [.ref y]) rfl (by decide) (fun c5 => ?_) (fun c5 => ?_)
      ·
        replace c5 := bn_ c5
        refine wk_run C k_MD_move_25 (pc2 := 27) (lv2 := [(0, .ref y), (1, .int x), (2, .int g)]) (st2 := [.int 0, .int 0, .ref y]) rfl ?_
        refine wk_callV (cl := ("ProfileRightsModel", T_MD, 27)) (rest := []) C (c_MD_f0 l D HB h h0 y A (V) hM) cs_MD_88 kc_MD_fails ki_MD hM.ob rfl rfl rfl (Nat.le_of_ble_eq_true rfl) (Nat.le_of_ble_eq_true rfl) (Nat.le_of_ble_eq_true rfl) (Nat.le_of_ble_eq_true rfl) (Nat.le_of_ble_eq_true rfl) d_MD_move_27 (fun v h hq => ?_) (fun _ _ z => nomatch z.1)
        obtain ⟨e1, hM⟩ := hq; cases e1
        refine wk_br C d_MD_move_30 (P := 0 = 0) (tgt := 35) (rest := []) rfl (by decide) (fun c6 => ?_) (fun c6 => ?_)
        ·
          refine wk_run C k_MD_move_35 (pc2 := 37) (lv2 := [(3, .int g), (0, .ref y), (1, .int x), (2, .int g)]) (st2 := []) rfl ?_
          refine Wk.sub (lv2 := [(0, .ref y), (1, .int x), (2, .int g), (3, .int g)]) [1, 2, 3, 0] rfl ?_
          have hc : (¬ x < 1 ∧ x ≤ V 7 0) ∧ (g = 0 ∨ ¬ g < 1 ∧ g ≤ V 7 0) := by clear C hM; grind
          have hg : ok_ g 20 := ok_0g hG hc.2
          have hx : ok_ x 20 := ok_r hc.1.1 hc.1.2 hG (by decide)
          have hx1 := ok_1 hx hc.1.1 (by decide)
          obtain ⟨n, hn⟩ := id hC
          refine wk_ind (σ := Nat × Int32) (hF := fun _ => h) (lvF := fun b => [(0, .ref y), (1, .int x), (2, .int g), (3, .int b.2)]) (fun b => b.1) (fun b => ok_ b.2 20 ∧ cn_ V b.1 (nu b.2) = 0 ∧ (mv_ V (nu x) (nu b.2) ↔ mv_ V (nu x) (nu g))) (fun b hb ih => ?_) (n, g) ⟨hg, hn, Iff.rfl⟩
          obtain ⟨n, b⟩ := b
          obtain ⟨hb, hn, hm⟩ := hb
          replace hb : ok_ b 20 := hb
          replace hn : cn_ V n (nu b) = 0 := hn
          replace hm : mv_ V (nu x) (nu b) ↔ mv_ V (nu x) (nu g) := hm
          show Wk _ _ _ _ _ _ _ _ _ _ _ _ _ _ _ _ _ _ [(0, .ref y), (1, .int x), (2, .int g), (3, .int b)] _
          refine wk_run C k_MD_move_37 (pc2 := 38) (lv2 := [(0, .ref y), (1, .int x), (2, .int g), (3, .int b)]) (st2 := [.int b]) rfl ?_
          refine wk_br C d_MD_move_38 (P := b = 0) (tgt := 56) (rest := []) rfl (by decide) (fun c51 => ?_) (fun c51 => ?_)
          ·
            refine wk_run C k_MD_move_56 (pc2 := 57) (lv2 := [(0, .ref y), (1, .int x), (2, .int g), (3, .int b)]) (st2 := [.int b]) rfl ?_
            refine wk_br C d_MD_move_57 (P := b = 0) (tgt := 62) (rest := []) rfl (by decide) (fun c52 => ?_) (fun c52 => ?_)
            ·
              refine wk_run C k_MD_move_62 (pc2 := 63) (lv2 := [(0, .ref y), (1, .int x), (2, .int g), (3, .int b)]) (st2 := [.ref y]) rfl ?_
              refine wk_get (v := .ref (A 1)) C fd_MD_7 hM.ob rfl d_MD_move_63 ?_
              refine wk_run C k_MD_move_66 (pc2 := 68) (lv2 := [(0, .ref y), (1, .int x), (2, .int g), (3, .int b)]) (st2 := [.int g, .int x, .ref (A 1)]) rfl ?_
              refine wm_st C hM 1 (j := (nu x)) rfl (vi_k hx (by decide) (by decide)) rfl d_MD_move_68 (fun h (hM : mq D h0 h y A (vs (vc (V) 0 0) 1 (upd (V 1) (nu x) g))) => ?_)
              refine wk_run C k_MD_move_69 (pc2 := 70) (lv2 := [(0, .ref y), (1, .int x), (2, .int g), (3, .int b)]) (st2 := [.int 1]) rfl ?_
              exact wk_iret C ⟨0, 1, vs (vc (V) 0 0) 1 (upd (V 1) (nu x) g), sp_m2 hc (fun z => mv_0 hx1 (by have z2 := hm.mpr z; rw [c51] at z2; exact z2)), rfl, hM⟩ (by decide) (by decide) d_MD_move_70
            ·
              exact absurd c51 c52
          ·
            refine wk_run C k_MD_move_41 (pc2 := 43) (lv2 := [(0, .ref y), (1, .int x), (2, .int g), (3, .int b)]) (st2 := [.int x, .int b]) rfl ?_
            refine wk_br C d_MD_move_43 (P := b = x) (tgt := 56) (rest := []) rfl (by decide) (fun c53 => ?_) (fun c53 => ?_)
            ·
              refine wk_run C k_MD_move_56 (pc2 := 57) (lv2 := [(0, .ref y), (1, .int x), (2, .int g), (3, .int b)]) (st2 := [.int b]) rfl ?_
              refine wk_br C d_MD_move_57 (P := b = 0) (tgt := 62) (rest := []) rfl (by decide) (fun c54 => ?_) (fun c54 => ?_)
              ·
                exact absurd c54 c51
              ·
                refine wk_run C k_MD_move_60 (pc2 := 61) (lv2 := [(0, .ref y), (1, .int x), (2, .int g), (3, .int b)]) (st2 := [.int 0]) rfl ?_
                exact wk_iret C ⟨0, 0, vc (V) 0 0, sp_m1 hc (hm.mp ⟨0, by rw [c53]; rfl⟩), rfl, hM⟩ (by decide) (by decide) d_MD_move_61
            ·
              cases n with
              | zero => exact absurd hn (ok_z hb c51)
              | succ n =>
                refine wk_run C k_MD_move_46 (pc2 := 47) (lv2 := [(0, .ref y), (1, .int x), (2, .int g), (3, .int b)]) (st2 := [.ref y]) rfl ?_
                refine wk_get (v := .ref (A 1)) C fd_MD_7 hM.ob rfl d_MD_move_47 ?_
                refine wk_run C k_MD_move_50 (pc2 := 51) (lv2 := [(0, .ref y), (1, .int x), (2, .int g), (3, .int b)]) (st2 := [.int b, .ref (A 1)]) rfl ?_
                refine wm_ld C hM 1 (j := nu b) rfl (vi_k hb (by decide) (by decide)) rfl d_MD_move_51 ?_
                show Wk _ _ _ _ _ _ _ _ _ _ _ _ _ _ _ _ _ _ _ (.int (V 1 (nu b)) :: _)
                refine wk_run C k_MD_move_52 (pc2 := 53) (lv2 := [(3, .int (V 1 (nu b))), (0, .ref y), (1, .int x), (2, .int g)]) (st2 := []) rfl ?_
                refine wk_goto C d_MD_move_53 (tgt := 37) (by decide) ?_
                refine Wk.sub (lv2 := [(0, .ref y), (1, .int x), (2, .int g), (3, .int (V 1 (nu b)))]) [1, 2, 3, 0] rfl ?_
                exact ih (n, V 1 (nu b)) ⟨hA _ hb.2, by rw [cn_s (ok_z hb c51)] at hn; exact hn, (mv_s (ok_z hb c51) (nu_e hb hx c53) hx1).symm.trans hm⟩ (Nat.lt_succ_self n)
        ·
          exact absurd (by decide) c6
      ·
        replace c5 := bz_ (Classical.not_not.mp c5)
        refine wk_run C k_MD_move_21 (pc2 := 22) (lv2 := [(0, .ref y), (1, .int x), (2, .int g)]) (st2 := [.int 1, .ref y]) rfl ?_
        refine wk_goto C d_MD_move_22 (tgt := 26) (by decide) ?_
        refine wk_run C k_MD_move_26 (pc2 := 27) (lv2 := [(0, .ref y), (1, .int x), (2, .int g)]) (st2 := [.int 0, .int 1, .ref y]) rfl ?_
        refine wk_callV (cl := ("ProfileRightsModel", T_MD, 27)) (rest := []) C (c_MD_f1 l D HB h h0 y A (V) hM) cs_MD_88 kc_MD_fails ki_MD hM.ob rfl rfl rfl (Nat.le_of_ble_eq_true rfl) (Nat.le_of_ble_eq_true rfl) (Nat.le_of_ble_eq_true rfl) (Nat.le_of_ble_eq_true rfl) (Nat.le_of_ble_eq_true rfl) d_MD_move_27 (fun v h hq => ?_) (fun _ _ z => nomatch z.1)
        obtain ⟨e1, hM⟩ := hq; cases e1
        refine wk_br C d_MD_move_30 (P := 1 = 0) (tgt := 35) (rest := []) rfl (by decide) (fun c7 => ?_) (fun c7 => ?_)
        ·
          exact absurd c7 (by decide)
        ·
          refine wk_run C k_MD_move_33 (pc2 := 34) (lv2 := [(0, .ref y), (1, .int x), (2, .int g)]) (st2 := [.int 0]) rfl ?_
          exact wk_iret C ⟨1, 0, vc (V) 0 1, by clear C hM hnm; grind [sp_move], rfl, hM⟩ (by decide) (by decide) d_MD_move_34
def cz_ (f : Nat → Int32) : Nat → Int32
  | 0 => 0
  | n + 1 => cz_ f n + (if f (n + 1) = 0 then 0 else 1)
theorem cz_s {f : Nat → Int32} {n : Nat} : cz_ f (n + 1) = cz_ f n + (if f (n + 1) = 0 then 0 else 1) := rfl
def ce_ (f : Nat → Int32) : Nat → Int32
  | 0 => 0
  | n + 1 => ce_ f n + f (n + 1)
def sp_count (V : vT) (x : Int32) : rT := (0, if x = 0 then V 7 0 else if x = 1 then V 8 0 else if x = 2 then V 9 0 else if x = 3 then V 25 0 else if x = 4 then cz_ (V 5) (nu (V 8 0)) else if x = 5 then ce_ (V 16) (nu (V 9 0)) else -1, vc V 0 0)
theorem nI_inj0 {x : Int32} (h1 : ¬ x.toInt < 0) (h2 : ¬ 5 < x.toInt) : x = 0 ∨ x = 1 ∨ x = 2 ∨ x = 3 ∨ x = 4 ∨ x = 5 := by
  have e : ∀ y : Int32, x.toInt = y.toInt → x = y := fun y h => Int32.toInt_inj.mp h
  have : x.toInt = 0 ∨ x.toInt = 1 ∨ x.toInt = 2 ∨ x.toInt = 3 ∨ x.toInt = 4 ∨ x.toInt = 5 := by omega
  rcases this with z | z | z | z | z | z
  · exact Or.inl (e 0 z)
  · exact Or.inr (Or.inl (e 1 z))
  · exact Or.inr (Or.inr (Or.inl (e 2 z)))
  · exact Or.inr (Or.inr (Or.inr (Or.inl (e 3 z))))
  · exact Or.inr (Or.inr (Or.inr (Or.inr (Or.inl (e 4 z)))))
  · exact Or.inr (Or.inr (Or.inr (Or.inr (Or.inr (e 5 z)))))

theorem k_MD_count_0 : px_dec prog_9_method_39_code [.aload_n 0, .iconst 0] 0 = true := by decide +kernel
theorem d_MD_count_2 : decode prog_9_method_39_code 2 = .ok (.putfield 71, 3) := by decide +kernel
theorem k_MD_count_5 : px_dec prog_9_method_39_code [.iconst 0, .istore_n 2, .iload_n 1] 5 = true := by decide +kernel
theorem d_MD_count_8 : decode prog_9_method_39_code 8 = .ok (.tableswitch 122 0 5 #[40, 45, 50, 55, 60, 95], 40) := by decide +kernel
theorem k_MD_count_130 : px_dec prog_9_method_39_code [.iconst (-1)] 130 = true := by decide +kernel
theorem d_MD_count_131 : decode prog_9_method_39_code 131 = .ok (.ireturn, 1) := by decide +kernel
theorem k_MD_count_48 : px_dec prog_9_method_39_code [.aload_n 0] 48 = true := by decide +kernel
theorem d_MD_count_49 : decode prog_9_method_39_code 49 = .ok (.getfield 75, 3) := by decide +kernel
theorem d_MD_count_52 : decode prog_9_method_39_code 52 = .ok (.ireturn, 1) := by decide +kernel
theorem k_MD_count_53 : px_dec prog_9_method_39_code [.aload_n 0] 53 = true := by decide +kernel
theorem d_MD_count_54 : decode prog_9_method_39_code 54 = .ok (.getfield 78, 3) := by decide +kernel
theorem d_MD_count_57 : decode prog_9_method_39_code 57 = .ok (.ireturn, 1) := by decide +kernel
theorem k_MD_count_58 : px_dec prog_9_method_39_code [.aload_n 0] 58 = true := by decide +kernel
theorem d_MD_count_59 : decode prog_9_method_39_code 59 = .ok (.getfield 81, 3) := by decide +kernel
theorem d_MD_count_62 : decode prog_9_method_39_code 62 = .ok (.ireturn, 1) := by decide +kernel
theorem k_MD_count_63 : px_dec prog_9_method_39_code [.aload_n 0] 63 = true := by decide +kernel
theorem d_MD_count_64 : decode prog_9_method_39_code 64 = .ok (.getfield 143, 3) := by decide +kernel
theorem d_MD_count_67 : decode prog_9_method_39_code 67 = .ok (.ireturn, 1) := by decide +kernel
theorem k_MD_count_68 : px_dec prog_9_method_39_code [.iconst 1, .istore_n 3] 68 = true := by decide +kernel
theorem k_MD_count_70 : px_dec prog_9_method_39_code [.iload_n 3, .aload_n 0] 70 = true := by decide +kernel
theorem d_MD_count_72 : decode prog_9_method_39_code 72 = .ok (.getfield 78, 3) := by decide +kernel
theorem d_MD_count_75 : decode prog_9_method_39_code 75 = .ok (.if_icmp .gt 26, 3) := by decide +kernel
theorem k_MD_count_101 : px_dec prog_9_method_39_code [.iload_n 2] 101 = true := by decide +kernel
theorem d_MD_count_102 : decode prog_9_method_39_code 102 = .ok (.ireturn, 1) := by decide +kernel
theorem k_MD_count_78 : px_dec prog_9_method_39_code [.iload_n 2, .aload_n 0] 78 = true := by decide +kernel
theorem d_MD_count_80 : decode prog_9_method_39_code 80 = .ok (.getfield 22, 3) := by decide +kernel
theorem k_MD_count_83 : px_dec prog_9_method_39_code [.iload_n 3] 83 = true := by decide +kernel
theorem d_MD_count_84 : decode prog_9_method_39_code 84 = .ok (.baload, 1) := by decide +kernel
theorem d_MD_count_85 : decode prog_9_method_39_code 85 = .ok (.ifCond .eq 7, 3) := by decide +kernel
theorem k_MD_count_92 : px_dec prog_9_method_39_code [.iconst 0, .iadd, .istore_n 2, .iinc 3 1] 92 = true := by decide +kernel
theorem d_MD_count_98 : decode prog_9_method_39_code 98 = .ok (.goto (-28), 3) := by decide +kernel
theorem k_MD_count_88 : px_dec prog_9_method_39_code [.iconst 1] 88 = true := by decide +kernel
theorem d_MD_count_89 : decode prog_9_method_39_code 89 = .ok (.goto 4, 3) := by decide +kernel
theorem k_MD_count_93 : px_dec prog_9_method_39_code [.iadd, .istore_n 2, .iinc 3 1] 93 = true := by decide +kernel
theorem k_MD_count_103 : px_dec prog_9_method_39_code [.iconst 1, .istore_n 3] 103 = true := by decide +kernel
theorem k_MD_count_105 : px_dec prog_9_method_39_code [.iload_n 3, .aload_n 0] 105 = true := by decide +kernel
theorem d_MD_count_107 : decode prog_9_method_39_code 107 = .ok (.getfield 81, 3) := by decide +kernel
theorem d_MD_count_110 : decode prog_9_method_39_code 110 = .ok (.if_icmp .gt 18, 3) := by decide +kernel
theorem k_MD_count_128 : px_dec prog_9_method_39_code [.iload_n 2] 128 = true := by decide +kernel
theorem d_MD_count_129 : decode prog_9_method_39_code 129 = .ok (.ireturn, 1) := by decide +kernel
theorem k_MD_count_113 : px_dec prog_9_method_39_code [.iload_n 2, .aload_n 0] 113 = true := by decide +kernel
theorem d_MD_count_115 : decode prog_9_method_39_code 115 = .ok (.getfield 47, 3) := by decide +kernel
theorem k_MD_count_118 : px_dec prog_9_method_39_code [.iload_n 3] 118 = true := by decide +kernel
theorem d_MD_count_119 : decode prog_9_method_39_code 119 = .ok (.iaload, 1) := by decide +kernel
theorem k_MD_count_120 : px_dec prog_9_method_39_code [.iadd, .istore_n 2, .iinc 3 1] 120 = true := by decide +kernel
theorem d_MD_count_125 : decode prog_9_method_39_code 125 = .ok (.goto (-20), 3) := by decide +kernel
set_option maxRecDepth 100000 in
set_option maxHeartbeats 4000000 in
theorem c_MD_count (l : Launch) (D : va_G) (HB : Heap) (h : hp_T) (h0 : hp_T) (y : Nat) (A : Nat → Nat) (V : vT) (x : Int32) (hU : ok_ (V 8 0) 40) (hP : ok_ (V 9 0) 60) (hM : mq D h0 h y A V) : ct_M l y_MD_count (.code y_MD_count prog_9_method_39_code 4 (Option.some Jvm.ClassFile.FieldType.int)) ({ frames := 1, cells := 0, slots := 0, locals := 30 }) D HB [.ref y, .int x] h (fun o h2 => ∃ (cd r : Int32) (V2 : vT), sp_count V x = (cd, r, V2) ∧ o = .inl (some (.int r)) ∧ mq D h0 h2 y A V2) := by
  refine ct_of (by decide) (Nat.le_of_ble_eq_true rfl) rfl ?_
  intro p_ e_ s_ m_ r_ b_ t_ c_ C hnm
  refine wk_run C k_MD_count_0 (pc2 := 2) (lv2 := [(0, .ref y), (1, .int x)]) (st2 := [.int 0, .ref y]) rfl ?_
  refine wm_put C hM 0 (by simp [sc_]) fd_MD_71 rfl d_MD_count_2 (fun h (hM : mq D h0 h y A (vc (V) 0 0)) => ?_)
  refine wk_run C k_MD_count_5 (pc2 := 8) (lv2 := [(2, .int 0), (0, .ref y), (1, .int x)]) (st2 := [.int x]) rfl ?_
  by_cases hx : x.toInt < 0 ∨ 5 < x.toInt
  ·
    refine wk_tabO C d_MD_count_8 hx (tgt := 130) (by decide) ?_
    have hne : ¬ x = 0 ∧ ¬ x = 1 ∧ ¬ x = 2 ∧ ¬ x = 3 ∧ ¬ x = 4 ∧ ¬ x = 5 := by refine ⟨?_, ?_, ?_, ?_, ?_, ?_⟩ <;> (intro z; subst z; exact absurd hx (by decide))
    refine wk_run C k_MD_count_130 (pc2 := 131) (lv2 := [(2, .int 0), (0, .ref y), (1, .int x)]) (st2 := [.int (-1)]) rfl ?_
    exact wk_iret C ⟨0, -1, vc (V) 0 0, by clear C hM hnm; grind [sp_count], rfl, hM⟩ (by decide) (by decide) d_MD_count_131
  ·
    rcases nI_inj0 (fun z => hx (Or.inl z)) (fun z => hx (Or.inr z)) with rfl | rfl | rfl | rfl | rfl | rfl
    ·
      refine wk_tabI C d_MD_count_8 (by decide) (by decide) (off := 40) rfl (tgt := 48) (by decide) ?_
      refine wk_run C k_MD_count_48 (pc2 := 49) (lv2 := [(2, .int 0), (0, .ref y), (1, .int 0)]) (st2 := [.ref y]) rfl ?_
      refine wk_get (v := .int (V 7 0)) C fd_MD_75 hM.ob rfl d_MD_count_49 ?_
      exact wk_iret C ⟨0, _, vc (V) 0 0, rfl, rfl, hM⟩ (by decide) (by decide) d_MD_count_52
    ·
      refine wk_tabI C d_MD_count_8 (by decide) (by decide) (off := 45) rfl (tgt := 53) (by decide) ?_
      refine wk_run C k_MD_count_53 (pc2 := 54) (lv2 := [(2, .int 0), (0, .ref y), (1, .int 1)]) (st2 := [.ref y]) rfl ?_
      refine wk_get (v := .int (V 8 0)) C fd_MD_78 hM.ob rfl d_MD_count_54 ?_
      exact wk_iret C ⟨0, _, vc (V) 0 0, rfl, rfl, hM⟩ (by decide) (by decide) d_MD_count_57
    ·
      refine wk_tabI C d_MD_count_8 (by decide) (by decide) (off := 50) rfl (tgt := 58) (by decide) ?_
      refine wk_run C k_MD_count_58 (pc2 := 59) (lv2 := [(2, .int 0), (0, .ref y), (1, .int 2)]) (st2 := [.ref y]) rfl ?_
      refine wk_get (v := .int (V 9 0)) C fd_MD_81 hM.ob rfl d_MD_count_59 ?_
      exact wk_iret C ⟨0, _, vc (V) 0 0, rfl, rfl, hM⟩ (by decide) (by decide) d_MD_count_62
    ·
      refine wk_tabI C d_MD_count_8 (by decide) (by decide) (off := 55) rfl (tgt := 63) (by decide) ?_
      refine wk_run C k_MD_count_63 (pc2 := 64) (lv2 := [(2, .int 0), (0, .ref y), (1, .int 3)]) (st2 := [.ref y]) rfl ?_
      refine wk_get (v := .int (V 25 0)) C fd_MD_143 hM.ob rfl d_MD_count_64 ?_
      exact wk_iret C ⟨0, _, vc (V) 0 0, rfl, rfl, hM⟩ (by decide) (by decide) d_MD_count_67
    ·
      refine wk_tabI C d_MD_count_8 (by decide) (by decide) (off := 60) rfl (tgt := 68) (by decide) ?_
      refine wk_run C k_MD_count_68 (pc2 := 70) (lv2 := [(3, .int 1), (2, .int 0), (0, .ref y), (1, .int 4)]) (st2 := []) rfl ?_
      refine Wk.sub (lv2 := [(0, .ref y), (2, .int 0), (3, .int 1)]) [2, 1, 0] rfl ?_
      have hn := hU.2
      refine wk_ind (σ := Nat) (hF := fun _ => h) (lvF := fun i => [(0, .ref y), (2, .int (cz_ (V 5) i)), (3, .int (nI (i + 1)))]) (fun i => nu (V 8 0) - i) (fun i => i ≤ nu (V 8 0)) (fun i hi ih => ?_) 0 (Nat.zero_le _)
      show Wk _ _ _ _ _ _ _ _ _ _ _ _ _ _ _ _ _ _ [(0, .ref y), (2, .int (cz_ (V 5) i)), (3, .int (nI (i + 1)))] _
      refine wk_run C k_MD_count_70 (pc2 := 72) (lv2 := [(0, .ref y), (2, .int (cz_ (V 5) i)), (3, .int (nI (i + 1)))]) (st2 := [.ref y, .int (nI (i + 1))]) rfl ?_
      refine wk_get (v := .int (V 8 0)) C fd_MD_78 hM.ob rfl d_MD_count_72 ?_
      refine wk_br C d_MD_count_75 (P := (V 8 0) < (nI (i + 1))) (tgt := 101) (rest := []) rfl (by decide) (fun c41 => ?_) (fun c41 => ?_)
      ·
        have hie : i = nu (V 8 0) := by have := c41; rw [hU.1, nI_ltI (by omega) (by omega)] at this; omega
        refine wk_run C k_MD_count_101 (pc2 := 102) (lv2 := [(0, .ref y), (2, .int (cz_ (V 5) i)), (3, .int (nI (i + 1)))]) (st2 := [.int (cz_ (V 5) i)]) rfl ?_
        rw [hie]
        exact wk_iret C ⟨0, _, vc (V) 0 0, rfl, rfl, hM⟩ (by decide) (by decide) d_MD_count_102
      ·
        have hlt : i < nu (V 8 0) := by rcases Nat.lt_or_ge i (nu (V 8 0)) with z | z; exact z; exact absurd (by rw [hU.1]; exact nI_lt (by omega) (by omega)) c41
        refine wk_run C k_MD_count_78 (pc2 := 80) (lv2 := [(0, .ref y), (2, .int (cz_ (V 5) i)), (3, .int (nI (i + 1)))]) (st2 := [.ref y, .int (cz_ (V 5) i)]) rfl ?_
        refine wk_get (v := .ref (A 5)) C fd_MD_22 hM.ob rfl d_MD_count_80 ?_
        refine wk_run C k_MD_count_83 (pc2 := 84) (lv2 := [(0, .ref y), (2, .int (cz_ (V 5) i)), (3, .int (nI (i + 1)))]) (st2 := [.int (nI (i + 1)), .ref (A 5), .int (cz_ (V 5) i)]) rfl ?_
        refine wm_ldz C hM 5 (j := i + 1) rfl (nI_in (c := i + 1) (by omega) (by decide)) (nu_nI (by omega)) d_MD_count_84 ?_
        show Wk _ _ _ _ _ _ _ _ _ _ _ _ _ _ _ _ _ _ _ (.int (V 5 (i + 1)) :: _)
        refine wk_br C d_MD_count_85 (P := (V 5 (i + 1)) = 0) (tgt := 92) (rest := [.int (cz_ (V 5) i)]) rfl (by decide) (fun c42 => ?_) (fun c42 => ?_)
        ·
          refine wk_run C k_MD_count_92 (pc2 := 98) (lv2 := [(3, .int ((nI (i + 1)) + 1)), (2, .int ((cz_ (V 5) i) + 0)), (0, .ref y)]) (st2 := []) rfl ?_
          refine wk_goto C d_MD_count_98 (tgt := 70) (by decide) ?_
          refine Wk.sub (lv2 := [(0, .ref y), (2, .int ((cz_ (V 5) i) + 0)), (3, .int ((nI (i + 1)) + 1))]) [2, 1, 0] rfl ?_
          rw [nI_1]
          exact (show cz_ (V 5) i + 0 = cz_ (V 5) (i + 1) by rw [cz_s, if_pos (by assumption)]) ▸ ih (i + 1) hlt (by omega)
        ·
          refine wk_run C k_MD_count_88 (pc2 := 89) (lv2 := [(0, .ref y), (2, .int (cz_ (V 5) i)), (3, .int (nI (i + 1)))]) (st2 := [.int 1, .int (cz_ (V 5) i)]) rfl ?_
          refine wk_goto C d_MD_count_89 (tgt := 93) (by decide) ?_
          refine wk_run C k_MD_count_93 (pc2 := 98) (lv2 := [(3, .int ((nI (i + 1)) + 1)), (2, .int ((cz_ (V 5) i) + 1)), (0, .ref y)]) (st2 := []) rfl ?_
          refine wk_goto C d_MD_count_98 (tgt := 70) (by decide) ?_
          refine Wk.sub (lv2 := [(0, .ref y), (2, .int ((cz_ (V 5) i) + 1)), (3, .int ((nI (i + 1)) + 1))]) [2, 1, 0] rfl ?_
          rw [nI_1]
          exact (show cz_ (V 5) i + 1 = cz_ (V 5) (i + 1) by rw [cz_s, if_neg (by assumption)]) ▸ ih (i + 1) hlt (by omega)
    ·
      refine wk_tabI C d_MD_count_8 (by decide) (by decide) (off := 95) rfl (tgt := 103) (by decide) ?_
      refine wk_run C k_MD_count_103 (pc2 := 105) (lv2 := [(3, .int 1), (2, .int 0), (0, .ref y), (1, .int 5)]) (st2 := []) rfl ?_
      refine Wk.sub (lv2 := [(0, .ref y), (2, .int 0), (3, .int 1)]) [2, 1, 0] rfl ?_
      have hn := hP.2
      refine wk_ind (σ := Nat) (hF := fun _ => h) (lvF := fun i => [(0, .ref y), (2, .int (ce_ (V 16) i)), (3, .int (nI (i + 1)))]) (fun i => nu (V 9 0) - i) (fun i => i ≤ nu (V 9 0)) (fun i hi ih => ?_) 0 (Nat.zero_le _)
      show Wk _ _ _ _ _ _ _ _ _ _ _ _ _ _ _ _ _ _ [(0, .ref y), (2, .int (ce_ (V 16) i)), (3, .int (nI (i + 1)))] _
      refine wk_run C k_MD_count_105 (pc2 := 107) (lv2 := [(0, .ref y), (2, .int (ce_ (V 16) i)), (3, .int (nI (i + 1)))]) (st2 := [.ref y, .int (nI (i + 1))]) rfl ?_
      refine wk_get (v := .int (V 9 0)) C fd_MD_81 hM.ob rfl d_MD_count_107 ?_
      refine wk_br C d_MD_count_110 (P := (V 9 0) < (nI (i + 1))) (tgt := 128) (rest := []) rfl (by decide) (fun c51 => ?_) (fun c51 => ?_)
      ·
        have hie : i = nu (V 9 0) := by have := c51; rw [hP.1, nI_ltI (by omega) (by omega)] at this; omega
        refine wk_run C k_MD_count_128 (pc2 := 129) (lv2 := [(0, .ref y), (2, .int (ce_ (V 16) i)), (3, .int (nI (i + 1)))]) (st2 := [.int (ce_ (V 16) i)]) rfl ?_
        rw [hie]
        exact wk_iret C ⟨0, _, vc (V) 0 0, rfl, rfl, hM⟩ (by decide) (by decide) d_MD_count_129
      ·
        have hlt : i < nu (V 9 0) := by rcases Nat.lt_or_ge i (nu (V 9 0)) with z | z; exact z; exact absurd (by rw [hP.1]; exact nI_lt (by omega) (by omega)) c51
        refine wk_run C k_MD_count_113 (pc2 := 115) (lv2 := [(0, .ref y), (2, .int (ce_ (V 16) i)), (3, .int (nI (i + 1)))]) (st2 := [.ref y, .int (ce_ (V 16) i)]) rfl ?_
        refine wk_get (v := .ref (A 16)) C fd_MD_47 hM.ob rfl d_MD_count_115 ?_
        refine wk_run C k_MD_count_118 (pc2 := 119) (lv2 := [(0, .ref y), (2, .int (ce_ (V 16) i)), (3, .int (nI (i + 1)))]) (st2 := [.int (nI (i + 1)), .ref (A 16), .int (ce_ (V 16) i)]) rfl ?_
        refine wm_ld C hM 16 (j := i + 1) rfl (nI_in (c := i + 1) (by omega) (by decide)) (nu_nI (by omega)) d_MD_count_119 ?_
        show Wk _ _ _ _ _ _ _ _ _ _ _ _ _ _ _ _ _ _ _ (.int (V 16 (i + 1)) :: _)
        refine wk_run C k_MD_count_120 (pc2 := 125) (lv2 := [(3, .int ((nI (i + 1)) + 1)), (2, .int ((ce_ (V 16) i) + (V 16 (i + 1)))), (0, .ref y)]) (st2 := []) rfl ?_
        refine wk_goto C d_MD_count_125 (tgt := 105) (by decide) ?_
        refine Wk.sub (lv2 := [(0, .ref y), (2, .int ((ce_ (V 16) i) + (V 16 (i + 1)))), (3, .int ((nI (i + 1)) + 1))]) [2, 1, 0] rfl ?_
        rw [nI_1]
        exact ih (i + 1) hlt (by omega)
