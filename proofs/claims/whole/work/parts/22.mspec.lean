/-- how special: 100 where no character is wild -/
noncomputable def sv_ (f : Nat → Int32) (b : Int32) (i : Nat) : Nat := if b = 0 then nm_s f i else nm_a f i
noncomputable def sp_ (f : Nat → Int32) (b : Int32) (n : Nat) : Int32 := if nm_s f n = n then 100 else nI (sv_ f b n)
theorem sv_0 (f : Nat → Int32) (b : Int32) : sv_ f b 0 = 0 := by unfold sv_; split <;> rfl
theorem nm_s1 (f : Nat → Int32) (n : Nat) : nm_s f (n + 1) = nm_s f n + (if f n = 37 ∨ f n = 42 then 0 else 1) := rfl
theorem nm_a1 (f : Nat → Int32) (n : Nat) : nm_a f (n + 1) = nm_a f n + (if f n = 37 ∨ f n = 42 then 0 else if nm_s f n = n then 1 else 0) := rfl

section LV
variable {p : Program} {l : Launch} {e : Env} {R : Room} {s : State} {m : MethodId} {args : Array Value} {below : List Frame} {meth : Method} {c : Code} {Q : State → Prop} {nL : Nat} {D : va_G} {HB : Heap} {cells slots pc : Nat} {st : List Value} {h : hp_T} {lv lv2 : List (Nat × Value)}
theorem Wk.lve (e1 : lv = lv2) (k : Wk p l e R s m args below meth c nL D HB Q h cells slots pc lv2 st) : Wk p l e R s m args below meth c nL D HB Q h cells slots pc lv st := e1 ▸ k
end LV
theorem k_MD_special_0 : px_dec prog_9_method_30_code [.iconst 0, .istore_n 3, .iconst 0, .istore 4, .iconst 0, .istore 5] 0 = true := by decide +kernel
theorem k_MD_special_8 : px_dec prog_9_method_30_code [.iload 5, .aload_n 0] 8 = true := by decide +kernel
theorem d_MD_special_11 : decode prog_9_method_30_code 11 = .ok (.getfield 38, 3) := by decide +kernel
theorem k_MD_special_14 : px_dec prog_9_method_30_code [.iload_n 1] 14 = true := by decide +kernel
theorem d_MD_special_15 : decode prog_9_method_30_code 15 = .ok (.iaload, 1) := by decide +kernel
theorem d_MD_special_16 : decode prog_9_method_30_code 16 = .ok (.if_icmp .ge 76, 3) := by decide +kernel
theorem k_MD_special_92 : px_dec prog_9_method_30_code [.iload 4] 92 = true := by decide +kernel
theorem d_MD_special_94 : decode prog_9_method_30_code 94 = .ok (.ifCond .eq 7, 3) := by decide +kernel
theorem k_MD_special_101 : px_dec prog_9_method_30_code [.bipush 100] 101 = true := by decide +kernel
theorem d_MD_special_103 : decode prog_9_method_30_code 103 = .ok (.ireturn, 1) := by decide +kernel
theorem k_MD_special_97 : px_dec prog_9_method_30_code [.iload_n 3] 97 = true := by decide +kernel
theorem d_MD_special_98 : decode prog_9_method_30_code 98 = .ok (.goto 5, 3) := by decide +kernel
theorem k_MD_special_19 : px_dec prog_9_method_30_code [.aload_n 0] 19 = true := by decide +kernel
theorem d_MD_special_20 : decode prog_9_method_30_code 20 = .ok (.getfield 35, 3) := by decide +kernel
theorem k_MD_special_23 : px_dec prog_9_method_30_code [.bipush 20, .iload_n 1, .imul, .iload 5, .iadd] 23 = true := by decide +kernel
theorem d_MD_special_30 : decode prog_9_method_30_code 30 = .ok (.iaload, 1) := by decide +kernel
theorem k_MD_special_31 : px_dec prog_9_method_30_code [.istore 6, .iload 4] 31 = true := by decide +kernel
theorem d_MD_special_35 : decode prog_9_method_30_code 35 = .ok (.ifCond .ne 11, 3) := by decide +kernel
theorem k_MD_special_46 : px_dec prog_9_method_30_code [.iconst 1] 46 = true := by decide +kernel
theorem d_MD_special_47 : decode prog_9_method_30_code 47 = .ok (.goto 4, 3) := by decide +kernel
theorem k_MD_special_51 : px_dec prog_9_method_30_code [.istore 4, .iload_n 3, .iload_n 2] 51 = true := by decide +kernel
theorem d_MD_special_55 : decode prog_9_method_30_code 55 = .ok (.ifCond .eq 16, 3) := by decide +kernel
theorem k_MD_special_71 : px_dec prog_9_method_30_code [.iload 6] 71 = true := by decide +kernel
theorem d_MD_special_73 : decode prog_9_method_30_code 73 = .ok (.invokestatic 118, 3) := by decide +kernel
theorem d_MD_special_76 : decode prog_9_method_30_code 76 = .ok (.ifCond .eq 7, 3) := by decide +kernel
theorem k_MD_special_83 : px_dec prog_9_method_30_code [.iconst 1, .iadd, .istore_n 3, .iinc 5 1] 83 = true := by decide +kernel
theorem d_MD_special_89 : decode prog_9_method_30_code 89 = .ok (.goto (-81), 3) := by decide +kernel
theorem k_MD_special_79 : px_dec prog_9_method_30_code [.iconst 0] 79 = true := by decide +kernel
theorem d_MD_special_80 : decode prog_9_method_30_code 80 = .ok (.goto 4, 3) := by decide +kernel
theorem k_MD_special_84 : px_dec prog_9_method_30_code [.iadd, .istore_n 3, .iinc 5 1] 84 = true := by decide +kernel
theorem k_MD_special_58 : px_dec prog_9_method_30_code [.iload 4] 58 = true := by decide +kernel
theorem d_MD_special_60 : decode prog_9_method_30_code 60 = .ok (.ifCond .eq 7, 3) := by decide +kernel
theorem k_MD_special_63 : px_dec prog_9_method_30_code [.iconst 0] 63 = true := by decide +kernel
theorem d_MD_special_64 : decode prog_9_method_30_code 64 = .ok (.goto 20, 3) := by decide +kernel
theorem k_MD_special_38 : px_dec prog_9_method_30_code [.iload 6] 38 = true := by decide +kernel
theorem d_MD_special_40 : decode prog_9_method_30_code 40 = .ok (.invokestatic 118, 3) := by decide +kernel
theorem d_MD_special_43 : decode prog_9_method_30_code 43 = .ok (.ifCond .eq 7, 3) := by decide +kernel
theorem k_MD_special_50 : px_dec prog_9_method_30_code [.iconst 0, .istore 4, .iload_n 3, .iload_n 2] 50 = true := by decide +kernel
theorem k_MD_special_67 : px_dec prog_9_method_30_code [.iconst 1] 67 = true := by decide +kernel
theorem d_MD_special_68 : decode prog_9_method_30_code 68 = .ok (.goto 16, 3) := by decide +kernel
set_option maxRecDepth 100000 in
set_option maxHeartbeats 4000000 in
theorem c_MD_special (l : Launch) (D : va_G) (HB : Heap) (h : hp_T) (h0 : hp_T) (y : Nat) (A : Nat → Nat) (V : vT) (p b : Int32) (hp : ok_ p 60) (hL : ok_ (V 13 (nu p)) 20) (hM : mq D h0 h y A V) : ct_M l y_MD_special (.code y_MD_special prog_9_method_30_code 7 (Option.some Jvm.ClassFile.FieldType.int)) ({ frames := 1, cells := 0, slots := 0, locals := 30 }) D HB [.ref y, .int p, .int b] h (fun o h2 => o = .inl (some (.int (sp_ (fun k => V 12 (20 * nu p + k)) b (nu (V 13 (nu p)))))) ∧ h2 = h) := by
  refine ct_of (by decide) (Nat.le_of_ble_eq_true rfl) rfl ?_
  intro p_ e_ s_ m_ r_ b_ t_ c_ C hnm
  refine wk_run C k_MD_special_0 (pc2 := 8) (lv2 := [(5, .int 0), (4, .int 0), (3, .int 0), (0, .ref y), (1, .int p), (2, .int b)]) (st2 := []) rfl ?_
  refine Wk.sub (lv2 := [(0, .ref y), (1, .int p), (2, .int b), (3, .int 0), (4, .int 0), (5, .int 0)]) [3, 4, 5, 2, 1, 0] rfl ?_
  have hL2 := hL.2
  obtain ⟨f, hf⟩ : ∃ f : Nat → Int32, f = (fun k => V 12 (20 * nu p + k)) := ⟨_, rfl⟩
  rw [← hf]
  refine Wk.lve (lv2 := [(0, .ref y), (1, .int p), (2, .int b), (3, .int (nI (sv_ f b 0))), (4, .int (if nm_s f 0 = 0 then (0 : Int32) else 1)), (5, .int (nI 0))]) (by rw [sv_0, if_pos (show nm_s f 0 = 0 from rfl)]; rfl) ?_
  refine wk_ind (σ := Nat) (hF := fun _ => h) (lvF := fun i => [(0, .ref y), (1, .int p), (2, .int b), (3, .int (nI (sv_ f b i))), (4, .int (if nm_s f i = i then (0 : Int32) else 1)), (5, .int (nI i))]) (fun i => nu (V 13 (nu p)) - i) (fun i => i ≤ nu (V 13 (nu p))) (fun i hi ih => ?_) 0 (Nat.zero_le _)
  obtain ⟨wl, hwl⟩ : ∃ wl : Int32, wl = if nm_s f i = i then (0 : Int32) else 1 := ⟨_, rfl⟩
  show Wk _ _ _ _ _ _ _ _ _ _ _ _ _ _ _ _ _ _ [(0, .ref y), (1, .int p), (2, .int b), (3, .int (nI (sv_ f b i))), (4, .int (if nm_s f i = i then (0 : Int32) else 1)), (5, .int (nI i))] _
  rw [← hwl]
  refine wk_run C k_MD_special_8 (pc2 := 11) (lv2 := [(0, .ref y), (1, .int p), (2, .int b), (3, .int (nI (sv_ f b i))), (4, .int wl), (5, .int (nI i))]) (st2 := [.ref y, .int (nI i)]) rfl ?_
  refine wk_get (v := .ref (A 13)) C fd_MD_38 hM.ob rfl d_MD_special_11 ?_
  refine wk_run C k_MD_special_14 (pc2 := 15) (lv2 := [(0, .ref y), (1, .int p), (2, .int b), (3, .int (nI (sv_ f b i))), (4, .int wl), (5, .int (nI i))]) (st2 := [.int p, .ref (A 13), .int (nI i)]) rfl ?_
  refine wm_ld C hM 13 (j := nu p) rfl (vi_k hp (by decide) (by decide)) rfl d_MD_special_15 ?_
  show Wk _ _ _ _ _ _ _ _ _ _ _ _ _ _ _ _ _ _ _ (.int (V 13 (nu p)) :: _)
  refine wk_br C d_MD_special_16 (P := (V 13 (nu p)) ≤ (nI i)) (tgt := 92) (rest := []) rfl (by decide) (fun c1 => ?_) (fun c1 => ?_)
  ·
    have hie : i = nu (V 13 (nu p)) := by have := c1; rw [hL.1, nI_leI (by omega) (by omega)] at this; omega
    refine wk_run C k_MD_special_92 (pc2 := 94) (lv2 := [(0, .ref y), (1, .int p), (2, .int b), (3, .int (nI (sv_ f b i))), (4, .int wl), (5, .int (nI i))]) (st2 := [.int wl]) rfl ?_
    refine wk_br C d_MD_special_94 (P := wl = 0) (tgt := 101) (rest := []) rfl (by decide) (fun c2 => ?_) (fun c2 => ?_)
    ·
      refine wk_run C k_MD_special_101 (pc2 := 103) (lv2 := [(0, .ref y), (1, .int p), (2, .int b), (3, .int (nI (sv_ f b i))), (4, .int wl), (5, .int (nI i))]) (st2 := [.int 100]) rfl ?_
      exact wk_iret C ⟨by rw [← hie]; unfold sp_; clear C hM; grind, rfl⟩ (by decide) (by decide) d_MD_special_103
    ·
      refine wk_run C k_MD_special_97 (pc2 := 98) (lv2 := [(0, .ref y), (1, .int p), (2, .int b), (3, .int (nI (sv_ f b i))), (4, .int wl), (5, .int (nI i))]) (st2 := [.int (nI (sv_ f b i))]) rfl ?_
      refine wk_goto C d_MD_special_98 (tgt := 103) (by decide) ?_
      exact wk_iret C ⟨by rw [← hie]; unfold sp_; clear C hM; grind, rfl⟩ (by decide) (by decide) d_MD_special_103
  ·
    have hlt : i < nu (V 13 (nu p)) := by rcases Nat.lt_or_ge i (nu (V 13 (nu p))) with z | z; exact z; exact absurd (by rw [hL.1]; exact nI_le z (by omega)) c1
    have hfi : V 12 (20 * nu p + i) = f i := by rw [hf]
    refine wk_run C k_MD_special_19 (pc2 := 20) (lv2 := [(0, .ref y), (1, .int p), (2, .int b), (3, .int (nI (sv_ f b i))), (4, .int wl), (5, .int (nI i))]) (st2 := [.ref y]) rfl ?_
    refine wk_get (v := .ref (A 12)) C fd_MD_35 hM.ob rfl d_MD_special_20 ?_
    refine wk_run C k_MD_special_23 (pc2 := 30) (lv2 := [(0, .ref y), (1, .int p), (2, .int b), (3, .int (nI (sv_ f b i))), (4, .int wl), (5, .int (nI i))]) (st2 := [.int ((20 * p) + (nI i)), .ref (A 12)]) rfl ?_
    refine wm_ld C hM 12 (j := 20 * nu p + i) rfl (nx_ (k := 20) (m := 60) (n := 19) (N := 1220) hp (ok_nI (m := i) (n := 19) (by omega) (by decide)) (by decide) (by decide)).1 ((nx_ (k := 20) (m := 60) (n := 19) (N := 1220) hp (ok_nI (m := i) (n := 19) (by omega) (by decide)) (by decide) (by decide)).2.trans (by rw [nu_nI (by omega)])) d_MD_special_30 ?_
    show Wk _ _ _ _ _ _ _ _ _ _ _ _ _ _ _ _ _ _ _ (.int (V 12 (20 * nu p + i)) :: _)
    refine wk_run C k_MD_special_31 (pc2 := 35) (lv2 := [(6, .int (V 12 (20 * nu p + i))), (0, .ref y), (1, .int p), (2, .int b), (3, .int (nI (sv_ f b i))), (4, .int wl), (5, .int (nI i))]) (st2 := [.int wl]) rfl ?_
    refine wk_br C d_MD_special_35 (P := ¬ wl = 0) (tgt := 46) (rest := []) rfl (by decide) (fun c3 => ?_) (fun c3 => ?_)
    ·
      refine wk_run C k_MD_special_46 (pc2 := 47) (lv2 := [(6, .int (V 12 (20 * nu p + i))), (0, .ref y), (1, .int p), (2, .int b), (3, .int (nI (sv_ f b i))), (4, .int wl), (5, .int (nI i))]) (st2 := [.int 1]) rfl ?_
      refine wk_goto C d_MD_special_47 (tgt := 51) (by decide) ?_
      refine wk_run C k_MD_special_51 (pc2 := 55) (lv2 := [(4, .int 1), (6, .int (V 12 (20 * nu p + i))), (0, .ref y), (1, .int p), (2, .int b), (3, .int (nI (sv_ f b i))), (5, .int (nI i))]) (st2 := [.int b, .int (nI (sv_ f b i))]) rfl ?_
      refine wk_br C d_MD_special_55 (P := b = 0) (tgt := 71) (rest := [.int (nI (sv_ f b i))]) rfl (by decide) (fun c4 => ?_) (fun c4 => ?_)
      ·
        refine wk_run C k_MD_special_71 (pc2 := 73) (lv2 := [(4, .int 1), (6, .int (V 12 (20 * nu p + i))), (0, .ref y), (1, .int p), (2, .int b), (3, .int (nI (sv_ f b i))), (5, .int (nI i))]) (st2 := [.int (V 12 (20 * nu p + i)), .int (nI (sv_ f b i))]) rfl ?_
        refine wk_callS (rest := [.int (nI (sv_ f b i))]) C (c_MD_isWild l D HB h (V 12 (20 * nu p + i))) cs_MD_118 kc_MD_isWild ki_MD rfl rfl (Nat.le_of_ble_eq_true rfl) (Nat.le_of_ble_eq_true rfl) (Nat.le_of_ble_eq_true rfl) (Nat.le_of_ble_eq_true rfl) (Nat.le_of_ble_eq_true rfl) d_MD_special_73 (fun v h2 hq => ?_) (fun _ _ z => nomatch z.1)
        obtain ⟨e1, e2⟩ := hq; cases e1; replace e2 := e2.symm; subst e2
        refine wk_br C d_MD_special_76 (P := (if (V 12 (20 * nu p + i)) = 37 ∨ (V 12 (20 * nu p + i)) = 42 then (1 : Int32) else 0) = 0) (tgt := 83) (rest := [.int (nI (sv_ f b i))]) rfl (by decide) (fun c5 => ?_) (fun c5 => ?_)
        ·
          replace c5 := bz_ c5
          refine wk_run C k_MD_special_83 (pc2 := 89) (lv2 := [(5, .int ((nI i) + 1)), (3, .int ((nI (sv_ f b i)) + 1)), (4, .int 1), (6, .int (V 12 (20 * nu p + i))), (0, .ref y), (1, .int p), (2, .int b)]) (st2 := []) rfl ?_
          refine wk_goto C d_MD_special_89 (tgt := 8) (by decide) ?_
          refine Wk.sub (lv2 := [(0, .ref y), (1, .int p), (2, .int b), (3, .int ((nI (sv_ f b i)) + 1)), (4, .int 1), (5, .int ((nI i) + 1))]) [4, 5, 6, 1, 2, 0] rfl ?_
          have hs := nm_s_le f i
          have hs1 := nm_s1 f i
          have ha1 := nm_a1 f i
          have e1 : nI (sv_ f b i) + 1 = nI (sv_ f b (i + 1)) := by rw [show sv_ f b (i + 1) = sv_ f b i + 1 by (clear C hM ih; unfold sv_; grind)]; exact nI_1 _
          have e2 : (1 : Int32) = if nm_s f (i + 1) = i + 1 then 0 else 1 := by clear C hM ih e1; grind
          rw [e1, nI_1]
          refine Wk.lve (lv2 := [(0, .ref y), (1, .int p), (2, .int b), (3, .int (nI (sv_ f b (i + 1)))), (4, .int (if nm_s f (i + 1) = i + 1 then (0 : Int32) else 1)), (5, .int (nI (i + 1)))]) (by rw [← e2]) (ih (i + 1) hlt (by omega))
        ·
          replace c5 := bn_ c5
          refine wk_run C k_MD_special_79 (pc2 := 80) (lv2 := [(4, .int 1), (6, .int (V 12 (20 * nu p + i))), (0, .ref y), (1, .int p), (2, .int b), (3, .int (nI (sv_ f b i))), (5, .int (nI i))]) (st2 := [.int 0, .int (nI (sv_ f b i))]) rfl ?_
          refine wk_goto C d_MD_special_80 (tgt := 84) (by decide) ?_
          refine wk_run C k_MD_special_84 (pc2 := 89) (lv2 := [(5, .int ((nI i) + 1)), (3, .int ((nI (sv_ f b i)) + 0)), (4, .int 1), (6, .int (V 12 (20 * nu p + i))), (0, .ref y), (1, .int p), (2, .int b)]) (st2 := []) rfl ?_
          refine wk_goto C d_MD_special_89 (tgt := 8) (by decide) ?_
          refine Wk.sub (lv2 := [(0, .ref y), (1, .int p), (2, .int b), (3, .int ((nI (sv_ f b i)) + 0)), (4, .int 1), (5, .int ((nI i) + 1))]) [4, 5, 6, 1, 2, 0] rfl ?_
          have hs := nm_s_le f i
          have hs1 := nm_s1 f i
          have ha1 := nm_a1 f i
          have e1 : nI (sv_ f b i) + 0 = nI (sv_ f b (i + 1)) := by rw [show sv_ f b (i + 1) = sv_ f b i + 0 by (clear C hM ih; unfold sv_; grind)]; exact Int32.add_zero _
          have e2 : (1 : Int32) = if nm_s f (i + 1) = i + 1 then 0 else 1 := by clear C hM ih e1; grind
          rw [e1, nI_1]
          refine Wk.lve (lv2 := [(0, .ref y), (1, .int p), (2, .int b), (3, .int (nI (sv_ f b (i + 1)))), (4, .int (if nm_s f (i + 1) = i + 1 then (0 : Int32) else 1)), (5, .int (nI (i + 1)))]) (by rw [← e2]) (ih (i + 1) hlt (by omega))
      ·
        refine wk_run C k_MD_special_58 (pc2 := 60) (lv2 := [(4, .int 1), (6, .int (V 12 (20 * nu p + i))), (0, .ref y), (1, .int p), (2, .int b), (3, .int (nI (sv_ f b i))), (5, .int (nI i))]) (st2 := [.int 1, .int (nI (sv_ f b i))]) rfl ?_
        refine wk_br C d_MD_special_60 (P := 1 = 0) (tgt := 67) (rest := [.int (nI (sv_ f b i))]) rfl (by decide) (fun c6 => ?_) (fun c6 => ?_)
        ·
          exact absurd c6 (by decide)
        ·
          refine wk_run C k_MD_special_63 (pc2 := 64) (lv2 := [(4, .int 1), (6, .int (V 12 (20 * nu p + i))), (0, .ref y), (1, .int p), (2, .int b), (3, .int (nI (sv_ f b i))), (5, .int (nI i))]) (st2 := [.int 0, .int (nI (sv_ f b i))]) rfl ?_
          refine wk_goto C d_MD_special_64 (tgt := 84) (by decide) ?_
          refine wk_run C k_MD_special_84 (pc2 := 89) (lv2 := [(5, .int ((nI i) + 1)), (3, .int ((nI (sv_ f b i)) + 0)), (4, .int 1), (6, .int (V 12 (20 * nu p + i))), (0, .ref y), (1, .int p), (2, .int b)]) (st2 := []) rfl ?_
          refine wk_goto C d_MD_special_89 (tgt := 8) (by decide) ?_
          refine Wk.sub (lv2 := [(0, .ref y), (1, .int p), (2, .int b), (3, .int ((nI (sv_ f b i)) + 0)), (4, .int 1), (5, .int ((nI i) + 1))]) [4, 5, 6, 1, 2, 0] rfl ?_
          have hs := nm_s_le f i
          have hs1 := nm_s1 f i
          have ha1 := nm_a1 f i
          have e1 : nI (sv_ f b i) + 0 = nI (sv_ f b (i + 1)) := by rw [show sv_ f b (i + 1) = sv_ f b i + 0 by (clear C hM ih; unfold sv_; grind)]; exact Int32.add_zero _
          have e2 : (1 : Int32) = if nm_s f (i + 1) = i + 1 then 0 else 1 := by clear C hM ih e1; grind
          rw [e1, nI_1]
          refine Wk.lve (lv2 := [(0, .ref y), (1, .int p), (2, .int b), (3, .int (nI (sv_ f b (i + 1)))), (4, .int (if nm_s f (i + 1) = i + 1 then (0 : Int32) else 1)), (5, .int (nI (i + 1)))]) (by rw [← e2]) (ih (i + 1) hlt (by omega))
    ·
      refine wk_run C k_MD_special_38 (pc2 := 40) (lv2 := [(6, .int (V 12 (20 * nu p + i))), (0, .ref y), (1, .int p), (2, .int b), (3, .int (nI (sv_ f b i))), (4, .int wl), (5, .int (nI i))]) (st2 := [.int (V 12 (20 * nu p + i))]) rfl ?_
      refine wk_callS (rest := []) C (c_MD_isWild l D HB h (V 12 (20 * nu p + i))) cs_MD_118 kc_MD_isWild ki_MD rfl rfl (Nat.le_of_ble_eq_true rfl) (Nat.le_of_ble_eq_true rfl) (Nat.le_of_ble_eq_true rfl) (Nat.le_of_ble_eq_true rfl) (Nat.le_of_ble_eq_true rfl) d_MD_special_40 (fun v h2 hq => ?_) (fun _ _ z => nomatch z.1)
      obtain ⟨e1, e2⟩ := hq; cases e1; replace e2 := e2.symm; subst e2
      refine wk_br C d_MD_special_43 (P := (if (V 12 (20 * nu p + i)) = 37 ∨ (V 12 (20 * nu p + i)) = 42 then (1 : Int32) else 0) = 0) (tgt := 50) (rest := []) rfl (by decide) (fun c7 => ?_) (fun c7 => ?_)
      ·
        replace c7 := bz_ c7
        refine wk_run C k_MD_special_50 (pc2 := 55) (lv2 := [(4, .int 0), (6, .int (V 12 (20 * nu p + i))), (0, .ref y), (1, .int p), (2, .int b), (3, .int (nI (sv_ f b i))), (5, .int (nI i))]) (st2 := [.int b, .int (nI (sv_ f b i))]) rfl ?_
        refine wk_br C d_MD_special_55 (P := b = 0) (tgt := 71) (rest := [.int (nI (sv_ f b i))]) rfl (by decide) (fun c8 => ?_) (fun c8 => ?_)
        ·
          refine wk_run C k_MD_special_71 (pc2 := 73) (lv2 := [(4, .int 0), (6, .int (V 12 (20 * nu p + i))), (0, .ref y), (1, .int p), (2, .int b), (3, .int (nI (sv_ f b i))), (5, .int (nI i))]) (st2 := [.int (V 12 (20 * nu p + i)), .int (nI (sv_ f b i))]) rfl ?_
          refine wk_callS (rest := [.int (nI (sv_ f b i))]) C (c_MD_isWild l D HB h (V 12 (20 * nu p + i))) cs_MD_118 kc_MD_isWild ki_MD rfl rfl (Nat.le_of_ble_eq_true rfl) (Nat.le_of_ble_eq_true rfl) (Nat.le_of_ble_eq_true rfl) (Nat.le_of_ble_eq_true rfl) (Nat.le_of_ble_eq_true rfl) d_MD_special_73 (fun v h2 hq => ?_) (fun _ _ z => nomatch z.1)
          obtain ⟨e1, e2⟩ := hq; cases e1; replace e2 := e2.symm; subst e2
          refine wk_br C d_MD_special_76 (P := (if (V 12 (20 * nu p + i)) = 37 ∨ (V 12 (20 * nu p + i)) = 42 then (1 : Int32) else 0) = 0) (tgt := 83) (rest := [.int (nI (sv_ f b i))]) rfl (by decide) (fun c9 => ?_) (fun c9 => ?_)
          ·
            replace c9 := bz_ c9
            refine wk_run C k_MD_special_83 (pc2 := 89) (lv2 := [(5, .int ((nI i) + 1)), (3, .int ((nI (sv_ f b i)) + 1)), (4, .int 0), (6, .int (V 12 (20 * nu p + i))), (0, .ref y), (1, .int p), (2, .int b)]) (st2 := []) rfl ?_
            refine wk_goto C d_MD_special_89 (tgt := 8) (by decide) ?_
            refine Wk.sub (lv2 := [(0, .ref y), (1, .int p), (2, .int b), (3, .int ((nI (sv_ f b i)) + 1)), (4, .int 0), (5, .int ((nI i) + 1))]) [4, 5, 6, 1, 2, 0] rfl ?_
            have hs := nm_s_le f i
            have hs1 := nm_s1 f i
            have ha1 := nm_a1 f i
            have e1 : nI (sv_ f b i) + 1 = nI (sv_ f b (i + 1)) := by rw [show sv_ f b (i + 1) = sv_ f b i + 1 by (clear C hM ih; unfold sv_; grind)]; exact nI_1 _
            have e2 : (0 : Int32) = if nm_s f (i + 1) = i + 1 then 0 else 1 := by clear C hM ih e1; grind
            rw [e1, nI_1]
            refine Wk.lve (lv2 := [(0, .ref y), (1, .int p), (2, .int b), (3, .int (nI (sv_ f b (i + 1)))), (4, .int (if nm_s f (i + 1) = i + 1 then (0 : Int32) else 1)), (5, .int (nI (i + 1)))]) (by rw [← e2]) (ih (i + 1) hlt (by omega))
          ·
            replace c9 := bn_ c9
            refine wk_run C k_MD_special_79 (pc2 := 80) (lv2 := [(4, .int 0), (6, .int (V 12 (20 * nu p + i))), (0, .ref y), (1, .int p), (2, .int b), (3, .int (nI (sv_ f b i))), (5, .int (nI i))]) (st2 := [.int 0, .int (nI (sv_ f b i))]) rfl ?_
            refine wk_goto C d_MD_special_80 (tgt := 84) (by decide) ?_
            refine wk_run C k_MD_special_84 (pc2 := 89) (lv2 := [(5, .int ((nI i) + 1)), (3, .int ((nI (sv_ f b i)) + 0)), (4, .int 0), (6, .int (V 12 (20 * nu p + i))), (0, .ref y), (1, .int p), (2, .int b)]) (st2 := []) rfl ?_
            refine wk_goto C d_MD_special_89 (tgt := 8) (by decide) ?_
            refine Wk.sub (lv2 := [(0, .ref y), (1, .int p), (2, .int b), (3, .int ((nI (sv_ f b i)) + 0)), (4, .int 0), (5, .int ((nI i) + 1))]) [4, 5, 6, 1, 2, 0] rfl ?_
            have hs := nm_s_le f i
            have hs1 := nm_s1 f i
            have ha1 := nm_a1 f i
            have e1 : nI (sv_ f b i) + 0 = nI (sv_ f b (i + 1)) := by rw [show sv_ f b (i + 1) = sv_ f b i + 0 by (clear C hM ih; unfold sv_; grind)]; exact Int32.add_zero _
            have e2 : (0 : Int32) = if nm_s f (i + 1) = i + 1 then 0 else 1 := by clear C hM ih e1; grind
            rw [e1, nI_1]
            refine Wk.lve (lv2 := [(0, .ref y), (1, .int p), (2, .int b), (3, .int (nI (sv_ f b (i + 1)))), (4, .int (if nm_s f (i + 1) = i + 1 then (0 : Int32) else 1)), (5, .int (nI (i + 1)))]) (by rw [← e2]) (ih (i + 1) hlt (by omega))
        ·
          refine wk_run C k_MD_special_58 (pc2 := 60) (lv2 := [(4, .int 0), (6, .int (V 12 (20 * nu p + i))), (0, .ref y), (1, .int p), (2, .int b), (3, .int (nI (sv_ f b i))), (5, .int (nI i))]) (st2 := [.int 0, .int (nI (sv_ f b i))]) rfl ?_
          refine wk_br C d_MD_special_60 (P := 0 = 0) (tgt := 67) (rest := [.int (nI (sv_ f b i))]) rfl (by decide) (fun c10 => ?_) (fun c10 => ?_)
          ·
            refine wk_run C k_MD_special_67 (pc2 := 68) (lv2 := [(4, .int 0), (6, .int (V 12 (20 * nu p + i))), (0, .ref y), (1, .int p), (2, .int b), (3, .int (nI (sv_ f b i))), (5, .int (nI i))]) (st2 := [.int 1, .int (nI (sv_ f b i))]) rfl ?_
            refine wk_goto C d_MD_special_68 (tgt := 84) (by decide) ?_
            refine wk_run C k_MD_special_84 (pc2 := 89) (lv2 := [(5, .int ((nI i) + 1)), (3, .int ((nI (sv_ f b i)) + 1)), (4, .int 0), (6, .int (V 12 (20 * nu p + i))), (0, .ref y), (1, .int p), (2, .int b)]) (st2 := []) rfl ?_
            refine wk_goto C d_MD_special_89 (tgt := 8) (by decide) ?_
            refine Wk.sub (lv2 := [(0, .ref y), (1, .int p), (2, .int b), (3, .int ((nI (sv_ f b i)) + 1)), (4, .int 0), (5, .int ((nI i) + 1))]) [4, 5, 6, 1, 2, 0] rfl ?_
            have hs := nm_s_le f i
            have hs1 := nm_s1 f i
            have ha1 := nm_a1 f i
            have e1 : nI (sv_ f b i) + 1 = nI (sv_ f b (i + 1)) := by rw [show sv_ f b (i + 1) = sv_ f b i + 1 by (clear C hM ih; unfold sv_; grind)]; exact nI_1 _
            have e2 : (0 : Int32) = if nm_s f (i + 1) = i + 1 then 0 else 1 := by clear C hM ih e1; grind
            rw [e1, nI_1]
            refine Wk.lve (lv2 := [(0, .ref y), (1, .int p), (2, .int b), (3, .int (nI (sv_ f b (i + 1)))), (4, .int (if nm_s f (i + 1) = i + 1 then (0 : Int32) else 1)), (5, .int (nI (i + 1)))]) (by rw [← e2]) (ih (i + 1) hlt (by omega))
          ·
            exact absurd (by decide) c10
      ·
        replace c7 := bn_ c7
        refine wk_run C k_MD_special_46 (pc2 := 47) (lv2 := [(6, .int (V 12 (20 * nu p + i))), (0, .ref y), (1, .int p), (2, .int b), (3, .int (nI (sv_ f b i))), (4, .int wl), (5, .int (nI i))]) (st2 := [.int 1]) rfl ?_
        refine wk_goto C d_MD_special_47 (tgt := 51) (by decide) ?_
        refine wk_run C k_MD_special_51 (pc2 := 55) (lv2 := [(4, .int 1), (6, .int (V 12 (20 * nu p + i))), (0, .ref y), (1, .int p), (2, .int b), (3, .int (nI (sv_ f b i))), (5, .int (nI i))]) (st2 := [.int b, .int (nI (sv_ f b i))]) rfl ?_
        refine wk_br C d_MD_special_55 (P := b = 0) (tgt := 71) (rest := [.int (nI (sv_ f b i))]) rfl (by decide) (fun c11 => ?_) (fun c11 => ?_)
        ·
          refine wk_run C k_MD_special_71 (pc2 := 73) (lv2 := [(4, .int 1), (6, .int (V 12 (20 * nu p + i))), (0, .ref y), (1, .int p), (2, .int b), (3, .int (nI (sv_ f b i))), (5, .int (nI i))]) (st2 := [.int (V 12 (20 * nu p + i)), .int (nI (sv_ f b i))]) rfl ?_
          refine wk_callS (rest := [.int (nI (sv_ f b i))]) C (c_MD_isWild l D HB h (V 12 (20 * nu p + i))) cs_MD_118 kc_MD_isWild ki_MD rfl rfl (Nat.le_of_ble_eq_true rfl) (Nat.le_of_ble_eq_true rfl) (Nat.le_of_ble_eq_true rfl) (Nat.le_of_ble_eq_true rfl) (Nat.le_of_ble_eq_true rfl) d_MD_special_73 (fun v h2 hq => ?_) (fun _ _ z => nomatch z.1)
          obtain ⟨e1, e2⟩ := hq; cases e1; replace e2 := e2.symm; subst e2
          refine wk_br C d_MD_special_76 (P := (if (V 12 (20 * nu p + i)) = 37 ∨ (V 12 (20 * nu p + i)) = 42 then (1 : Int32) else 0) = 0) (tgt := 83) (rest := [.int (nI (sv_ f b i))]) rfl (by decide) (fun c12 => ?_) (fun c12 => ?_)
          ·
            replace c12 := bz_ c12
            refine wk_run C k_MD_special_83 (pc2 := 89) (lv2 := [(5, .int ((nI i) + 1)), (3, .int ((nI (sv_ f b i)) + 1)), (4, .int 1), (6, .int (V 12 (20 * nu p + i))), (0, .ref y), (1, .int p), (2, .int b)]) (st2 := []) rfl ?_
            refine wk_goto C d_MD_special_89 (tgt := 8) (by decide) ?_
            refine Wk.sub (lv2 := [(0, .ref y), (1, .int p), (2, .int b), (3, .int ((nI (sv_ f b i)) + 1)), (4, .int 1), (5, .int ((nI i) + 1))]) [4, 5, 6, 1, 2, 0] rfl ?_
            have hs := nm_s_le f i
            have hs1 := nm_s1 f i
            have ha1 := nm_a1 f i
            have e1 : nI (sv_ f b i) + 1 = nI (sv_ f b (i + 1)) := by rw [show sv_ f b (i + 1) = sv_ f b i + 1 by (clear C hM ih; unfold sv_; grind)]; exact nI_1 _
            have e2 : (1 : Int32) = if nm_s f (i + 1) = i + 1 then 0 else 1 := by clear C hM ih e1; grind
            rw [e1, nI_1]
            refine Wk.lve (lv2 := [(0, .ref y), (1, .int p), (2, .int b), (3, .int (nI (sv_ f b (i + 1)))), (4, .int (if nm_s f (i + 1) = i + 1 then (0 : Int32) else 1)), (5, .int (nI (i + 1)))]) (by rw [← e2]) (ih (i + 1) hlt (by omega))
          ·
            replace c12 := bn_ c12
            refine wk_run C k_MD_special_79 (pc2 := 80) (lv2 := [(4, .int 1), (6, .int (V 12 (20 * nu p + i))), (0, .ref y), (1, .int p), (2, .int b), (3, .int (nI (sv_ f b i))), (5, .int (nI i))]) (st2 := [.int 0, .int (nI (sv_ f b i))]) rfl ?_
            refine wk_goto C d_MD_special_80 (tgt := 84) (by decide) ?_
            refine wk_run C k_MD_special_84 (pc2 := 89) (lv2 := [(5, .int ((nI i) + 1)), (3, .int ((nI (sv_ f b i)) + 0)), (4, .int 1), (6, .int (V 12 (20 * nu p + i))), (0, .ref y), (1, .int p), (2, .int b)]) (st2 := []) rfl ?_
            refine wk_goto C d_MD_special_89 (tgt := 8) (by decide) ?_
            refine Wk.sub (lv2 := [(0, .ref y), (1, .int p), (2, .int b), (3, .int ((nI (sv_ f b i)) + 0)), (4, .int 1), (5, .int ((nI i) + 1))]) [4, 5, 6, 1, 2, 0] rfl ?_
            have hs := nm_s_le f i
            have hs1 := nm_s1 f i
            have ha1 := nm_a1 f i
            have e1 : nI (sv_ f b i) + 0 = nI (sv_ f b (i + 1)) := by rw [show sv_ f b (i + 1) = sv_ f b i + 0 by (clear C hM ih; unfold sv_; grind)]; exact Int32.add_zero _
            have e2 : (1 : Int32) = if nm_s f (i + 1) = i + 1 then 0 else 1 := by clear C hM ih e1; grind
            rw [e1, nI_1]
            refine Wk.lve (lv2 := [(0, .ref y), (1, .int p), (2, .int b), (3, .int (nI (sv_ f b (i + 1)))), (4, .int (if nm_s f (i + 1) = i + 1 then (0 : Int32) else 1)), (5, .int (nI (i + 1)))]) (by rw [← e2]) (ih (i + 1) hlt (by omega))
        ·
          refine wk_run C k_MD_special_58 (pc2 := 60) (lv2 := [(4, .int 1), (6, .int (V 12 (20 * nu p + i))), (0, .ref y), (1, .int p), (2, .int b), (3, .int (nI (sv_ f b i))), (5, .int (nI i))]) (st2 := [.int 1, .int (nI (sv_ f b i))]) rfl ?_
          refine wk_br C d_MD_special_60 (P := 1 = 0) (tgt := 67) (rest := [.int (nI (sv_ f b i))]) rfl (by decide) (fun c13 => ?_) (fun c13 => ?_)
          ·
            exact absurd c13 (by decide)
          ·
            refine wk_run C k_MD_special_63 (pc2 := 64) (lv2 := [(4, .int 1), (6, .int (V 12 (20 * nu p + i))), (0, .ref y), (1, .int p), (2, .int b), (3, .int (nI (sv_ f b i))), (5, .int (nI i))]) (st2 := [.int 0, .int (nI (sv_ f b i))]) rfl ?_
            refine wk_goto C d_MD_special_64 (tgt := 84) (by decide) ?_
            refine wk_run C k_MD_special_84 (pc2 := 89) (lv2 := [(5, .int ((nI i) + 1)), (3, .int ((nI (sv_ f b i)) + 0)), (4, .int 1), (6, .int (V 12 (20 * nu p + i))), (0, .ref y), (1, .int p), (2, .int b)]) (st2 := []) rfl ?_
            refine wk_goto C d_MD_special_89 (tgt := 8) (by decide) ?_
            refine Wk.sub (lv2 := [(0, .ref y), (1, .int p), (2, .int b), (3, .int ((nI (sv_ f b i)) + 0)), (4, .int 1), (5, .int ((nI i) + 1))]) [4, 5, 6, 1, 2, 0] rfl ?_
            have hs := nm_s_le f i
            have hs1 := nm_s1 f i
            have ha1 := nm_a1 f i
            have e1 : nI (sv_ f b i) + 0 = nI (sv_ f b (i + 1)) := by rw [show sv_ f b (i + 1) = sv_ f b i + 0 by (clear C hM ih; unfold sv_; grind)]; exact Int32.add_zero _
            have e2 : (1 : Int32) = if nm_s f (i + 1) = i + 1 then 0 else 1 := by clear C hM ih e1; grind
            rw [e1, nI_1]
            refine Wk.lve (lv2 := [(0, .ref y), (1, .int p), (2, .int b), (3, .int (nI (sv_ f b (i + 1)))), (4, .int (if nm_s f (i + 1) = i + 1 then (0 : Int32) else 1)), (5, .int (nI (i + 1)))]) (by rw [← e2]) (ih (i + 1) hlt (by omega))
noncomputable abbrev nf_ (V : vT) (p : Nat) : Nat → Int32 := fun k => V 12 (20 * p + k)
def mo_ (V : vT) (p q : Nat) : Prop := if ¬ sp_ (nf_ V p) 1 (nu (V 13 p)) = sp_ (nf_ V q) 1 (nu (V 13 q)) then sp_ (nf_ V q) 1 (nu (V 13 q)) < sp_ (nf_ V p) 1 (nu (V 13 p)) else sp_ (nf_ V q) 0 (nu (V 13 q)) < sp_ (nf_ V p) 0 (nu (V 13 p))
noncomputable def z_ (P : Prop) : Int32 := @ite _ P (Classical.propDecidable P) 1 0
theorem z_p {P : Prop} (h : P) : z_ P = 1 := if_pos h
theorem z_n {P : Prop} (h : ¬ P) : z_ P = 0 := if_neg h
theorem z_0 {P : Prop} (h : z_ P = 0) : ¬ P := fun z => by rw [z_p z] at h; exact absurd h (by decide)
theorem z_1 {P : Prop} (h : ¬ z_ P = 0) : P := Classical.byContradiction (fun z => h (z_n z))
theorem z_b (P : Prop) : z_ P = 0 ∨ z_ P = 1 := (Classical.em P).elim (fun z => Or.inr (z_p z)) (fun z => Or.inl (z_n z))
theorem k_MD_isMore_0 : px_dec prog_9_method_31_code [.aload_n 0, .iload_n 1, .iconst 1] 0 = true := by decide +kernel
theorem d_MD_isMore_3 : decode prog_9_method_31_code 3 = .ok (.invokevirtual 121, 3) := by decide +kernel
theorem k_MD_isMore_6 : px_dec prog_9_method_31_code [.istore_n 3, .aload_n 0, .iload_n 2, .iconst 1] 6 = true := by decide +kernel
theorem d_MD_isMore_10 : decode prog_9_method_31_code 10 = .ok (.invokevirtual 121, 3) := by decide +kernel
theorem k_MD_isMore_13 : px_dec prog_9_method_31_code [.istore 4, .iload_n 3, .iload 4] 13 = true := by decide +kernel
theorem d_MD_isMore_18 : decode prog_9_method_31_code 18 = .ok (.if_icmp .eq 15, 3) := by decide +kernel
theorem k_MD_isMore_33 : px_dec prog_9_method_31_code [.aload_n 0, .iload_n 1, .iconst 0] 33 = true := by decide +kernel
theorem d_MD_isMore_36 : decode prog_9_method_31_code 36 = .ok (.invokevirtual 121, 3) := by decide +kernel
theorem k_MD_isMore_39 : px_dec prog_9_method_31_code [.aload_n 0, .iload_n 2, .iconst 0] 39 = true := by decide +kernel
theorem d_MD_isMore_42 : decode prog_9_method_31_code 42 = .ok (.invokevirtual 121, 3) := by decide +kernel
theorem d_MD_isMore_45 : decode prog_9_method_31_code 45 = .ok (.if_icmp .le 7, 3) := by decide +kernel
theorem k_MD_isMore_52 : px_dec prog_9_method_31_code [.iconst 0] 52 = true := by decide +kernel
theorem d_MD_isMore_53 : decode prog_9_method_31_code 53 = .ok (.ireturn, 1) := by decide +kernel
theorem k_MD_isMore_48 : px_dec prog_9_method_31_code [.iconst 1] 48 = true := by decide +kernel
theorem d_MD_isMore_49 : decode prog_9_method_31_code 49 = .ok (.goto 4, 3) := by decide +kernel
theorem k_MD_isMore_21 : px_dec prog_9_method_31_code [.iload_n 3, .iload 4] 21 = true := by decide +kernel
theorem d_MD_isMore_24 : decode prog_9_method_31_code 24 = .ok (.if_icmp .le 7, 3) := by decide +kernel
theorem k_MD_isMore_31 : px_dec prog_9_method_31_code [.iconst 0] 31 = true := by decide +kernel
theorem d_MD_isMore_32 : decode prog_9_method_31_code 32 = .ok (.ireturn, 1) := by decide +kernel
theorem k_MD_isMore_27 : px_dec prog_9_method_31_code [.iconst 1] 27 = true := by decide +kernel
theorem d_MD_isMore_28 : decode prog_9_method_31_code 28 = .ok (.goto 4, 3) := by decide +kernel
set_option maxRecDepth 100000 in
set_option maxHeartbeats 4000000 in
theorem c_MD_isMore (l : Launch) (D : va_G) (HB : Heap) (h : hp_T) (h0 : hp_T) (y : Nat) (A : Nat → Nat) (V : vT) (p q : Int32) (hp : ok_ p 60) (hq0 : ok_ q 60) (hL : ok_ (V 13 (nu p)) 20) (hL2 : ok_ (V 13 (nu q)) 20) (hM : mq D h0 h y A V) : ct_M l y_MD_isMore (.code y_MD_isMore prog_9_method_31_code 5 (Option.some Jvm.ClassFile.FieldType.boolean)) ({ frames := 2, cells := 0, slots := 0, locals := 60 }) D HB [.ref y, .int p, .int q] h (fun o h2 => o = .inl (some (.int (z_ (mo_ V (nu p) (nu q))))) ∧ h2 = h) := by
  refine ct_of (by decide) (Nat.le_of_ble_eq_true rfl) rfl ?_
  intro p_ e_ s_ m_ r_ b_ t_ c_ C hnm
  refine wk_run C k_MD_isMore_0 (pc2 := 3) (lv2 := [(0, .ref y), (1, .int p), (2, .int q)]) (st2 := [.int 1, .int p, .ref y]) rfl ?_
  refine wk_callV (cl := ("ProfileRightsModel", T_MD, 27)) (rest := []) C (c_MD_special l D HB h h0 y A V p 1 hp hL hM) cs_MD_121 kc_MD_special ki_MD hM.ob rfl rfl rfl (Nat.le_of_ble_eq_true rfl) (Nat.le_of_ble_eq_true rfl) (Nat.le_of_ble_eq_true rfl) (Nat.le_of_ble_eq_true rfl) (Nat.le_of_ble_eq_true rfl) d_MD_isMore_3 (fun v h2 hq => ?_) (fun _ _ z => nomatch z.1)
  obtain ⟨e1, e2⟩ := hq; cases e1; replace e2 := e2.symm; subst e2
  show Wk _ _ _ _ _ _ _ _ _ _ _ _ _ _ _ _ _ _ _ (.int (sp_ (nf_ V (nu p)) 1 (nu (V 13 (nu p)))) :: _)
  refine wk_run C k_MD_isMore_6 (pc2 := 10) (lv2 := [(3, .int (sp_ (nf_ V (nu p)) 1 (nu (V 13 (nu p))))), (0, .ref y), (1, .int p), (2, .int q)]) (st2 := [.int 1, .int q, .ref y]) rfl ?_
  refine wk_callV (cl := ("ProfileRightsModel", T_MD, 27)) (rest := []) C (c_MD_special l D HB h h0 y A V q 1 hq0 hL2 hM) cs_MD_121 kc_MD_special ki_MD hM.ob rfl rfl rfl (Nat.le_of_ble_eq_true rfl) (Nat.le_of_ble_eq_true rfl) (Nat.le_of_ble_eq_true rfl) (Nat.le_of_ble_eq_true rfl) (Nat.le_of_ble_eq_true rfl) d_MD_isMore_10 (fun v h2 hq => ?_) (fun _ _ z => nomatch z.1)
  obtain ⟨e1, e2⟩ := hq; cases e1; replace e2 := e2.symm; subst e2
  show Wk _ _ _ _ _ _ _ _ _ _ _ _ _ _ _ _ _ _ _ (.int (sp_ (nf_ V (nu q)) 1 (nu (V 13 (nu q)))) :: _)
  refine wk_run C k_MD_isMore_13 (pc2 := 18) (lv2 := [(4, .int (sp_ (nf_ V (nu q)) 1 (nu (V 13 (nu q))))), (3, .int (sp_ (nf_ V (nu p)) 1 (nu (V 13 (nu p))))), (0, .ref y), (1, .int p), (2, .int q)]) (st2 := [.int (sp_ (nf_ V (nu q)) 1 (nu (V 13 (nu q)))), .int (sp_ (nf_ V (nu p)) 1 (nu (V 13 (nu p))))]) rfl ?_
  refine wk_br C d_MD_isMore_18 (P := (sp_ (nf_ V (nu p)) 1 (nu (V 13 (nu p)))) = (sp_ (nf_ V (nu q)) 1 (nu (V 13 (nu q))))) (tgt := 33) (rest := []) rfl (by decide) (fun c1 => ?_) (fun c1 => ?_)
  ·
    refine wk_run C k_MD_isMore_33 (pc2 := 36) (lv2 := [(4, .int (sp_ (nf_ V (nu q)) 1 (nu (V 13 (nu q))))), (3, .int (sp_ (nf_ V (nu p)) 1 (nu (V 13 (nu p))))), (0, .ref y), (1, .int p), (2, .int q)]) (st2 := [.int 0, .int p, .ref y]) rfl ?_
    refine wk_callV (cl := ("ProfileRightsModel", T_MD, 27)) (rest := []) C (c_MD_special l D HB h h0 y A V p 0 hp hL hM) cs_MD_121 kc_MD_special ki_MD hM.ob rfl rfl rfl (Nat.le_of_ble_eq_true rfl) (Nat.le_of_ble_eq_true rfl) (Nat.le_of_ble_eq_true rfl) (Nat.le_of_ble_eq_true rfl) (Nat.le_of_ble_eq_true rfl) d_MD_isMore_36 (fun v h2 hq => ?_) (fun _ _ z => nomatch z.1)
    obtain ⟨e1, e2⟩ := hq; cases e1; replace e2 := e2.symm; subst e2
    show Wk _ _ _ _ _ _ _ _ _ _ _ _ _ _ _ _ _ _ _ (.int (sp_ (nf_ V (nu p)) 0 (nu (V 13 (nu p)))) :: _)
    refine wk_run C k_MD_isMore_39 (pc2 := 42) (lv2 := [(4, .int (sp_ (nf_ V (nu q)) 1 (nu (V 13 (nu q))))), (3, .int (sp_ (nf_ V (nu p)) 1 (nu (V 13 (nu p))))), (0, .ref y), (1, .int p), (2, .int q)]) (st2 := [.int 0, .int q, .ref y, .int (sp_ (nf_ V (nu p)) 0 (nu (V 13 (nu p))))]) rfl ?_
    refine wk_callV (cl := ("ProfileRightsModel", T_MD, 27)) (rest := [.int (sp_ (nf_ V (nu p)) 0 (nu (V 13 (nu p))))]) C (c_MD_special l D HB h h0 y A V q 0 hq0 hL2 hM) cs_MD_121 kc_MD_special ki_MD hM.ob rfl rfl rfl (Nat.le_of_ble_eq_true rfl) (Nat.le_of_ble_eq_true rfl) (Nat.le_of_ble_eq_true rfl) (Nat.le_of_ble_eq_true rfl) (Nat.le_of_ble_eq_true rfl) d_MD_isMore_42 (fun v h2 hq => ?_) (fun _ _ z => nomatch z.1)
    obtain ⟨e1, e2⟩ := hq; cases e1; replace e2 := e2.symm; subst e2
    show Wk _ _ _ _ _ _ _ _ _ _ _ _ _ _ _ _ _ _ _ (.int (sp_ (nf_ V (nu q)) 0 (nu (V 13 (nu q)))) :: _)
    refine wk_br C d_MD_isMore_45 (P := (sp_ (nf_ V (nu p)) 0 (nu (V 13 (nu p)))) ≤ (sp_ (nf_ V (nu q)) 0 (nu (V 13 (nu q))))) (tgt := 52) (rest := []) rfl (by decide) (fun c2 => ?_) (fun c2 => ?_)
    ·
      refine wk_run C k_MD_isMore_52 (pc2 := 53) (lv2 := [(4, .int (sp_ (nf_ V (nu q)) 1 (nu (V 13 (nu q))))), (3, .int (sp_ (nf_ V (nu p)) 1 (nu (V 13 (nu p))))), (0, .ref y), (1, .int p), (2, .int q)]) (st2 := [.int 0]) rfl ?_
      exact wk_zret C rfl ⟨by rw [z_n (by clear C hM; unfold mo_; grind)], rfl⟩ (by decide) (by decide) d_MD_isMore_53
    ·
      refine wk_run C k_MD_isMore_48 (pc2 := 49) (lv2 := [(4, .int (sp_ (nf_ V (nu q)) 1 (nu (V 13 (nu q))))), (3, .int (sp_ (nf_ V (nu p)) 1 (nu (V 13 (nu p))))), (0, .ref y), (1, .int p), (2, .int q)]) (st2 := [.int 1]) rfl ?_
      refine wk_goto C d_MD_isMore_49 (tgt := 53) (by decide) ?_
      exact wk_zret C rfl ⟨by rw [z_p (by clear C hM; unfold mo_; grind)], rfl⟩ (by decide) (by decide) d_MD_isMore_53
  ·
    refine wk_run C k_MD_isMore_21 (pc2 := 24) (lv2 := [(4, .int (sp_ (nf_ V (nu q)) 1 (nu (V 13 (nu q))))), (3, .int (sp_ (nf_ V (nu p)) 1 (nu (V 13 (nu p))))), (0, .ref y), (1, .int p), (2, .int q)]) (st2 := [.int (sp_ (nf_ V (nu q)) 1 (nu (V 13 (nu q)))), .int (sp_ (nf_ V (nu p)) 1 (nu (V 13 (nu p))))]) rfl ?_
    refine wk_br C d_MD_isMore_24 (P := (sp_ (nf_ V (nu p)) 1 (nu (V 13 (nu p)))) ≤ (sp_ (nf_ V (nu q)) 1 (nu (V 13 (nu q))))) (tgt := 31) (rest := []) rfl (by decide) (fun c3 => ?_) (fun c3 => ?_)
    ·
      refine wk_run C k_MD_isMore_31 (pc2 := 32) (lv2 := [(4, .int (sp_ (nf_ V (nu q)) 1 (nu (V 13 (nu q))))), (3, .int (sp_ (nf_ V (nu p)) 1 (nu (V 13 (nu p))))), (0, .ref y), (1, .int p), (2, .int q)]) (st2 := [.int 0]) rfl ?_
      exact wk_zret C rfl ⟨by rw [z_n (by clear C hM; unfold mo_; grind)], rfl⟩ (by decide) (by decide) d_MD_isMore_32
    ·
      refine wk_run C k_MD_isMore_27 (pc2 := 28) (lv2 := [(4, .int (sp_ (nf_ V (nu q)) 1 (nu (V 13 (nu q))))), (3, .int (sp_ (nf_ V (nu p)) 1 (nu (V 13 (nu p))))), (0, .ref y), (1, .int p), (2, .int q)]) (st2 := [.int 1]) rfl ?_
      refine wk_goto C d_MD_isMore_28 (tgt := 32) (by decide) ?_
      exact wk_zret C rfl ⟨by rw [z_p (by clear C hM; unfold mo_; grind)], rfl⟩ (by decide) (by decide) d_MD_isMore_32
