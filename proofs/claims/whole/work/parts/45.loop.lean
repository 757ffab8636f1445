theorem k_law_23 : px_dec code [.iload 4, .aload_n 0] 23 = true := by decide +kernel
theorem d_law_26 : decode code 26 = .ok (.arraylength, 1) := by decide +kernel
theorem k_law_27 : px_dec code [.bipush 6, .isub] 27 = true := by decide +kernel
theorem d_law_30 : decode code 30 = .ok (.if_icmp .gt 1447, 3) := by decide +kernel
theorem k_law_1477 : px_dec code [.iconst 1] 1477 = true := by decide +kernel
theorem k_law_1471 : px_dec code [.iinc 4 6] 1471 = true := by decide +kernel
theorem d_law_1474 : decode code 1474 = .ok (.goto (-1451), 3) := by decide +kernel
theorem k_law_33 : px_dec code [.aload_n 0, .iload 4] 33 = true := by decide +kernel
theorem d_law_36 : decode code 36 = .ok (.iaload, 1) := by decide +kernel
theorem k_law_37 : px_dec code [.bipush 31, .iand] 37 = true := by decide +kernel
theorem d_law_40 : decode code 40 = .ok (.tableswitch 1431 0 19 #[96, 152, 220, 276, 344, 428, 512, 580, 648, 716, 796, 876, 968, 993, 1117, 1130, 1167, 1235, 1310, 1406], 96) := by decide +kernel
set_option maxRecDepth 100000 in
set_option maxHeartbeats 4000000 in
theorem lw_loop {p : Program} {l : Launch} {e : Env} {s : State} {m : MethodId} {args : Array Value} {below : List Frame} {meth : Method} {c : Code} {Q : State → Prop} {D : va_G} {HB : Heap} {hh : List (Nat × Nat × Nat × Nat)} (C : wk_C p s m args meth c code "ProfileRightsLaw" 7 ret hh D HB) (hlt : l.stackTraces = false) {b L : Nat} {xs : Nat → Int32} (hZ : va_T .int b L (fun j => .int (xs j)) (hp_A HB) s HB) {x y ou : Nat} {A : Nat → Nat} (hL : L ≤ 3072) (fin : ∀ (h2 : hp_T) (cells slots : Nat) (lv : List (Nat × Value)), cells ≤ 601024 → slots ≤ 7293034 → Wk p l e room_1 s m args below meth c 7 D HB Q h2 cells slots 1478 lv [.int 1]) : ∀ (a : Nat × vT × oT × hp_T), (6 * a.1 ≤ L ∧ iv D x y ou A a.1 a.2.1 a.2.2.1 a.2.2.2) → Wk p l e room_1 s m args below meth c 7 D HB Q a.2.2.2 (100 + 8 * a.1) (20000 + 200 * a.1) 23 [(0, .ref b), (1, .ref x), (2, .ref y), (3, .ref ou), (4, .int (nI (6 * a.1)))] [] := by
  refine wk_indC (σ := Nat × vT × oT × hp_T) (hF := fun a => a.2.2.2) (lvF := fun a => [(0, .ref b), (1, .ref x), (2, .ref y), (3, .ref ou), (4, .int (nI (6 * a.1)))]) (cF := fun a => 100 + 8 * a.1) (sF := fun a => 20000 + 200 * a.1) (fun a => L - 6 * a.1) (fun a => 6 * a.1 ≤ L ∧ iv D x y ou A a.1 a.2.1 a.2.2.1 a.2.2.2) ?_
  rintro ⟨n, V, own, h⟩ ⟨hn, I⟩ ih
  replace hn : 6 * n ≤ L := hn
  replace I : iv D x y ou A n V own h := I
  show Wk p l e room_1 s m args below meth c 7 D HB Q h (100 + 8 * n) (20000 + 200 * n) 23 [(0, .ref b), (1, .ref x), (2, .ref y), (3, .ref ou), (4, .int (nI (6 * n)))] []
  refine wk_run C k_law_23 (pc2 := 26) (lv2 := [(0, .ref b), (1, .ref x), (2, .ref y), (3, .ref ou), (4, .int (nI (6 * n)))]) (st2 := [.ref b, .int (nI (6 * n))]) rfl ?_
  refine wk_tlen C hZ d_law_26 ?_
  refine wk_run C k_law_27 (pc2 := 30) (lv2 := [(0, .ref b), (1, .ref x), (2, .ref y), (3, .ref ou), (4, .int (nI (6 * n)))]) (st2 := [.int ((nI L) - 6), .int (nI (6 * n))]) rfl ?_
  refine wk_br C d_law_30 (P := ((nI L) - 6) < (nI (6 * n))) (tgt := 1477) (rest := []) rfl (by decide) (fun c1 => ?_) (fun c1 => ?_)
  ·
    refine wk_run C k_law_1477 (pc2 := 1478) (lv2 := [(0, .ref b), (1, .ref x), (2, .ref y), (3, .ref ou), (4, .int (nI (6 * n)))]) (st2 := [.int 1]) rfl ?_
    exact fin _ _ _ _ (by omega) (by omega)
  ·
    have h6 : 6 * n + 6 ≤ L := by rw [l6_ hL hn] at c1; omega
    have hn5 : n < 512 := by omega
    have K : ∀ (V2 : vT) (own2 : oT) (h2 : hp_T), iv D x y ou A (n + 1) V2 own2 h2 → Wk p l e room_1 s m args below meth c 7 D HB Q h2 (100 + 8 * n + 8) (20000 + 200 * n + 200) 1471 [(0, .ref b), (1, .ref x), (2, .ref y), (3, .ref ou), (4, .int (nI (6 * n)))] [] := by
      intro V2 own2 h2 I2
      refine wk_run C k_law_1471 (pc2 := 1474) (lv2 := [(4, .int ((nI (6 * n)) + 6)), (0, .ref b), (1, .ref x), (2, .ref y), (3, .ref ou)]) (st2 := []) rfl ?_
      refine wk_goto C d_law_1474 (tgt := 23) (by decide) ?_
      rw [show nI (6 * n) + 6 = nI (6 * (n + 1)) from nI_a (6 * n) 6]
      refine Wk.sub (lv2 := [(0, .ref b), (1, .ref x), (2, .ref y), (3, .ref ou), (4, .int (nI (6 * (n + 1))))]) [1, 2, 3, 4, 0] rfl ?_
      exact Wk.widen (by omega) (by omega) (ih (n + 1, V2, own2, h2) ⟨(by show 6 * (n + 1) ≤ L; omega), I2⟩ (by show L - 6 * (n + 1) < L - 6 * n; omega))
    refine wk_run C k_law_33 (pc2 := 36) (lv2 := [(0, .ref b), (1, .ref x), (2, .ref y), (3, .ref ou), (4, .int (nI (6 * n)))]) (st2 := [.int (nI (6 * n)), .ref b]) rfl ?_
    refine wk_tld C hZ (nI_in (c := 6 * n) (by omega) (by omega)) (show Value.int (xs (nI (6 * n)).toNatClampNeg) = .int (xs (6 * n)) by rw [nI_clamp (by omega)]) d_law_36 ?_
    refine wk_run C k_law_37 (pc2 := 40) (lv2 := [(0, .ref b), (1, .ref x), (2, .ref y), (3, .ref ou), (4, .int (nI (6 * n)))]) (st2 := [.int ((xs (6 * n)) &&& 31)]) rfl ?_
    refine wk_top (fun z hz => ?_)
    by_cases hx : z.toInt < 0 ∨ 19 < z.toInt
    ·
      refine wk_tabO C d_law_40 hx (tgt := 1471) (by decide) ?_
      exact Wk.widen (by omega) (by omega) (K V own h ⟨I.1, I.2.1, I.2.2.1, ok_m I.2.2.2.1 (Nat.le_succ n), I.2.2.2.2⟩)
    ·
      clear hz
      rcases sw_ (fun y => hx (Or.inl y)) (fun y => hx (Or.inr y)) with rfl | rfl | rfl | rfl | rfl | rfl | rfl | rfl | rfl | rfl | rfl | rfl | rfl | rfl | rfl | rfl | rfl | rfl | rfl | rfl
      · exact wk_tabI C d_law_40 (by decide) (by decide) (off := 96) (by decide) (tgt := 136) (by decide) (lw_group C hlt hZ hn5 hL h6 (by omega) (by omega) I K)
      · exact wk_tabI C d_law_40 (by decide) (by decide) (off := 152) (by decide) (tgt := 192) (by decide) (lw_move C hlt hZ hn5 hL h6 (by omega) (by omega) I K)
      · exact wk_tabI C d_law_40 (by decide) (by decide) (off := 220) (by decide) (tgt := 260) (by decide) (lw_user C hlt hZ hn5 hL h6 (by omega) (by omega) I K)
      · exact wk_tabI C d_law_40 (by decide) (by decide) (off := 276) (by decide) (tgt := 316) (by decide) (lw_terminal C hlt hZ hn5 hL h6 (by omega) (by omega) I K)
      · exact wk_tabI C d_law_40 (by decide) (by decide) (off := 344) (by decide) (tgt := 384) (by decide) (lw_revoke C hlt hZ hn5 hL h6 (by omega) (by omega) I K)
      · exact wk_tabI C d_law_40 (by decide) (by decide) (off := 428) (by decide) (tgt := 468) (by decide) (lw_pass C hlt hZ hn5 hL h6 (by omega) (by omega) I K)
      · exact wk_tabI C d_law_40 (by decide) (by decide) (off := 512) (by decide) (tgt := 552) (by decide) (lw_mode C hlt hZ hn5 hL h6 (by omega) (by omega) I K)
      · exact wk_tabI C d_law_40 (by decide) (by decide) (off := 580) (by decide) (tgt := 620) (by decide) (lw_profile C hlt hZ hn5 hL h6 (by omega) (by omega) I K)
      · exact wk_tabI C d_law_40 (by decide) (by decide) (off := 648) (by decide) (tgt := 688) (by decide) (lw_name C hlt hZ hn5 hL h6 (by omega) (by omega) I K)
      · exact wk_tabI C d_law_40 (by decide) (by decide) (off := 716) (by decide) (tgt := 756) (by decide) (lw_universal C hlt hZ hn5 hL h6 (by omega) (by omega) I K)
      · exact wk_tabI C d_law_40 (by decide) (by decide) (off := 796) (by decide) (tgt := 836) (by decide) (lw_permit C hlt hZ hn5 hL h6 (by omega) (by omega) I K)
      · exact wk_tabI C d_law_40 (by decide) (by decide) (off := 876) (by decide) (tgt := 916) (by decide) (lw_condition C hlt hZ hn5 hL h6 (by omega) (by omega) I K)
      · exact wk_tabI C d_law_40 (by decide) (by decide) (off := 968) (by decide) (tgt := 1008) (by decide) (lw_ask C hlt hZ hn5 hL h6 (by omega) (by omega) I K)
      · exact wk_tabI C d_law_40 (by decide) (by decide) (off := 993) (by decide) (tgt := 1033) (by decide) (lw_may C hlt hZ hn5 hL h6 (by omega) (by omega) I K)
      · exact wk_tabI C d_law_40 (by decide) (by decide) (off := 1117) (by decide) (tgt := 1157) (by decide) (lw_matched C hlt hZ hn5 hL h6 (by omega) (by omega) I K)
      · exact wk_tabI C d_law_40 (by decide) (by decide) (off := 1130) (by decide) (tgt := 1170) (by decide) (lw_audit C hlt hZ hn5 hL h6 (by omega) (by omega) I K)
      · exact wk_tabI C d_law_40 (by decide) (by decide) (off := 1167) (by decide) (tgt := 1207) (by decide) (lw_who C hlt hZ hn5 hL h6 (by omega) (by omega) I K)
      · exact wk_tabI C d_law_40 (by decide) (by decide) (off := 1235) (by decide) (tgt := 1275) (by decide) (lw_acts C hlt hZ hn5 hL h6 (by omega) (by omega) I K)
      · exact wk_tabI C d_law_40 (by decide) (by decide) (off := 1310) (by decide) (tgt := 1350) (by decide) (lw_surrogate C hlt hZ hn5 hL h6 (by omega) (by omega) I K)
      · exact wk_tabI C d_law_40 (by decide) (by decide) (off := 1406) (by decide) (tgt := 1446) (by decide) (lw_count C hlt hZ hn5 hL h6 (by omega) (by omega) I K)
theorem d_law_0 : decode code 0 = .ok (.new 8, 3) := by decide +kernel
theorem k_law_3 : px_dec code [.dup] 3 = true := by decide +kernel
theorem d_law_4 : decode code 4 = .ok (.invokespecial 69, 3) := by decide +kernel
theorem k_law_7 : px_dec code [.astore_n 1] 7 = true := by decide +kernel
theorem d_law_8 : decode code 8 = .ok (.new 70, 3) := by decide +kernel
theorem k_law_11 : px_dec code [.dup] 11 = true := by decide +kernel
theorem d_law_12 : decode code 12 = .ok (.invokespecial 72, 3) := by decide +kernel
theorem k_law_15 : px_dec code [.astore_n 2, .iconst 1] 15 = true := by decide +kernel
theorem d_law_17 : decode code 17 = .ok (.newarray .long, 2) := by decide +kernel
theorem k_law_19 : px_dec code [.astore_n 3, .iconst 0, .istore 4] 19 = true := by decide +kernel
set_option maxRecDepth 100000 in
set_option maxHeartbeats 4000000 in
theorem lw_main {p : Program} {l : Launch} {e : Env} {s : State} {m : MethodId} {args : Array Value} {below : List Frame} {meth : Method} {c : Code} {Q : State → Prop} {D : va_G} {HB : Heap} {hh : List (Nat × Nat × Nat × Nat)} (C : wk_C p s m args meth c code "ProfileRightsLaw" 7 ret hh D HB) (hlt : l.stackTraces = false) {b L : Nat} {xs : Nat → Int32} (hZ : va_T .int b L (fun j => .int (xs j)) (hp_A HB) s HB) (hL : L ≤ 3072) (fin : ∀ (h2 : hp_T) (cells slots : Nat) (lv : List (Nat × Value)), cells ≤ 601024 → slots ≤ 7293034 → Wk p l e room_1 s m args below meth c 7 D HB Q h2 cells slots 1478 lv [.int 1]) : Wk p l e room_1 s m args below meth c 7 D HB Q (fun _ => none) 0 0 0 [(0, .ref b)] [] := by
  refine wk_new C nw_LW_8 (Nat.le_of_ble_eq_true rfl) (Nat.le_of_ble_eq_true rfl) d_law_0 (fun x hx => ?_)
  refine wk_run C k_law_3 (pc2 := 4) (lv2 := [(0, .ref b)]) (st2 := [.ref x, .ref x]) rfl ?_
  refine wk_callI (rest := [.ref x]) C (c_PR_init l D HB _ x hp_us) cs_LW_69 kc_PR_init ki_PR rfl rfl (Nat.le_of_ble_eq_true rfl) (Nat.le_of_ble_eq_true rfl) (Nat.le_of_ble_eq_true rfl) (Nat.le_of_ble_eq_true rfl) (Nat.le_of_ble_eq_true rfl) d_law_4 (fun v h2 hq => ?_) (fun E h9 hq9 => nomatch hq9.1)
  obtain ⟨e1, own, hcr, hfr⟩ := hq; cases e1
  refine wk_run C k_law_7 (pc2 := 8) (lv2 := [(1, .ref x), (0, .ref b)]) (st2 := []) rfl ?_
  refine wk_new C nw_LW_70 (Nat.le_of_ble_eq_true rfl) (Nat.le_of_ble_eq_true rfl) d_law_8 (fun y hy => ?_)
  refine wk_run C k_law_11 (pc2 := 12) (lv2 := [(1, .ref x), (0, .ref b)]) (st2 := [.ref y, .ref y]) rfl ?_
  refine wk_callI (rest := [.ref y]) C (c_MD_init l D HB _ y hp_us) cs_LW_72 kc_MD_init ki_MD rfl rfl (Nat.le_of_ble_eq_true rfl) (Nat.le_of_ble_eq_true rfl) (Nat.le_of_ble_eq_true rfl) (Nat.le_of_ble_eq_true rfl) (Nat.le_of_ble_eq_true rfl) d_law_12 (fun v h4 hq => ?_) (fun E h9 hq9 => nomatch hq9.1)
  obtain ⟨e1, A, hM, hA⟩ := hq; cases e1
  refine wk_run C k_law_15 (pc2 := 17) (lv2 := [(2, .ref y), (1, .ref x), (0, .ref b)]) (st2 := [.int 1]) rfl ?_
  refine wk_newl (N := 1) C ka_long rfl (by decide) (Nat.le_of_ble_eq_true rfl) (Nat.le_of_ble_eq_true rfl) d_law_17 (fun ou hou => ?_)
  refine wk_run C k_law_19 (pc2 := 23) (lv2 := [(4, .int 0), (3, .ref ou), (2, .ref y), (1, .ref x), (0, .ref b)]) (st2 := []) rfl ?_
  have nA : ∀ k, ml_ k ≠ none → A k ≠ y := fun k hk => hM.ny hk
  have h2A : ∀ k, ml_ k ≠ none → h2 (A k) = none := fun k hk => by have z := hA k hk; rw [hp_un (nA k hk)] at z; exact z
  have st4 : ∀ q z, h2 q = some z → h4 q = some z := fun q z hz => hM.fr q z (fun r => by rw [r, hy] at hz; cases hz) (fun k hk r => by rw [r, h2A k hk] at hz; cases hz) (by rw [hp_un (fun r => by rw [r, hy] at hz; cases hz)]; exact hz)
  have h2o : h2 ou = none := by cases e : h2 ou with
    | none => rfl
    | some z => rw [st4 ou z e] at hou; cases hou
  obtain ⟨ow, how⟩ : ∃ ow : oT, ow = fun q => @ite _ (h2 q = none) (Classical.propDecidable _) (0, 0) (own q) := ⟨_, rfl⟩
  have ow0 : ∀ q, h2 q = none → ow q = (0, 0) := fun q hq => by rw [how]; exact if_pos hq
  have ow1 : ∀ q z, h2 q = some z → ow q = own q := fun q z hq => by rw [how]; exact if_neg (by rw [hq]; exact fun r => nomatch r)
  have yo : y ≠ ou := fun r => by have z := hM.ob; rw [r, hou] at z; cases z
  have Ao : ∀ k, ml_ k ≠ none → A k ≠ ou := fun k hk r => by
    cases e : ml_ k with
    | none => exact hk e
    | some tn => have z := hM.ar k tn.1 tn.2 e; rw [r, hou] at z; cases z
  have st5 : st_ [] h2 own (hp_up h4 ou (oL D (fun _ => 0))) ow := fun q z hz _ => ⟨by rw [hp_un (fun r => by rw [r, h2o] at hz; cases hz)]; exact st4 q z hz, ow1 q z hz⟩
  have I : iv D x y ou A 0 (fun _ _ => 0) ow (hp_up h4 ou (oL D (fun _ => 0))) := by
    refine ⟨⟨by rw [hp_un yo]; exact hM.ob, fun k t n hk => by rw [hp_un (Ao k (by rw [hk]; exact fun r => nomatch r))]; exact hM.ar k t n hk, hM.ij, fun _ _ _ _ hz => hz⟩, cr_m hcr (st_w st5 (fun _ r => nomatch r)), wf_i, ⟨by decide, Nat.zero_le _⟩, by rw [ow0 y hy], fun k hk => by rw [ow0 _ (h2A k hk)], by rw [ow0 ou h2o], _, hp_us⟩
  refine Wk.widen (cells2 := 100 + 8 * 0) (slots2 := 20000 + 200 * 0) (Nat.le_of_ble_eq_true rfl) (Nat.le_of_ble_eq_true rfl) ?_
  refine Wk.sub (lv2 := [(0, .ref b), (1, .ref x), (2, .ref y), (3, .ref ou), (4, .int 0)]) [4, 3, 2, 1, 0] rfl ?_
  exact lw_loop C hlt hZ hL fin (0, (fun _ _ => 0), ow, hp_up h4 ou (oL D (fun _ => 0))) ⟨Nat.zero_le _, I⟩
