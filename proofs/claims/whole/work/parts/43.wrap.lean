theorem cd_group (V : vT) (g : Int32) : (sp_group V g).2.2 0 0 = (sp_group V g).1 := by
  unfold sp_group
  (repeat' split) <;> rfl
theorem r25_group {V : vT} (g : Int32) {n : Nat} (hn : n < 1000000) (h : ok_ (V 25 0) n) : ok_ ((sp_group V g).2.2 25 0) (n + 1) := by
  have e : (sp_group V g).2.2 25 = V 25 := by
    unfold sp_group
    (repeat' split) <;> rfl
  rw [e]; exact ok_m h (Nat.le_succ n)
theorem m_group (l : Launch) (D : va_G) (HB : Heap) (h h0 : hp_T) (y : Nat) (A : Nat → Nat) (V : vT) (g : Int32) (hW : wf V) (hM : mq D h0 h y A V) : ct_M l y_MD_group (.code y_MD_group prog_9_method_10_code 3 (Option.some Jvm.ClassFile.FieldType.int)) ({ frames := 1, cells := 0, slots := 0, locals := 30 }) D HB [.ref y, .int g] h (fun o h2 => ∃ (cd r : Int32) (V2 : vT), sp_group V g = (cd, r, V2) ∧ o = .inl (some (.int r)) ∧ mq D h0 h2 y A V2) := c_MD_group l D HB h h0 y A V g hW.1 hM
theorem cd_move (V : vT) (y1 : Int32) (g : Int32) : (sp_move V y1 g).2.2 0 0 = (sp_move V y1 g).1 := by
  unfold sp_move
  (repeat' split) <;> rfl
theorem nt_move (V : vT) (y1 : Int32) (g : Int32) : ¬ (sp_move V y1 g).1 = 2 := by
  unfold sp_move
  (repeat' split) <;> (dsimp only; decide)
theorem r25_move {V : vT} (y1 : Int32) (g : Int32) {n : Nat} (hn : n < 1000000) (h : ok_ (V 25 0) n) : ok_ ((sp_move V y1 g).2.2 25 0) (n + 1) := by
  have e : (sp_move V y1 g).2.2 25 = V 25 := by
    unfold sp_move
    (repeat' split) <;> rfl
  rw [e]; exact ok_m h (Nat.le_succ n)
theorem m_move (l : Launch) (D : va_G) (HB : Heap) (h h0 : hp_T) (y : Nat) (A : Nat → Nat) (V : vT) (y1 : Int32) (g : Int32) (hW : wf V) (hM : mq D h0 h y A V) : ct_M l y_MD_move (.code y_MD_move prog_9_method_11_code 4 (Option.some Jvm.ClassFile.FieldType.int)) ({ frames := 1, cells := 0, slots := 0, locals := 30 }) D HB [.ref y, .int y1, .int g] h (fun o h2 => ∃ (cd r : Int32) (V2 : vT), sp_move V y1 g = (cd, r, V2) ∧ o = .inl (some (.int r)) ∧ mq D h0 h2 y A V2) := c_MD_move l D HB h h0 y A V y1 g hW.1 (fun q _ => ok_m (hW.2.2.2.2.1 q) hW.1.2) (hW.2.2.2.2.2.2.2.2.2.2.2.2.2.2.2 _) hM
theorem cd_user (V : vT) (g : Int32) : (sp_user V g).2.2 0 0 = (sp_user V g).1 := by
  unfold sp_user
  (repeat' split) <;> rfl
theorem r25_user {V : vT} (g : Int32) {n : Nat} (hn : n < 1000000) (h : ok_ (V 25 0) n) : ok_ ((sp_user V g).2.2 25 0) (n + 1) := by
  have e : (sp_user V g).2.2 25 = V 25 := by
    unfold sp_user
    (repeat' split) <;> rfl
  rw [e]; exact ok_m h (Nat.le_succ n)
theorem m_user (l : Launch) (D : va_G) (HB : Heap) (h h0 : hp_T) (y : Nat) (A : Nat → Nat) (V : vT) (g : Int32) (hW : wf V) (hM : mq D h0 h y A V) : ct_M l y_MD_user (.code y_MD_user prog_9_method_12_code 3 (Option.some Jvm.ClassFile.FieldType.int)) ({ frames := 1, cells := 0, slots := 0, locals := 30 }) D HB [.ref y, .int g] h (fun o h2 => ∃ (cd r : Int32) (V2 : vT), sp_user V g = (cd, r, V2) ∧ o = .inl (some (.int r)) ∧ mq D h0 h2 y A V2) := c_MD_user l D HB h h0 y A V g hW.2.1 hM
theorem cd_terminal (V : vT) (u : Int32) (t : Int32) : (sp_terminal V u t).2.2 0 0 = (sp_terminal V u t).1 := by
  unfold sp_terminal
  (repeat' split) <;> rfl
theorem nt_terminal (V : vT) (u : Int32) (t : Int32) : ¬ (sp_terminal V u t).1 = 2 := by
  unfold sp_terminal
  (repeat' split) <;> (dsimp only; decide)
theorem r25_terminal {V : vT} (u : Int32) (t : Int32) {n : Nat} (hn : n < 1000000) (h : ok_ (V 25 0) n) : ok_ ((sp_terminal V u t).2.2 25 0) (n + 1) := by
  have e : (sp_terminal V u t).2.2 25 = V 25 := by
    unfold sp_terminal
    (repeat' split) <;> rfl
  rw [e]; exact ok_m h (Nat.le_succ n)
theorem m_terminal (l : Launch) (D : va_G) (HB : Heap) (h h0 : hp_T) (y : Nat) (A : Nat → Nat) (V : vT) (u : Int32) (t : Int32) (hW : wf V) (hM : mq D h0 h y A V) : ct_M l y_MD_terminal (.code y_MD_terminal prog_9_method_13_code 4 (Option.some Jvm.ClassFile.FieldType.int)) ({ frames := 1, cells := 0, slots := 0, locals := 30 }) D HB [.ref y, .int u, .int t] h (fun o h2 => ∃ (cd r : Int32) (V2 : vT), sp_terminal V u t = (cd, r, V2) ∧ o = .inl (some (.int r)) ∧ mq D h0 h2 y A V2) := c_MD_terminal l D HB h h0 y A V u t hW.2.1 hM
theorem cd_revoke (V : vT) (u : Int32) (b : Int32) : (sp_revoke V u b).2.2 0 0 = (sp_revoke V u b).1 := by
  unfold sp_revoke
  (repeat' split) <;> rfl
theorem nt_revoke (V : vT) (u : Int32) (b : Int32) : ¬ (sp_revoke V u b).1 = 2 := by
  unfold sp_revoke
  (repeat' split) <;> (dsimp only; decide)
theorem r25_revoke {V : vT} (u : Int32) (b : Int32) {n : Nat} (hn : n < 1000000) (h : ok_ (V 25 0) n) : ok_ ((sp_revoke V u b).2.2 25 0) (n + 1) := by
  have e : (sp_revoke V u b).2.2 25 = V 25 := by
    unfold sp_revoke
    (repeat' split) <;> rfl
  rw [e]; exact ok_m h (Nat.le_succ n)
theorem m_revoke (l : Launch) (D : va_G) (HB : Heap) (h h0 : hp_T) (y : Nat) (A : Nat → Nat) (V : vT) (u : Int32) (b : Int32) (hW : wf V) (hb : b = 0 ∨ b = 1) (hM : mq D h0 h y A V) : ct_M l y_MD_revoke (.code y_MD_revoke prog_9_method_14_code 3 (Option.some Jvm.ClassFile.FieldType.int)) ({ frames := 1, cells := 0, slots := 0, locals := 30 }) D HB [.ref y, .int u, .int b] h (fun o h2 => ∃ (cd r : Int32) (V2 : vT), sp_revoke V u b = (cd, r, V2) ∧ o = .inl (some (.int r)) ∧ mq D h0 h2 y A V2) := c_MD_revoke l D HB h h0 y A V u b hW.2.1 hb hM
theorem cd_pass (V : vT) (u : Int32) (b : Int32) : (sp_pass V u b).2.2 0 0 = (sp_pass V u b).1 := by
  unfold sp_pass
  (repeat' split) <;> rfl
theorem nt_pass (V : vT) (u : Int32) (b : Int32) : ¬ (sp_pass V u b).1 = 2 := by
  unfold sp_pass
  (repeat' split) <;> (dsimp only; decide)
theorem r25_pass {V : vT} (u : Int32) (b : Int32) {n : Nat} (hn : n < 1000000) (h : ok_ (V 25 0) n) : ok_ ((sp_pass V u b).2.2 25 0) (n + 1) := by
  have e : (sp_pass V u b).2.2 25 = V 25 := by
    unfold sp_pass
    (repeat' split) <;> rfl
  rw [e]; exact ok_m h (Nat.le_succ n)
theorem m_pass (l : Launch) (D : va_G) (HB : Heap) (h h0 : hp_T) (y : Nat) (A : Nat → Nat) (V : vT) (u : Int32) (b : Int32) (hW : wf V) (hM : mq D h0 h y A V) : ct_M l y_MD_pass (.code y_MD_pass prog_9_method_15_code 3 (Option.some Jvm.ClassFile.FieldType.int)) ({ frames := 1, cells := 0, slots := 0, locals := 30 }) D HB [.ref y, .int u, .int b] h (fun o h2 => ∃ (cd r : Int32) (V2 : vT), sp_pass V u b = (cd, r, V2) ∧ o = .inl (some (.int r)) ∧ mq D h0 h2 y A V2) := c_MD_pass l D HB h h0 y A V u b hW.2.1 hM
theorem cd_mode (V : vT) (c1 : Int32) (m1 : Int32) : (sp_mode V c1 m1).2.2 0 0 = (sp_mode V c1 m1).1 := by
  unfold sp_mode
  (repeat' split) <;> rfl
theorem nt_mode (V : vT) (c1 : Int32) (m1 : Int32) : ¬ (sp_mode V c1 m1).1 = 2 := by
  unfold sp_mode
  (repeat' split) <;> (dsimp only; decide)
theorem r25_mode {V : vT} (c1 : Int32) (m1 : Int32) {n : Nat} (hn : n < 1000000) (h : ok_ (V 25 0) n) : ok_ ((sp_mode V c1 m1).2.2 25 0) (n + 1) := by
  have e : (sp_mode V c1 m1).2.2 25 = V 25 := by
    unfold sp_mode
    (repeat' split) <;> rfl
  rw [e]; exact ok_m h (Nat.le_succ n)
theorem m_mode (l : Launch) (D : va_G) (HB : Heap) (h h0 : hp_T) (y : Nat) (A : Nat → Nat) (V : vT) (c1 : Int32) (m1 : Int32) (hW : wf V) (hM : mq D h0 h y A V) : ct_M l y_MD_mode (.code y_MD_mode prog_9_method_18_code 4 (Option.some Jvm.ClassFile.FieldType.int)) ({ frames := 1, cells := 0, slots := 0, locals := 30 }) D HB [.ref y, .int c1, .int m1] h (fun o h2 => ∃ (cd r : Int32) (V2 : vT), sp_mode V c1 m1 = (cd, r, V2) ∧ o = .inl (some (.int r)) ∧ mq D h0 h2 y A V2) := c_MD_mode l D HB h h0 y A V c1 m1  hM
theorem cd_profile (V : vT) (c1 : Int32) (u : Int32) : (sp_profile V c1 u).2.2 0 0 = (sp_profile V c1 u).1 := by
  unfold sp_profile
  (repeat' split) <;> rfl
theorem r25_profile {V : vT} (c1 : Int32) (u : Int32) {n : Nat} (hn : n < 1000000) (h : ok_ (V 25 0) n) : ok_ ((sp_profile V c1 u).2.2 25 0) (n + 1) := by
  have e : (sp_profile V c1 u).2.2 25 = V 25 := by
    unfold sp_profile
    (repeat' split) <;> rfl
  rw [e]; exact ok_m h (Nat.le_succ n)
theorem m_profile (l : Launch) (D : va_G) (HB : Heap) (h h0 : hp_T) (y : Nat) (A : Nat → Nat) (V : vT) (c1 : Int32) (u : Int32) (hW : wf V) (hM : mq D h0 h y A V) : ct_M l y_MD_profile (.code y_MD_profile prog_9_method_19_code 4 (Option.some Jvm.ClassFile.FieldType.int)) ({ frames := 1, cells := 0, slots := 0, locals := 30 }) D HB [.ref y, .int c1, .int u] h (fun o h2 => ∃ (cd r : Int32) (V2 : vT), sp_profile V c1 u = (cd, r, V2) ∧ o = .inl (some (.int r)) ∧ mq D h0 h2 y A V2) := c_MD_profile l D HB h h0 y A V c1 u hW.2.2.1 hM
theorem cd_name (V : vT) (p1 : Int32) (c1 : Int32) : (sp_name V p1 c1).2.2 0 0 = (sp_name V p1 c1).1 := by
  unfold sp_name
  (repeat' split) <;> rfl
theorem r25_name {V : vT} (p1 : Int32) (c1 : Int32) {n : Nat} (hn : n < 1000000) (h : ok_ (V 25 0) n) : ok_ ((sp_name V p1 c1).2.2 25 0) (n + 1) := by
  have e : (sp_name V p1 c1).2.2 25 = V 25 := by
    unfold sp_name
    (repeat' split) <;> rfl
  rw [e]; exact ok_m h (Nat.le_succ n)
theorem m_name (l : Launch) (D : va_G) (HB : Heap) (h h0 : hp_T) (y : Nat) (A : Nat → Nat) (V : vT) (p1 : Int32) (c1 : Int32) (hW : wf V) (hM : mq D h0 h y A V) : ct_M l y_MD_name (.code y_MD_name prog_9_method_20_code 4 (Option.some Jvm.ClassFile.FieldType.int)) ({ frames := 1, cells := 0, slots := 0, locals := 30 }) D HB [.ref y, .int p1, .int c1] h (fun o h2 => ∃ (cd r : Int32) (V2 : vT), sp_name V p1 c1 = (cd, r, V2) ∧ o = .inl (some (.int r)) ∧ mq D h0 h2 y A V2) := c_MD_name l D HB h h0 y A V p1 c1 hW.2.2.1 (hW.2.2.2.2.2.2.2.2.2.2.1 _) hM
theorem cd_universal (V : vT) (p1 : Int32) (a : Int32) (m1 : Int32) : (sp_universal V p1 a m1).2.2 0 0 = (sp_universal V p1 a m1).1 := by
  unfold sp_universal
  (repeat' split) <;> rfl
theorem nt_universal (V : vT) (p1 : Int32) (a : Int32) (m1 : Int32) : ¬ (sp_universal V p1 a m1).1 = 2 := by
  unfold sp_universal
  (repeat' split) <;> (dsimp only; decide)
theorem r25_universal {V : vT} (p1 : Int32) (a : Int32) (m1 : Int32) {n : Nat} (hn : n < 1000000) (h : ok_ (V 25 0) n) : ok_ ((sp_universal V p1 a m1).2.2 25 0) (n + 1) := by
  have e : (sp_universal V p1 a m1).2.2 25 = V 25 := by
    unfold sp_universal
    (repeat' split) <;> rfl
  rw [e]; exact ok_m h (Nat.le_succ n)
theorem m_universal (l : Launch) (D : va_G) (HB : Heap) (h h0 : hp_T) (y : Nat) (A : Nat → Nat) (V : vT) (p1 : Int32) (a : Int32) (m1 : Int32) (hW : wf V) (hM : mq D h0 h y A V) : ct_M l y_MD_universal (.code y_MD_universal prog_9_method_21_code 5 (Option.some Jvm.ClassFile.FieldType.int)) ({ frames := 1, cells := 0, slots := 0, locals := 30 }) D HB [.ref y, .int p1, .int a, .int m1] h (fun o h2 => ∃ (cd r : Int32) (V2 : vT), sp_universal V p1 a m1 = (cd, r, V2) ∧ o = .inl (some (.int r)) ∧ mq D h0 h2 y A V2) := c_MD_universal l D HB h h0 y A V p1 a m1 hW.2.2.1 hM
theorem cd_permit (V : vT) (p1 : Int32) (q : Int32) (a : Int32) : (sp_permit V p1 q a).2.2 0 0 = (sp_permit V p1 q a).1 := by
  unfold sp_permit
  (repeat' split) <;> rfl
theorem r25_permit {V : vT} (p1 : Int32) (q : Int32) (a : Int32) {n : Nat} (hn : n < 1000000) (h : ok_ (V 25 0) n) : ok_ ((sp_permit V p1 q a).2.2 25 0) (n + 1) := by
  have e : (sp_permit V p1 q a).2.2 25 = V 25 := by
    unfold sp_permit
    (repeat' split) <;> rfl
  rw [e]; exact ok_m h (Nat.le_succ n)
theorem m_permit (l : Launch) (D : va_G) (HB : Heap) (h h0 : hp_T) (y : Nat) (A : Nat → Nat) (V : vT) (p1 : Int32) (q : Int32) (a : Int32) (hW : wf V) (hM : mq D h0 h y A V) : ct_M l y_MD_permit (.code y_MD_permit prog_9_method_24_code 8 (Option.some Jvm.ClassFile.FieldType.int)) ({ frames := 2, cells := 0, slots := 0, locals := 60 }) D HB [.ref y, .int p1, .int q, .int a] h (fun o h2 => ∃ (cd r : Int32) (V2 : vT), sp_permit V p1 q a = (cd, r, V2) ∧ o = .inl (some (.int r)) ∧ mq D h0 h2 y A V2) := by
  cases hf : fe_ V (nu p1) q with
  | none => exact c_MD_permitN l D HB h h0 y A V p1 q a hW.2.2.1 (hW.2.2.2.2.2.2.2.2.2.2.2.1 _) hf hM
  | some k => exact c_MD_permitS l D HB h h0 y A V p1 q a hW.2.2.1 (hW.2.2.2.2.2.2.2.2.2.2.2.1 _) k hf hM
theorem cd_condition (V : vT) (p1 : Int32) (q : Int32) (t : Int32) (b : Int32) : (sp_condition V p1 q t b).2.2 0 0 = (sp_condition V p1 q t b).1 := by
  unfold sp_condition
  (repeat' split) <;> rfl
theorem nt_condition (V : vT) (p1 : Int32) (q : Int32) (t : Int32) (b : Int32) : ¬ (sp_condition V p1 q t b).1 = 2 := by
  unfold sp_condition
  (repeat' split) <;> (dsimp only; decide)
theorem r25_condition {V : vT} (p1 : Int32) (q : Int32) (t : Int32) (b : Int32) {n : Nat} (hn : n < 1000000) (h : ok_ (V 25 0) n) : ok_ ((sp_condition V p1 q t b).2.2 25 0) (n + 1) := by
  have e : (sp_condition V p1 q t b).2.2 25 = V 25 := by
    unfold sp_condition
    (repeat' split) <;> rfl
  rw [e]; exact ok_m h (Nat.le_succ n)
theorem m_condition (l : Launch) (D : va_G) (HB : Heap) (h h0 : hp_T) (y : Nat) (A : Nat → Nat) (V : vT) (p1 : Int32) (q : Int32) (t : Int32) (b : Int32) (hW : wf V) (hM : mq D h0 h y A V) : ct_M l y_MD_condition (.code y_MD_condition prog_9_method_25_code 6 (Option.some Jvm.ClassFile.FieldType.int)) ({ frames := 2, cells := 0, slots := 0, locals := 60 }) D HB [.ref y, .int p1, .int q, .int t, .int b] h (fun o h2 => ∃ (cd r : Int32) (V2 : vT), sp_condition V p1 q t b = (cd, r, V2) ∧ o = .inl (some (.int r)) ∧ mq D h0 h2 y A V2) := by
  cases hf : fe_ V (nu p1) q with
  | none => exact c_MD_conditionN l D HB h h0 y A V p1 q t b hW.2.2.1 (hW.2.2.2.2.2.2.2.2.2.2.2.1 _) hf hM
  | some k => exact c_MD_conditionS l D HB h h0 y A V p1 q t b hW.2.2.1 (hW.2.2.2.2.2.2.2.2.2.2.2.1 _) k hf hM
theorem cd_ask (V : vT) (c1 : Int32) : (sp_ask V c1).2.2 0 0 = (sp_ask V c1).1 := by
  unfold sp_ask
  (repeat' split) <;> rfl
theorem nt_ask (V : vT) (c1 : Int32) : ¬ (sp_ask V c1).1 = 1 := by
  unfold sp_ask
  (repeat' split) <;> (dsimp only; decide)
theorem n0_ask (V : vT) (c1 : Int32) : (sp_ask V c1).1 = 0 := by
  unfold sp_ask
  (repeat' split) <;> rfl
theorem r25_ask {V : vT} (c1 : Int32) {n : Nat} (hn : n < 1000000) (h : ok_ (V 25 0) n) : ok_ ((sp_ask V c1).2.2 25 0) (n + 1) := by
  have e : (sp_ask V c1).2.2 25 = V 25 := by
    unfold sp_ask
    (repeat' split) <;> rfl
  rw [e]; exact ok_m h (Nat.le_succ n)
theorem m_ask (l : Launch) (D : va_G) (HB : Heap) (h h0 : hp_T) (y : Nat) (A : Nat → Nat) (V : vT) (c1 : Int32) (hW : wf V) (hM : mq D h0 h y A V) : ct_M l y_MD_ask (.code y_MD_ask prog_9_method_27_code 2 (Option.some Jvm.ClassFile.FieldType.int)) ({ frames := 1, cells := 0, slots := 0, locals := 30 }) D HB [.ref y, .int c1] h (fun o h2 => ∃ (cd r : Int32) (V2 : vT), sp_ask V c1 = (cd, r, V2) ∧ o = .inl (some (.int r)) ∧ mq D h0 h2 y A V2) := c_MD_ask l D HB h h0 y A V c1 hW.2.2.2.1 hM
theorem cd_may (V : vT) (u : Int32) (c1 : Int32) (a : Int32) (t : Int64) : (sp_may V u c1 a t).2.2 0 0 = (sp_may V u c1 a t).1 := by
  rcases sp_may_c (V := V) (u := u) (c := c1) (a := a) (t := t) with e | ⟨r, p, w, e⟩
  · rw [e]; rfl
  · rw [e]; show an_ (vc V 0 0) u c1 a r p w 0 0 = 0; rw [an_s2.1 0 (by decide) (by decide) (by decide) (by decide)]; rfl
theorem nt_may (V : vT) (u : Int32) (c1 : Int32) (a : Int32) (t : Int64) : ¬ (sp_may V u c1 a t).1 = 2 := by
  rcases sp_may_c (V := V) (u := u) (c := c1) (a := a) (t := t) with e | ⟨r, p, w, e⟩ <;> rw [e]
  all_goals (dsimp only; decide)
theorem r25_may {V : vT} (u : Int32) (c1 : Int32) (a : Int32) (t : Int64) {n : Nat} (hn : n < 1000000) (h : ok_ (V 25 0) n) : ok_ ((sp_may V u c1 a t).2.2 25 0) (n + 1) := by
  rcases sp_may_c (V := V) (u := u) (c := c1) (a := a) (t := t) with e | ⟨r, p, w, e⟩
  · rw [e]; exact ok_m h (by omega)
  · rw [e]
    show ok_ (an_ (vc V 0 0) u c1 a r p w 25 0) (n + 1)
    rcases (an_s2 (V := vc V 0 0) (u := u) (c := c1) (a := a) (r := r) (p := p) (w := w)).2.2 with z | z
    · rw [z]; exact ok_m h (by omega)
    · rw [z]; exact (ok_p (ok_m h (Nat.le_succ n)) (fun y => by have h2 := h.2; have h3 : nu (V 25 0) = n + 1 := (by rw [y, nu_nI (by omega)]); omega) (by omega)).1
theorem m_may (l : Launch) (D : va_G) (HB : Heap) (h h0 : hp_T) (y : Nat) (A : Nat → Nat) (V : vT) (u : Int32) (c1 : Int32) (a : Int32) (t : Int64) (hW : wf V) (hR : ok_ (V 25 0) 1000000) (hM : mq D h0 h y A V) : ct_M l y_MD_may (.code y_MD_may prog_9_method_36_code 8 (Option.some Jvm.ClassFile.FieldType.int)) ({ frames := 4, cells := 0, slots := 0, locals := 140 }) D HB [.ref y, .int u, .int c1, .int a, .long t] h (fun o h2 => ∃ (cd r : Int32) (V2 : vT) (F : Nat → Int32), sp_may V u c1 a t = (cd, r, V2) ∧ o = .inl (some (.int r)) ∧ mq D h0 h2 y A (vs V2 26 F)) := c_MD_may l D HB h h0 y A V u c1 a t hW.2.1 hW.2.2.1 (fun q _ => hW.2.2.2.2.2.2.2.2.2.2.1 q) hW.2.2.2.1 hR (fun q _ => hW.2.2.2.2.2.2.2.2.2.2.2.1 q) (fun _ => ⟨ok_m (hW.2.2.2.2.2.1 _) hW.1.2, hW.2.2.2.2.2.2.2.2.2.2.2.2.2.2.2 _⟩) (fun q _ => ok_m (hW.2.2.2.2.1 q) hW.1.2) hM
theorem cd_matched (V : vT) : (sp_matched V).2.2 0 0 = (sp_matched V).1 := by
  unfold sp_matched
  (repeat' split) <;> rfl
theorem nt_matched (V : vT) : ¬ (sp_matched V).1 = 1 := by
  unfold sp_matched
  (repeat' split) <;> (dsimp only; decide)
theorem n0_matched (V : vT) : (sp_matched V).1 = 0 := by
  unfold sp_matched
  (repeat' split) <;> rfl
theorem r25_matched {V : vT} {n : Nat} (hn : n < 1000000) (h : ok_ (V 25 0) n) : ok_ ((sp_matched V).2.2 25 0) (n + 1) := by
  have e : (sp_matched V).2.2 25 = V 25 := by
    unfold sp_matched
    (repeat' split) <;> rfl
  rw [e]; exact ok_m h (Nat.le_succ n)
theorem m_matched (l : Launch) (D : va_G) (HB : Heap) (h h0 : hp_T) (y : Nat) (A : Nat → Nat) (V : vT) (hW : wf V) (hM : mq D h0 h y A V) : ct_M l y_MD_matched (.code y_MD_matched prog_9_method_37_code 1 (Option.some Jvm.ClassFile.FieldType.int)) ({ frames := 0, cells := 0, slots := 0, locals := 0 }) D HB [.ref y] h (fun o h2 => ∃ (cd r : Int32) (V2 : vT), sp_matched V = (cd, r, V2) ∧ o = .inl (some (.int r)) ∧ mq D h0 h2 y A V2) := c_MD_matched l D HB h h0 y A V  hM
theorem cd_audit (V : vT) (i1 : Int32) (j : Int32) : (sp_audit V i1 j).2.2 0 0 = (sp_audit V i1 j).1 := by
  unfold sp_audit
  (repeat' split) <;> rfl
theorem nt_audit (V : vT) (i1 : Int32) (j : Int32) : ¬ (sp_audit V i1 j).1 = 1 := by
  unfold sp_audit
  (repeat' split) <;> (dsimp only; decide)
theorem n0_audit (V : vT) (i1 : Int32) (j : Int32) : (sp_audit V i1 j).1 = 0 := by
  unfold sp_audit
  (repeat' split) <;> rfl
theorem r25_audit {V : vT} (i1 : Int32) (j : Int32) {n : Nat} (hn : n < 1000000) (h : ok_ (V 25 0) n) : ok_ ((sp_audit V i1 j).2.2 25 0) (n + 1) := by
  have e : (sp_audit V i1 j).2.2 25 = V 25 := by
    unfold sp_audit
    (repeat' split) <;> rfl
  rw [e]; exact ok_m h (Nat.le_succ n)
theorem m_audit (l : Launch) (D : va_G) (HB : Heap) (h h0 : hp_T) (y : Nat) (A : Nat → Nat) (V : vT) (i1 : Int32) (j : Int32) (hW : wf V) (hM : mq D h0 h y A V) : ct_M l y_MD_audit (.code y_MD_audit prog_9_method_38_code 3 (Option.some Jvm.ClassFile.FieldType.int)) ({ frames := 1, cells := 0, slots := 0, locals := 30 }) D HB [.ref y, .int i1, .int j] h (fun o h2 => ∃ (cd r : Int32) (V2 : vT), sp_audit V i1 j = (cd, r, V2) ∧ o = .inl (some (.int r)) ∧ mq D h0 h2 y A V2) := c_MD_audit l D HB h h0 y A V i1 j  hM
theorem cd_who (V : vT) (p1 : Int32) (i1 : Int32) : (sp_who V p1 i1).2.2 0 0 = (sp_who V p1 i1).1 := by
  unfold sp_who
  (repeat' split) <;> rfl
theorem nt_who (V : vT) (p1 : Int32) (i1 : Int32) : ¬ (sp_who V p1 i1).1 = 2 := by
  unfold sp_who
  (repeat' split) <;> (dsimp only; decide)
theorem r25_who {V : vT} (p1 : Int32) (i1 : Int32) {n : Nat} (hn : n < 1000000) (h : ok_ (V 25 0) n) : ok_ ((sp_who V p1 i1).2.2 25 0) (n + 1) := by
  have e : (sp_who V p1 i1).2.2 25 = V 25 := by
    unfold sp_who
    (repeat' split) <;> rfl
  rw [e]; exact ok_m h (Nat.le_succ n)
theorem m_who (l : Launch) (D : va_G) (HB : Heap) (h h0 : hp_T) (y : Nat) (A : Nat → Nat) (V : vT) (p1 : Int32) (i1 : Int32) (hW : wf V) (hM : mq D h0 h y A V) : ct_M l y_MD_who (.code y_MD_who prog_9_method_26_code 3 (Option.some Jvm.ClassFile.FieldType.int)) ({ frames := 1, cells := 0, slots := 0, locals := 30 }) D HB [.ref y, .int p1, .int i1] h (fun o h2 => ∃ (cd r : Int32) (V2 : vT), sp_who V p1 i1 = (cd, r, V2) ∧ o = .inl (some (.int r)) ∧ mq D h0 h2 y A V2) := c_MD_who l D HB h h0 y A V p1 i1 hW.2.2.1 (hW.2.2.2.2.2.2.2.2.2.2.2.1 _) hM
theorem cd_acts (V : vT) (u : Int32) (v1 : Int32) : (sp_acts V u v1).2.2 0 0 = (sp_acts V u v1).1 := by
  unfold sp_acts
  (repeat' split) <;> rfl
theorem nt_acts (V : vT) (u : Int32) (v1 : Int32) : ¬ (sp_acts V u v1).1 = 2 := by
  unfold sp_acts
  (repeat' split) <;> (dsimp only; decide)
theorem r25_acts {V : vT} (u : Int32) (v1 : Int32) {n : Nat} (hn : n < 1000000) (h : ok_ (V 25 0) n) : ok_ ((sp_acts V u v1).2.2 25 0) (n + 1) := by
  have e : (sp_acts V u v1).2.2 25 = V 25 := by
    unfold sp_acts
    (repeat' split) <;> rfl
  rw [e]; exact ok_m h (Nat.le_succ n)
theorem m_acts (l : Launch) (D : va_G) (HB : Heap) (h h0 : hp_T) (y : Nat) (A : Nat → Nat) (V : vT) (u : Int32) (v1 : Int32) (hW : wf V) (hM : mq D h0 h y A V) : ct_M l y_MD_acts (.code y_MD_acts prog_9_method_16_code 3 (Option.some Jvm.ClassFile.FieldType.boolean)) ({ frames := 1, cells := 0, slots := 0, locals := 30 }) D HB [.ref y, .int u, .int v1] h (fun o h2 => ∃ (cd r : Int32) (V2 : vT), sp_acts V u v1 = (cd, r, V2) ∧ o = .inl (some (.int r)) ∧ mq D h0 h2 y A V2) := c_MD_acts l D HB h h0 y A V u v1 hW.2.1 hM
theorem cd_surrogate (V : vT) (u : Int32) (v1 : Int32) (b : Int32) : (sp_surrogate V u v1 b).2.2 0 0 = (sp_surrogate V u v1 b).1 := by
  unfold sp_surrogate
  (repeat' split) <;> rfl
theorem nt_surrogate (V : vT) (u : Int32) (v1 : Int32) (b : Int32) : ¬ (sp_surrogate V u v1 b).1 = 2 := by
  unfold sp_surrogate
  (repeat' split) <;> (dsimp only; decide)
theorem r25_surrogate {V : vT} (u : Int32) (v1 : Int32) (b : Int32) {n : Nat} (hn : n < 1000000) (h : ok_ (V 25 0) n) : ok_ ((sp_surrogate V u v1 b).2.2 25 0) (n + 1) := by
  have e : (sp_surrogate V u v1 b).2.2 25 = V 25 := by
    unfold sp_surrogate
    (repeat' split) <;> rfl
  rw [e]; exact ok_m h (Nat.le_succ n)
theorem m_surrogate (l : Launch) (D : va_G) (HB : Heap) (h h0 : hp_T) (y : Nat) (A : Nat → Nat) (V : vT) (u : Int32) (v1 : Int32) (b : Int32) (hW : wf V) (hb : b = 0 ∨ b = 1) (hM : mq D h0 h y A V) : ct_M l y_MD_surrogate (.code y_MD_surrogate prog_9_method_17_code 4 (Option.some Jvm.ClassFile.FieldType.int)) ({ frames := 1, cells := 0, slots := 0, locals := 30 }) D HB [.ref y, .int u, .int v1, .int b] h (fun o h2 => ∃ (cd r : Int32) (V2 : vT), sp_surrogate V u v1 b = (cd, r, V2) ∧ o = .inl (some (.int r)) ∧ mq D h0 h2 y A V2) := c_MD_surrogate l D HB h h0 y A V u v1 b hW.2.1 hb hM
theorem cd_count (V : vT) (k : Int32) : (sp_count V k).2.2 0 0 = (sp_count V k).1 := by
  unfold sp_count
  (repeat' split) <;> rfl
theorem nt_count (V : vT) (k : Int32) : ¬ (sp_count V k).1 = 1 := by
  unfold sp_count
  (repeat' split) <;> (dsimp only; decide)
theorem n0_count (V : vT) (k : Int32) : (sp_count V k).1 = 0 := by
  unfold sp_count
  (repeat' split) <;> rfl
theorem r25_count {V : vT} (k : Int32) {n : Nat} (hn : n < 1000000) (h : ok_ (V 25 0) n) : ok_ ((sp_count V k).2.2 25 0) (n + 1) := by
  have e : (sp_count V k).2.2 25 = V 25 := by
    unfold sp_count
    (repeat' split) <;> rfl
  rw [e]; exact ok_m h (Nat.le_succ n)
theorem m_count (l : Launch) (D : va_G) (HB : Heap) (h h0 : hp_T) (y : Nat) (A : Nat → Nat) (V : vT) (k : Int32) (hW : wf V) (hM : mq D h0 h y A V) : ct_M l y_MD_count (.code y_MD_count prog_9_method_39_code 4 (Option.some Jvm.ClassFile.FieldType.int)) ({ frames := 1, cells := 0, slots := 0, locals := 30 }) D HB [.ref y, .int k] h (fun o h2 => ∃ (cd r : Int32) (V2 : vT), sp_count V k = (cd, r, V2) ∧ o = .inl (some (.int r)) ∧ mq D h0 h2 y A V2) := c_MD_count l D HB h h0 y A V k hW.2.1 hW.2.2.1 hM
theorem k_LW_group_0 : px_dec method_3_code [.aload_n 2, .iconst 0, .aload_n 0, .iload_n 1] 0 = true := by decide +kernel
theorem k_LW_group_12 : px_dec method_3_code [.astore_n 3, .iconst 1] 12 = true := by decide +kernel
theorem d_LW_group_14 : decode method_3_code 14 = .ok (.ireturn, 1) := by decide +kernel
theorem k_LW_group_15 : px_dec method_3_code [.astore_n 3, .iconst 2] 15 = true := by decide +kernel
theorem d_LW_group_17 : decode method_3_code 17 = .ok (.ireturn, 1) := by decide +kernel
theorem d_LW_group_4 : decode method_3_code 4 = .ok (.invokevirtual 7, 3) := by decide +kernel
theorem k_LW_group_7 : px_dec method_3_code [.i2l] 7 = true := by decide +kernel
theorem d_LW_group_8 : decode method_3_code 8 = .ok (.lastore, 1) := by decide +kernel
theorem d_LW_group_9 : decode method_3_code 9 = .ok (.goto 9, 3) := by decide +kernel
theorem k_LW_group_18 : px_dec method_3_code [.iconst 0] 18 = true := by decide +kernel
theorem d_LW_group_19 : decode method_3_code 19 = .ok (.ireturn, 1) := by decide +kernel
set_option maxRecDepth 100000 in
set_option maxHeartbeats 4000000 in
theorem c_LW_group (l : Launch) (D : va_G) (HB : Heap) (h : hp_T) (hlt : l.stackTraces = false) (own : oT) (V : vT) (x ou : Nat) (g : Int32) (f : Nat → Int64) (hX : cr D h own x V) (hW : wf V) (hou : h ou = some (oL D f)) (oo : (own ou).1 = 0) : ct_M l y_LW_group (.codeWith y_LW_group method_3_code 4 (Option.some Jvm.ClassFile.FieldType.int) [((0 : Nat), (9 : Nat), (12 : Nat), (13 : Nat)), ((0 : Nat), (9 : Nat), (15 : Nat), (15 : Nat))]) ({ frames := 10, cells := 8, slots := 200, locals := 350 }) D HB [.ref x, .int g, .ref ou] h (fun o h2 => wq D h own x ou (sp_group V g) o h2) := by
  refine ct_ofW (by decide) (Nat.le_of_ble_eq_true rfl) rfl ?_
  intro p_ e_ s_ m_ r_ b_ t_ c_ C hnm
  obtain ⟨gl, ul, pl, mo, aq, tr, gA, uA, pA, pn, pe, eB, sf, hO, -⟩ := id hX
  refine wk_run C k_LW_group_0 (pc2 := 4) (lv2 := [(0, .ref x), (1, .int g), (2, .ref ou)]) (st2 := [.int g, .ref x, .int 0, .ref ou]) rfl ?_
  refine wk_callV (cl := ("ProfileRights", T_PR, 7)) (rest := [.int 0, .ref ou]) C (o_group l D HB h hlt own V x g hX hW) cs_LW_7 kc_PR_group ki_PR hO.1 rfl rfl rfl (Nat.le_of_ble_eq_true rfl) (Nat.le_of_ble_eq_true rfl) (Nat.le_of_ble_eq_true rfl) (Nat.le_of_ble_eq_true rfl) (Nat.le_of_ble_eq_true rfl) d_LW_group_4 (fun v h2 hq => ?_) (fun E h2 hq => by
      obtain ⟨own2, hp, hc, hs⟩ := id hq
      rcases hp with ⟨-, z⟩ | ⟨-, z⟩ | ⟨z2, z⟩
      · cases z
      · cases Sum.inr.inj z; exact wx_catch C (k := 0) rfl (by decide) (by decide) cl_LW_13 kx_IA_IA (fun j hj => absurd hj (Nat.not_lt_zero j)) (fun ex => by refine wk_run C k_LW_group_12 (pc2 := 14) (lv2 := [(3, .ref ex), (0, .ref x), (1, .int g), (2, .ref ou)]) (st2 := [.int 1]) rfl ?_; exact wk_iret C (wq_1 hq hou oo) (by decide) (by decide) d_LW_group_14)
      · cases Sum.inr.inj z; exact wx_catch C (k := 1) rfl (by decide) (by decide) cl_LW_15 kx_IS_IS (fun j hj z hz => by rw [show j = 0 by omega] at hz; cases hz; exact ⟨by decide, _, cl_LW_13, C.ev.2.2.2.1⟩) (fun ex => by refine wk_run C k_LW_group_15 (pc2 := 17) (lv2 := [(3, .ref ex), (0, .ref x), (1, .int g), (2, .ref ou)]) (st2 := [.int 2]) rfl ?_; exact wk_iret C (wq_2 hq hou oo) (by decide) (by decide) d_LW_group_17))
  obtain ⟨own2, hp, hc, hs⟩ := id hq
  rcases hp with ⟨z1, z⟩ | ⟨-, z⟩ | ⟨-, z⟩
  ·
    have hv : v = some (.int (sp_group V g).2.1) := Sum.inl.inj z
    subst hv
    show Wk _ _ _ _ _ _ _ _ _ _ _ _ _ _ _ _ _ _ _ (.int (sp_group V g).2.1 :: _)
    refine wk_run C k_LW_group_7 (pc2 := 8) (lv2 := [(0, .ref x), (1, .int g), (2, .ref ou)]) (st2 := [.long ((sp_group V g).2.1).toInt64, .int 0, .ref ou]) rfl ?_
    refine wk_last C (an_ou hq hou oo) (nI_in (c := 0) (by decide) (by decide)) d_LW_group_8 ?_
    refine wk_goto C d_LW_group_9 (tgt := 18) (by decide) ?_
    refine wk_run C k_LW_group_18 (pc2 := 19) (lv2 := [(0, .ref x), (1, .int g), (2, .ref ou)]) (st2 := [.int 0]) rfl ?_
    exact wk_iret C (wq_0 hq hou oo _ rfl) (by decide) (by decide) d_LW_group_19
  ·
    cases z
  ·
    cases z
theorem k_LW_move_0 : px_dec method_4_code [.aload_n 3, .iconst 0, .aload_n 0, .iload_n 1, .iload_n 2] 0 = true := by decide +kernel
theorem k_LW_move_13 : px_dec method_4_code [.astore 4, .iconst 1] 13 = true := by decide +kernel
theorem d_LW_move_16 : decode method_4_code 16 = .ok (.ireturn, 1) := by decide +kernel
theorem d_LW_move_5 : decode method_4_code 5 = .ok (.invokevirtual 17, 3) := by decide +kernel
theorem k_LW_move_8 : px_dec method_4_code [.i2l] 8 = true := by decide +kernel
theorem d_LW_move_9 : decode method_4_code 9 = .ok (.lastore, 1) := by decide +kernel
theorem d_LW_move_10 : decode method_4_code 10 = .ok (.goto 7, 3) := by decide +kernel
theorem k_LW_move_17 : px_dec method_4_code [.iconst 0] 17 = true := by decide +kernel
theorem d_LW_move_18 : decode method_4_code 18 = .ok (.ireturn, 1) := by decide +kernel
set_option maxRecDepth 100000 in
set_option maxHeartbeats 4000000 in
theorem c_LW_move (l : Launch) (D : va_G) (HB : Heap) (h : hp_T) (hlt : l.stackTraces = false) (own : oT) (V : vT) (x ou : Nat) (y1 : Int32) (g : Int32) (f : Nat → Int64) (hX : cr D h own x V) (hW : wf V) (hou : h ou = some (oL D f)) (oo : (own ou).1 = 0) : ct_M l y_LW_move (.codeWith y_LW_move method_4_code 5 (Option.some Jvm.ClassFile.FieldType.int) [((0 : Nat), (10 : Nat), (13 : Nat), (13 : Nat))]) ({ frames := 10, cells := 8, slots := 200, locals := 350 }) D HB [.ref x, .int y1, .int g, .ref ou] h (fun o h2 => wq D h own x ou (sp_move V y1 g) o h2) := by
  refine ct_ofW (by decide) (Nat.le_of_ble_eq_true rfl) rfl ?_
  intro p_ e_ s_ m_ r_ b_ t_ c_ C hnm
  obtain ⟨gl, ul, pl, mo, aq, tr, gA, uA, pA, pn, pe, eB, sf, hO, -⟩ := id hX
  refine wk_run C k_LW_move_0 (pc2 := 5) (lv2 := [(0, .ref x), (1, .int y1), (2, .int g), (3, .ref ou)]) (st2 := [.int g, .int y1, .ref x, .int 0, .ref ou]) rfl ?_
  refine wk_callV (cl := ("ProfileRights", T_PR, 7)) (rest := [.int 0, .ref ou]) C (o_move l D HB h hlt own V x y1 g hX hW) cs_LW_17 kc_PR_move ki_PR hO.1 rfl rfl rfl (Nat.le_of_ble_eq_true rfl) (Nat.le_of_ble_eq_true rfl) (Nat.le_of_ble_eq_true rfl) (Nat.le_of_ble_eq_true rfl) (Nat.le_of_ble_eq_true rfl) d_LW_move_5 (fun v h2 hq => ?_) (fun E h2 hq => by
      obtain ⟨own2, hp, hc, hs⟩ := id hq
      rcases hp with ⟨-, z⟩ | ⟨-, z⟩ | ⟨z2, z⟩
      · cases z
      · cases Sum.inr.inj z; exact wx_catch C (k := 0) rfl (by decide) (by decide) cl_LW_13 kx_IA_IA (fun j hj => absurd hj (Nat.not_lt_zero j)) (fun ex => by refine wk_run C k_LW_move_13 (pc2 := 16) (lv2 := [(4, .ref ex), (0, .ref x), (1, .int y1), (2, .int g), (3, .ref ou)]) (st2 := [.int 1]) rfl ?_; exact wk_iret C (wq_1 hq hou oo) (by decide) (by decide) d_LW_move_16)
      · exact absurd z2 (nt_move V y1 g))
  obtain ⟨own2, hp, hc, hs⟩ := id hq
  rcases hp with ⟨z1, z⟩ | ⟨-, z⟩ | ⟨-, z⟩
  ·
    have hv : v = some (.int (sp_move V y1 g).2.1) := Sum.inl.inj z
    subst hv
    show Wk _ _ _ _ _ _ _ _ _ _ _ _ _ _ _ _ _ _ _ (.int (sp_move V y1 g).2.1 :: _)
    refine wk_run C k_LW_move_8 (pc2 := 9) (lv2 := [(0, .ref x), (1, .int y1), (2, .int g), (3, .ref ou)]) (st2 := [.long ((sp_move V y1 g).2.1).toInt64, .int 0, .ref ou]) rfl ?_
    refine wk_last C (an_ou hq hou oo) (nI_in (c := 0) (by decide) (by decide)) d_LW_move_9 ?_
    refine wk_goto C d_LW_move_10 (tgt := 17) (by decide) ?_
    refine wk_run C k_LW_move_17 (pc2 := 18) (lv2 := [(0, .ref x), (1, .int y1), (2, .int g), (3, .ref ou)]) (st2 := [.int 0]) rfl ?_
    exact wk_iret C (wq_0 hq hou oo _ rfl) (by decide) (by decide) d_LW_move_18
  ·
    cases z
  ·
    cases z
theorem k_LW_user_0 : px_dec method_5_code [.aload_n 2, .iconst 0, .aload_n 0, .iload_n 1] 0 = true := by decide +kernel
theorem k_LW_user_12 : px_dec method_5_code [.astore_n 3, .iconst 1] 12 = true := by decide +kernel
theorem d_LW_user_14 : decode method_5_code 14 = .ok (.ireturn, 1) := by decide +kernel
theorem k_LW_user_15 : px_dec method_5_code [.astore_n 3, .iconst 2] 15 = true := by decide +kernel
theorem d_LW_user_17 : decode method_5_code 17 = .ok (.ireturn, 1) := by decide +kernel
theorem d_LW_user_4 : decode method_5_code 4 = .ok (.invokevirtual 21, 3) := by decide +kernel
theorem k_LW_user_7 : px_dec method_5_code [.i2l] 7 = true := by decide +kernel
theorem d_LW_user_8 : decode method_5_code 8 = .ok (.lastore, 1) := by decide +kernel
theorem d_LW_user_9 : decode method_5_code 9 = .ok (.goto 9, 3) := by decide +kernel
theorem k_LW_user_18 : px_dec method_5_code [.iconst 0] 18 = true := by decide +kernel
theorem d_LW_user_19 : decode method_5_code 19 = .ok (.ireturn, 1) := by decide +kernel
set_option maxRecDepth 100000 in
set_option maxHeartbeats 4000000 in
theorem c_LW_user (l : Launch) (D : va_G) (HB : Heap) (h : hp_T) (hlt : l.stackTraces = false) (own : oT) (V : vT) (x ou : Nat) (g : Int32) (f : Nat → Int64) (hX : cr D h own x V) (hW : wf V) (hou : h ou = some (oL D f)) (oo : (own ou).1 = 0) : ct_M l y_LW_user (.codeWith y_LW_user method_5_code 4 (Option.some Jvm.ClassFile.FieldType.int) [((0 : Nat), (9 : Nat), (12 : Nat), (13 : Nat)), ((0 : Nat), (9 : Nat), (15 : Nat), (15 : Nat))]) ({ frames := 10, cells := 8, slots := 200, locals := 350 }) D HB [.ref x, .int g, .ref ou] h (fun o h2 => wq D h own x ou (sp_user V g) o h2) := by
  refine ct_ofW (by decide) (Nat.le_of_ble_eq_true rfl) rfl ?_
  intro p_ e_ s_ m_ r_ b_ t_ c_ C hnm
  obtain ⟨gl, ul, pl, mo, aq, tr, gA, uA, pA, pn, pe, eB, sf, hO, -⟩ := id hX
  refine wk_run C k_LW_user_0 (pc2 := 4) (lv2 := [(0, .ref x), (1, .int g), (2, .ref ou)]) (st2 := [.int g, .ref x, .int 0, .ref ou]) rfl ?_
  refine wk_callV (cl := ("ProfileRights", T_PR, 7)) (rest := [.int 0, .ref ou]) C (o_user l D HB h hlt own V x g hX hW) cs_LW_21 kc_PR_user ki_PR hO.1 rfl rfl rfl (Nat.le_of_ble_eq_true rfl) (Nat.le_of_ble_eq_true rfl) (Nat.le_of_ble_eq_true rfl) (Nat.le_of_ble_eq_true rfl) (Nat.le_of_ble_eq_true rfl) d_LW_user_4 (fun v h2 hq => ?_) (fun E h2 hq => by
      obtain ⟨own2, hp, hc, hs⟩ := id hq
      rcases hp with ⟨-, z⟩ | ⟨-, z⟩ | ⟨z2, z⟩
      · cases z
      · cases Sum.inr.inj z; exact wx_catch C (k := 0) rfl (by decide) (by decide) cl_LW_13 kx_IA_IA (fun j hj => absurd hj (Nat.not_lt_zero j)) (fun ex => by refine wk_run C k_LW_user_12 (pc2 := 14) (lv2 := [(3, .ref ex), (0, .ref x), (1, .int g), (2, .ref ou)]) (st2 := [.int 1]) rfl ?_; exact wk_iret C (wq_1 hq hou oo) (by decide) (by decide) d_LW_user_14)
      · cases Sum.inr.inj z; exact wx_catch C (k := 1) rfl (by decide) (by decide) cl_LW_15 kx_IS_IS (fun j hj z hz => by rw [show j = 0 by omega] at hz; cases hz; exact ⟨by decide, _, cl_LW_13, C.ev.2.2.2.1⟩) (fun ex => by refine wk_run C k_LW_user_15 (pc2 := 17) (lv2 := [(3, .ref ex), (0, .ref x), (1, .int g), (2, .ref ou)]) (st2 := [.int 2]) rfl ?_; exact wk_iret C (wq_2 hq hou oo) (by decide) (by decide) d_LW_user_17))
  obtain ⟨own2, hp, hc, hs⟩ := id hq
  rcases hp with ⟨z1, z⟩ | ⟨-, z⟩ | ⟨-, z⟩
  ·
    have hv : v = some (.int (sp_user V g).2.1) := Sum.inl.inj z
    subst hv
    show Wk _ _ _ _ _ _ _ _ _ _ _ _ _ _ _ _ _ _ _ (.int (sp_user V g).2.1 :: _)
    refine wk_run C k_LW_user_7 (pc2 := 8) (lv2 := [(0, .ref x), (1, .int g), (2, .ref ou)]) (st2 := [.long ((sp_user V g).2.1).toInt64, .int 0, .ref ou]) rfl ?_
    refine wk_last C (an_ou hq hou oo) (nI_in (c := 0) (by decide) (by decide)) d_LW_user_8 ?_
    refine wk_goto C d_LW_user_9 (tgt := 18) (by decide) ?_
    refine wk_run C k_LW_user_18 (pc2 := 19) (lv2 := [(0, .ref x), (1, .int g), (2, .ref ou)]) (st2 := [.int 0]) rfl ?_
    exact wk_iret C (wq_0 hq hou oo _ rfl) (by decide) (by decide) d_LW_user_19
  ·
    cases z
  ·
    cases z
theorem k_LW_terminal_0 : px_dec method_6_code [.aload_n 3, .iconst 0, .aload_n 0, .iload_n 1, .iload_n 2] 0 = true := by decide +kernel
theorem k_LW_terminal_13 : px_dec method_6_code [.astore 4, .iconst 1] 13 = true := by decide +kernel
theorem d_LW_terminal_16 : decode method_6_code 16 = .ok (.ireturn, 1) := by decide +kernel
theorem d_LW_terminal_5 : decode method_6_code 5 = .ok (.invokevirtual 24, 3) := by decide +kernel
theorem k_LW_terminal_8 : px_dec method_6_code [.i2l] 8 = true := by decide +kernel
theorem d_LW_terminal_9 : decode method_6_code 9 = .ok (.lastore, 1) := by decide +kernel
theorem d_LW_terminal_10 : decode method_6_code 10 = .ok (.goto 7, 3) := by decide +kernel
theorem k_LW_terminal_17 : px_dec method_6_code [.iconst 0] 17 = true := by decide +kernel
theorem d_LW_terminal_18 : decode method_6_code 18 = .ok (.ireturn, 1) := by decide +kernel
set_option maxRecDepth 100000 in
set_option maxHeartbeats 4000000 in
theorem c_LW_terminal (l : Launch) (D : va_G) (HB : Heap) (h : hp_T) (hlt : l.stackTraces = false) (own : oT) (V : vT) (x ou : Nat) (u : Int32) (t : Int32) (f : Nat → Int64) (hX : cr D h own x V) (hW : wf V) (hou : h ou = some (oL D f)) (oo : (own ou).1 = 0) : ct_M l y_LW_terminal (.codeWith y_LW_terminal method_6_code 5 (Option.some Jvm.ClassFile.FieldType.int) [((0 : Nat), (10 : Nat), (13 : Nat), (13 : Nat))]) ({ frames := 10, cells := 8, slots := 200, locals := 350 }) D HB [.ref x, .int u, .int t, .ref ou] h (fun o h2 => wq D h own x ou (sp_terminal V u t) o h2) := by
  refine ct_ofW (by decide) (Nat.le_of_ble_eq_true rfl) rfl ?_
  intro p_ e_ s_ m_ r_ b_ t_ c_ C hnm
  obtain ⟨gl, ul, pl, mo, aq, tr, gA, uA, pA, pn, pe, eB, sf, hO, -⟩ := id hX
  refine wk_run C k_LW_terminal_0 (pc2 := 5) (lv2 := [(0, .ref x), (1, .int u), (2, .int t), (3, .ref ou)]) (st2 := [.int t, .int u, .ref x, .int 0, .ref ou]) rfl ?_
  refine wk_callV (cl := ("ProfileRights", T_PR, 7)) (rest := [.int 0, .ref ou]) C (o_terminal l D HB h hlt own V x u t hX hW.2.1) cs_LW_24 kc_PR_terminal ki_PR hO.1 rfl rfl rfl (Nat.le_of_ble_eq_true rfl) (Nat.le_of_ble_eq_true rfl) (Nat.le_of_ble_eq_true rfl) (Nat.le_of_ble_eq_true rfl) (Nat.le_of_ble_eq_true rfl) d_LW_terminal_5 (fun v h2 hq => ?_) (fun E h2 hq => by
      obtain ⟨own2, hp, hc, hs⟩ := id hq
      rcases hp with ⟨-, z⟩ | ⟨-, z⟩ | ⟨z2, z⟩
      · cases z
      · cases Sum.inr.inj z; exact wx_catch C (k := 0) rfl (by decide) (by decide) cl_LW_13 kx_IA_IA (fun j hj => absurd hj (Nat.not_lt_zero j)) (fun ex => by refine wk_run C k_LW_terminal_13 (pc2 := 16) (lv2 := [(4, .ref ex), (0, .ref x), (1, .int u), (2, .int t), (3, .ref ou)]) (st2 := [.int 1]) rfl ?_; exact wk_iret C (wq_1 hq hou oo) (by decide) (by decide) d_LW_terminal_16)
      · exact absurd z2 (nt_terminal V u t))
  obtain ⟨own2, hp, hc, hs⟩ := id hq
  rcases hp with ⟨z1, z⟩ | ⟨-, z⟩ | ⟨-, z⟩
  ·
    have hv : v = some (.int (sp_terminal V u t).2.1) := Sum.inl.inj z
    subst hv
    show Wk _ _ _ _ _ _ _ _ _ _ _ _ _ _ _ _ _ _ _ (.int (sp_terminal V u t).2.1 :: _)
    refine wk_run C k_LW_terminal_8 (pc2 := 9) (lv2 := [(0, .ref x), (1, .int u), (2, .int t), (3, .ref ou)]) (st2 := [.long ((sp_terminal V u t).2.1).toInt64, .int 0, .ref ou]) rfl ?_
    refine wk_last C (an_ou hq hou oo) (nI_in (c := 0) (by decide) (by decide)) d_LW_terminal_9 ?_
    refine wk_goto C d_LW_terminal_10 (tgt := 17) (by decide) ?_
    refine wk_run C k_LW_terminal_17 (pc2 := 18) (lv2 := [(0, .ref x), (1, .int u), (2, .int t), (3, .ref ou)]) (st2 := [.int 0]) rfl ?_
    exact wk_iret C (wq_0 hq hou oo _ rfl) (by decide) (by decide) d_LW_terminal_18
  ·
    cases z
  ·
    cases z
theorem k_LW_revoke_0 : px_dec method_7_code [.aload_n 3, .iconst 0, .aload_n 0, .iload_n 1, .iload_n 2] 0 = true := by decide +kernel
theorem k_LW_revoke_13 : px_dec method_7_code [.astore 4, .iconst 1] 13 = true := by decide +kernel
theorem d_LW_revoke_16 : decode method_7_code 16 = .ok (.ireturn, 1) := by decide +kernel
theorem d_LW_revoke_5 : decode method_7_code 5 = .ok (.invokevirtual 27, 3) := by decide +kernel
theorem k_LW_revoke_8 : px_dec method_7_code [.i2l] 8 = true := by decide +kernel
theorem d_LW_revoke_9 : decode method_7_code 9 = .ok (.lastore, 1) := by decide +kernel
theorem d_LW_revoke_10 : decode method_7_code 10 = .ok (.goto 7, 3) := by decide +kernel
theorem k_LW_revoke_17 : px_dec method_7_code [.iconst 0] 17 = true := by decide +kernel
theorem d_LW_revoke_18 : decode method_7_code 18 = .ok (.ireturn, 1) := by decide +kernel
set_option maxRecDepth 100000 in
set_option maxHeartbeats 4000000 in
theorem c_LW_revoke (l : Launch) (D : va_G) (HB : Heap) (h : hp_T) (hlt : l.stackTraces = false) (own : oT) (V : vT) (x ou : Nat) (u : Int32) (b : Int32) (f : Nat → Int64) (hX : cr D h own x V) (hW : wf V) (hb : b = 0 ∨ b = 1) (hou : h ou = some (oL D f)) (oo : (own ou).1 = 0) : ct_M l y_LW_revoke (.codeWith y_LW_revoke method_7_code 5 (Option.some Jvm.ClassFile.FieldType.int) [((0 : Nat), (10 : Nat), (13 : Nat), (13 : Nat))]) ({ frames := 10, cells := 8, slots := 200, locals := 350 }) D HB [.ref x, .int u, .int b, .ref ou] h (fun o h2 => wq D h own x ou (sp_revoke V u b) o h2) := by
  refine ct_ofW (by decide) (Nat.le_of_ble_eq_true rfl) rfl ?_
  intro p_ e_ s_ m_ r_ b_ t_ c_ C hnm
  obtain ⟨gl, ul, pl, mo, aq, tr, gA, uA, pA, pn, pe, eB, sf, hO, -⟩ := id hX
  refine wk_run C k_LW_revoke_0 (pc2 := 5) (lv2 := [(0, .ref x), (1, .int u), (2, .int b), (3, .ref ou)]) (st2 := [.int b, .int u, .ref x, .int 0, .ref ou]) rfl ?_
  refine wk_callV (cl := ("ProfileRights", T_PR, 7)) (rest := [.int 0, .ref ou]) C (o_revoke l D HB h hlt own V x u b hX hW.2.1 hb) cs_LW_27 kc_PR_revoke ki_PR hO.1 rfl rfl rfl (Nat.le_of_ble_eq_true rfl) (Nat.le_of_ble_eq_true rfl) (Nat.le_of_ble_eq_true rfl) (Nat.le_of_ble_eq_true rfl) (Nat.le_of_ble_eq_true rfl) d_LW_revoke_5 (fun v h2 hq => ?_) (fun E h2 hq => by
      obtain ⟨own2, hp, hc, hs⟩ := id hq
      rcases hp with ⟨-, z⟩ | ⟨-, z⟩ | ⟨z2, z⟩
      · cases z
      · cases Sum.inr.inj z; exact wx_catch C (k := 0) rfl (by decide) (by decide) cl_LW_13 kx_IA_IA (fun j hj => absurd hj (Nat.not_lt_zero j)) (fun ex => by refine wk_run C k_LW_revoke_13 (pc2 := 16) (lv2 := [(4, .ref ex), (0, .ref x), (1, .int u), (2, .int b), (3, .ref ou)]) (st2 := [.int 1]) rfl ?_; exact wk_iret C (wq_1 hq hou oo) (by decide) (by decide) d_LW_revoke_16)
      · exact absurd z2 (nt_revoke V u b))
  obtain ⟨own2, hp, hc, hs⟩ := id hq
  rcases hp with ⟨z1, z⟩ | ⟨-, z⟩ | ⟨-, z⟩
  ·
    have hv : v = some (.int (sp_revoke V u b).2.1) := Sum.inl.inj z
    subst hv
    show Wk _ _ _ _ _ _ _ _ _ _ _ _ _ _ _ _ _ _ _ (.int (sp_revoke V u b).2.1 :: _)
    refine wk_run C k_LW_revoke_8 (pc2 := 9) (lv2 := [(0, .ref x), (1, .int u), (2, .int b), (3, .ref ou)]) (st2 := [.long ((sp_revoke V u b).2.1).toInt64, .int 0, .ref ou]) rfl ?_
    refine wk_last C (an_ou hq hou oo) (nI_in (c := 0) (by decide) (by decide)) d_LW_revoke_9 ?_
    refine wk_goto C d_LW_revoke_10 (tgt := 17) (by decide) ?_
    refine wk_run C k_LW_revoke_17 (pc2 := 18) (lv2 := [(0, .ref x), (1, .int u), (2, .int b), (3, .ref ou)]) (st2 := [.int 0]) rfl ?_
    exact wk_iret C (wq_0 hq hou oo _ rfl) (by decide) (by decide) d_LW_revoke_18
  ·
    cases z
  ·
    cases z
theorem k_LW_pass_0 : px_dec method_8_code [.aload_n 3, .iconst 0, .aload_n 0, .iload_n 1, .iload_n 2] 0 = true := by decide +kernel
theorem k_LW_pass_13 : px_dec method_8_code [.astore 4, .iconst 1] 13 = true := by decide +kernel
theorem d_LW_pass_16 : decode method_8_code 16 = .ok (.ireturn, 1) := by decide +kernel
theorem d_LW_pass_5 : decode method_8_code 5 = .ok (.invokevirtual 31, 3) := by decide +kernel
theorem k_LW_pass_8 : px_dec method_8_code [.i2l] 8 = true := by decide +kernel
theorem d_LW_pass_9 : decode method_8_code 9 = .ok (.lastore, 1) := by decide +kernel
theorem d_LW_pass_10 : decode method_8_code 10 = .ok (.goto 7, 3) := by decide +kernel
theorem k_LW_pass_17 : px_dec method_8_code [.iconst 0] 17 = true := by decide +kernel
theorem d_LW_pass_18 : decode method_8_code 18 = .ok (.ireturn, 1) := by decide +kernel
set_option maxRecDepth 100000 in
set_option maxHeartbeats 4000000 in
theorem c_LW_pass (l : Launch) (D : va_G) (HB : Heap) (h : hp_T) (hlt : l.stackTraces = false) (own : oT) (V : vT) (x ou : Nat) (u : Int32) (b : Int32) (f : Nat → Int64) (hX : cr D h own x V) (hW : wf V) (hb : b = 0 ∨ b = 1) (hou : h ou = some (oL D f)) (oo : (own ou).1 = 0) : ct_M l y_LW_pass (.codeWith y_LW_pass method_8_code 5 (Option.some Jvm.ClassFile.FieldType.int) [((0 : Nat), (10 : Nat), (13 : Nat), (13 : Nat))]) ({ frames := 10, cells := 8, slots := 200, locals := 350 }) D HB [.ref x, .int u, .int b, .ref ou] h (fun o h2 => wq D h own x ou (sp_pass V u b) o h2) := by
  refine ct_ofW (by decide) (Nat.le_of_ble_eq_true rfl) rfl ?_
  intro p_ e_ s_ m_ r_ b_ t_ c_ C hnm
  obtain ⟨gl, ul, pl, mo, aq, tr, gA, uA, pA, pn, pe, eB, sf, hO, -⟩ := id hX
  refine wk_run C k_LW_pass_0 (pc2 := 5) (lv2 := [(0, .ref x), (1, .int u), (2, .int b), (3, .ref ou)]) (st2 := [.int b, .int u, .ref x, .int 0, .ref ou]) rfl ?_
  have ht : ¬ u < 1 ∧ u ≤ V 8 0 → V 5 (nu u) = 0 → V 4 (nu u) = 1 ∨ V 4 (nu u) = 2 ∨ V 4 (nu u) = 3 := fun z => by have ku := ku_ hW.2.1 z; exact hW.2.2.2.2.2.2.2.2.2.2.2.2.1 (nu u) ku.1 ku.2
  refine wk_callV (cl := ("ProfileRights", T_PR, 7)) (rest := [.int 0, .ref ou]) C (o_pass l D HB h hlt own V x u b hX hW.2.1 hb ht) cs_LW_31 kc_PR_pass ki_PR hO.1 rfl rfl rfl (Nat.le_of_ble_eq_true rfl) (Nat.le_of_ble_eq_true rfl) (Nat.le_of_ble_eq_true rfl) (Nat.le_of_ble_eq_true rfl) (Nat.le_of_ble_eq_true rfl) d_LW_pass_5 (fun v h2 hq => ?_) (fun E h2 hq => by
      obtain ⟨own2, hp, hc, hs⟩ := id hq
      rcases hp with ⟨-, z⟩ | ⟨-, z⟩ | ⟨z2, z⟩
      · cases z
      · cases Sum.inr.inj z; exact wx_catch C (k := 0) rfl (by decide) (by decide) cl_LW_13 kx_IA_IA (fun j hj => absurd hj (Nat.not_lt_zero j)) (fun ex => by refine wk_run C k_LW_pass_13 (pc2 := 16) (lv2 := [(4, .ref ex), (0, .ref x), (1, .int u), (2, .int b), (3, .ref ou)]) (st2 := [.int 1]) rfl ?_; exact wk_iret C (wq_1 hq hou oo) (by decide) (by decide) d_LW_pass_16)
      · exact absurd z2 (nt_pass V u b))
  obtain ⟨own2, hp, hc, hs⟩ := id hq
  rcases hp with ⟨z1, z⟩ | ⟨-, z⟩ | ⟨-, z⟩
  ·
    have hv : v = some (.int (sp_pass V u b).2.1) := Sum.inl.inj z
    subst hv
    show Wk _ _ _ _ _ _ _ _ _ _ _ _ _ _ _ _ _ _ _ (.int (sp_pass V u b).2.1 :: _)
    refine wk_run C k_LW_pass_8 (pc2 := 9) (lv2 := [(0, .ref x), (1, .int u), (2, .int b), (3, .ref ou)]) (st2 := [.long ((sp_pass V u b).2.1).toInt64, .int 0, .ref ou]) rfl ?_
    refine wk_last C (an_ou hq hou oo) (nI_in (c := 0) (by decide) (by decide)) d_LW_pass_9 ?_
    refine wk_goto C d_LW_pass_10 (tgt := 17) (by decide) ?_
    refine wk_run C k_LW_pass_17 (pc2 := 18) (lv2 := [(0, .ref x), (1, .int u), (2, .int b), (3, .ref ou)]) (st2 := [.int 0]) rfl ?_
    exact wk_iret C (wq_0 hq hou oo _ rfl) (by decide) (by decide) d_LW_pass_18
  ·
    cases z
  ·
    cases z
theorem k_LW_mode_0 : px_dec method_9_code [.aload_n 3, .iconst 0, .aload_n 0, .iload_n 1, .iload_n 2] 0 = true := by decide +kernel
theorem k_LW_mode_13 : px_dec method_9_code [.astore 4, .iconst 1] 13 = true := by decide +kernel
theorem d_LW_mode_16 : decode method_9_code 16 = .ok (.ireturn, 1) := by decide +kernel
theorem d_LW_mode_5 : decode method_9_code 5 = .ok (.invokevirtual 34, 3) := by decide +kernel
theorem k_LW_mode_8 : px_dec method_9_code [.i2l] 8 = true := by decide +kernel
theorem d_LW_mode_9 : decode method_9_code 9 = .ok (.lastore, 1) := by decide +kernel
theorem d_LW_mode_10 : decode method_9_code 10 = .ok (.goto 7, 3) := by decide +kernel
theorem k_LW_mode_17 : px_dec method_9_code [.iconst 0] 17 = true := by decide +kernel
theorem d_LW_mode_18 : decode method_9_code 18 = .ok (.ireturn, 1) := by decide +kernel
set_option maxRecDepth 100000 in
set_option maxHeartbeats 4000000 in
theorem c_LW_mode (l : Launch) (D : va_G) (HB : Heap) (h : hp_T) (hlt : l.stackTraces = false) (own : oT) (V : vT) (x ou : Nat) (c1 : Int32) (m1 : Int32) (f : Nat → Int64) (hX : cr D h own x V) (hW : wf V) (hou : h ou = some (oL D f)) (oo : (own ou).1 = 0) : ct_M l y_LW_mode (.codeWith y_LW_mode method_9_code 5 (Option.some Jvm.ClassFile.FieldType.int) [((0 : Nat), (10 : Nat), (13 : Nat), (13 : Nat))]) ({ frames := 10, cells := 8, slots := 200, locals := 350 }) D HB [.ref x, .int c1, .int m1, .ref ou] h (fun o h2 => wq D h own x ou (sp_mode V c1 m1) o h2) := by
  refine ct_ofW (by decide) (Nat.le_of_ble_eq_true rfl) rfl ?_
  intro p_ e_ s_ m_ r_ b_ t_ c_ C hnm
  obtain ⟨gl, ul, pl, mo, aq, tr, gA, uA, pA, pn, pe, eB, sf, hO, -⟩ := id hX
  refine wk_run C k_LW_mode_0 (pc2 := 5) (lv2 := [(0, .ref x), (1, .int c1), (2, .int m1), (3, .ref ou)]) (st2 := [.int m1, .int c1, .ref x, .int 0, .ref ou]) rfl ?_
  refine wk_callV (cl := ("ProfileRights", T_PR, 7)) (rest := [.int 0, .ref ou]) C (o_mode l D HB h hlt own V x c1 m1 hX hW) cs_LW_34 kc_PR_mode ki_PR hO.1 rfl rfl rfl (Nat.le_of_ble_eq_true rfl) (Nat.le_of_ble_eq_true rfl) (Nat.le_of_ble_eq_true rfl) (Nat.le_of_ble_eq_true rfl) (Nat.le_of_ble_eq_true rfl) d_LW_mode_5 (fun v h2 hq => ?_) (fun E h2 hq => by
      obtain ⟨own2, hp, hc, hs⟩ := id hq
      rcases hp with ⟨-, z⟩ | ⟨-, z⟩ | ⟨z2, z⟩
      · cases z
      · cases Sum.inr.inj z; exact wx_catch C (k := 0) rfl (by decide) (by decide) cl_LW_13 kx_IA_IA (fun j hj => absurd hj (Nat.not_lt_zero j)) (fun ex => by refine wk_run C k_LW_mode_13 (pc2 := 16) (lv2 := [(4, .ref ex), (0, .ref x), (1, .int c1), (2, .int m1), (3, .ref ou)]) (st2 := [.int 1]) rfl ?_; exact wk_iret C (wq_1 hq hou oo) (by decide) (by decide) d_LW_mode_16)
      · exact absurd z2 (nt_mode V c1 m1))
  obtain ⟨own2, hp, hc, hs⟩ := id hq
  rcases hp with ⟨z1, z⟩ | ⟨-, z⟩ | ⟨-, z⟩
  ·
    have hv : v = some (.int (sp_mode V c1 m1).2.1) := Sum.inl.inj z
    subst hv
    show Wk _ _ _ _ _ _ _ _ _ _ _ _ _ _ _ _ _ _ _ (.int (sp_mode V c1 m1).2.1 :: _)
    refine wk_run C k_LW_mode_8 (pc2 := 9) (lv2 := [(0, .ref x), (1, .int c1), (2, .int m1), (3, .ref ou)]) (st2 := [.long ((sp_mode V c1 m1).2.1).toInt64, .int 0, .ref ou]) rfl ?_
    refine wk_last C (an_ou hq hou oo) (nI_in (c := 0) (by decide) (by decide)) d_LW_mode_9 ?_
    refine wk_goto C d_LW_mode_10 (tgt := 17) (by decide) ?_
    refine wk_run C k_LW_mode_17 (pc2 := 18) (lv2 := [(0, .ref x), (1, .int c1), (2, .int m1), (3, .ref ou)]) (st2 := [.int 0]) rfl ?_
    exact wk_iret C (wq_0 hq hou oo _ rfl) (by decide) (by decide) d_LW_mode_18
  ·
    cases z
  ·
    cases z
theorem k_LW_profile_0 : px_dec method_10_code [.aload_n 3, .iconst 0, .aload_n 0, .iload_n 1, .iload_n 2] 0 = true := by decide +kernel
theorem k_LW_profile_13 : px_dec method_10_code [.astore 4, .iconst 1] 13 = true := by decide +kernel
theorem d_LW_profile_16 : decode method_10_code 16 = .ok (.ireturn, 1) := by decide +kernel
theorem k_LW_profile_17 : px_dec method_10_code [.astore 4, .iconst 2] 17 = true := by decide +kernel
theorem d_LW_profile_20 : decode method_10_code 20 = .ok (.ireturn, 1) := by decide +kernel
theorem d_LW_profile_5 : decode method_10_code 5 = .ok (.invokevirtual 37, 3) := by decide +kernel
theorem k_LW_profile_8 : px_dec method_10_code [.i2l] 8 = true := by decide +kernel
theorem d_LW_profile_9 : decode method_10_code 9 = .ok (.lastore, 1) := by decide +kernel
theorem d_LW_profile_10 : decode method_10_code 10 = .ok (.goto 11, 3) := by decide +kernel
theorem k_LW_profile_21 : px_dec method_10_code [.iconst 0] 21 = true := by decide +kernel
theorem d_LW_profile_22 : decode method_10_code 22 = .ok (.ireturn, 1) := by decide +kernel
set_option maxRecDepth 100000 in
set_option maxHeartbeats 4000000 in
theorem c_LW_profile (l : Launch) (D : va_G) (HB : Heap) (h : hp_T) (hlt : l.stackTraces = false) (own : oT) (V : vT) (x ou : Nat) (c1 : Int32) (u : Int32) (f : Nat → Int64) (hX : cr D h own x V) (hW : wf V) (hou : h ou = some (oL D f)) (oo : (own ou).1 = 0) : ct_M l y_LW_profile (.codeWith y_LW_profile method_10_code 5 (Option.some Jvm.ClassFile.FieldType.int) [((0 : Nat), (10 : Nat), (13 : Nat), (13 : Nat)), ((0 : Nat), (10 : Nat), (17 : Nat), (15 : Nat))]) ({ frames := 10, cells := 8, slots := 200, locals := 350 }) D HB [.ref x, .int c1, .int u, .ref ou] h (fun o h2 => wq D h own x ou (sp_profile V c1 u) o h2) := by
  refine ct_ofW (by decide) (Nat.le_of_ble_eq_true rfl) rfl ?_
  intro p_ e_ s_ m_ r_ b_ t_ c_ C hnm
  obtain ⟨gl, ul, pl, mo, aq, tr, gA, uA, pA, pn, pe, eB, sf, hO, -⟩ := id hX
  refine wk_run C k_LW_profile_0 (pc2 := 5) (lv2 := [(0, .ref x), (1, .int c1), (2, .int u), (3, .ref ou)]) (st2 := [.int u, .int c1, .ref x, .int 0, .ref ou]) rfl ?_
  refine wk_callV (cl := ("ProfileRights", T_PR, 7)) (rest := [.int 0, .ref ou]) C (o_profile l D HB h hlt own V x c1 u hX hW) cs_LW_37 kc_PR_profile ki_PR hO.1 rfl rfl rfl (Nat.le_of_ble_eq_true rfl) (Nat.le_of_ble_eq_true rfl) (Nat.le_of_ble_eq_true rfl) (Nat.le_of_ble_eq_true rfl) (Nat.le_of_ble_eq_true rfl) d_LW_profile_5 (fun v h2 hq => ?_) (fun E h2 hq => by
      obtain ⟨own2, hp, hc, hs⟩ := id hq
      rcases hp with ⟨-, z⟩ | ⟨-, z⟩ | ⟨z2, z⟩
      · cases z
      · cases Sum.inr.inj z; exact wx_catch C (k := 0) rfl (by decide) (by decide) cl_LW_13 kx_IA_IA (fun j hj => absurd hj (Nat.not_lt_zero j)) (fun ex => by refine wk_run C k_LW_profile_13 (pc2 := 16) (lv2 := [(4, .ref ex), (0, .ref x), (1, .int c1), (2, .int u), (3, .ref ou)]) (st2 := [.int 1]) rfl ?_; exact wk_iret C (wq_1 hq hou oo) (by decide) (by decide) d_LW_profile_16)
      · cases Sum.inr.inj z; exact wx_catch C (k := 1) rfl (by decide) (by decide) cl_LW_15 kx_IS_IS (fun j hj z hz => by rw [show j = 0 by omega] at hz; cases hz; exact ⟨by decide, _, cl_LW_13, C.ev.2.2.2.1⟩) (fun ex => by refine wk_run C k_LW_profile_17 (pc2 := 20) (lv2 := [(4, .ref ex), (0, .ref x), (1, .int c1), (2, .int u), (3, .ref ou)]) (st2 := [.int 2]) rfl ?_; exact wk_iret C (wq_2 hq hou oo) (by decide) (by decide) d_LW_profile_20))
  obtain ⟨own2, hp, hc, hs⟩ := id hq
  rcases hp with ⟨z1, z⟩ | ⟨-, z⟩ | ⟨-, z⟩
  ·
    have hv : v = some (.int (sp_profile V c1 u).2.1) := Sum.inl.inj z
    subst hv
    show Wk _ _ _ _ _ _ _ _ _ _ _ _ _ _ _ _ _ _ _ (.int (sp_profile V c1 u).2.1 :: _)
    refine wk_run C k_LW_profile_8 (pc2 := 9) (lv2 := [(0, .ref x), (1, .int c1), (2, .int u), (3, .ref ou)]) (st2 := [.long ((sp_profile V c1 u).2.1).toInt64, .int 0, .ref ou]) rfl ?_
    refine wk_last C (an_ou hq hou oo) (nI_in (c := 0) (by decide) (by decide)) d_LW_profile_9 ?_
    refine wk_goto C d_LW_profile_10 (tgt := 21) (by decide) ?_
    refine wk_run C k_LW_profile_21 (pc2 := 22) (lv2 := [(0, .ref x), (1, .int c1), (2, .int u), (3, .ref ou)]) (st2 := [.int 0]) rfl ?_
    exact wk_iret C (wq_0 hq hou oo _ rfl) (by decide) (by decide) d_LW_profile_22
  ·
    cases z
  ·
    cases z
theorem k_LW_name_0 : px_dec method_11_code [.aload_n 3, .iconst 0, .aload_n 0, .iload_n 1, .iload_n 2] 0 = true := by decide +kernel
theorem k_LW_name_13 : px_dec method_11_code [.astore 4, .iconst 1] 13 = true := by decide +kernel
theorem d_LW_name_16 : decode method_11_code 16 = .ok (.ireturn, 1) := by decide +kernel
theorem k_LW_name_17 : px_dec method_11_code [.astore 4, .iconst 2] 17 = true := by decide +kernel
theorem d_LW_name_20 : decode method_11_code 20 = .ok (.ireturn, 1) := by decide +kernel
theorem d_LW_name_5 : decode method_11_code 5 = .ok (.invokevirtual 40, 3) := by decide +kernel
theorem k_LW_name_8 : px_dec method_11_code [.i2l] 8 = true := by decide +kernel
theorem d_LW_name_9 : decode method_11_code 9 = .ok (.lastore, 1) := by decide +kernel
theorem d_LW_name_10 : decode method_11_code 10 = .ok (.goto 11, 3) := by decide +kernel
theorem k_LW_name_21 : px_dec method_11_code [.iconst 0] 21 = true := by decide +kernel
theorem d_LW_name_22 : decode method_11_code 22 = .ok (.ireturn, 1) := by decide +kernel
set_option maxRecDepth 100000 in
set_option maxHeartbeats 4000000 in
theorem c_LW_name (l : Launch) (D : va_G) (HB : Heap) (h : hp_T) (hlt : l.stackTraces = false) (own : oT) (V : vT) (x ou : Nat) (p1 : Int32) (c1 : Int32) (f : Nat → Int64) (hX : cr D h own x V) (hW : wf V) (hou : h ou = some (oL D f)) (oo : (own ou).1 = 0) : ct_M l y_LW_name (.codeWith y_LW_name method_11_code 5 (Option.some Jvm.ClassFile.FieldType.int) [((0 : Nat), (10 : Nat), (13 : Nat), (13 : Nat)), ((0 : Nat), (10 : Nat), (17 : Nat), (15 : Nat))]) ({ frames := 10, cells := 8, slots := 200, locals := 350 }) D HB [.ref x, .int p1, .int c1, .ref ou] h (fun o h2 => wq D h own x ou (sp_name V p1 c1) o h2) := by
  refine ct_ofW (by decide) (Nat.le_of_ble_eq_true rfl) rfl ?_
  intro p_ e_ s_ m_ r_ b_ t_ c_ C hnm
  obtain ⟨gl, ul, pl, mo, aq, tr, gA, uA, pA, pn, pe, eB, sf, hO, -⟩ := id hX
  refine wk_run C k_LW_name_0 (pc2 := 5) (lv2 := [(0, .ref x), (1, .int p1), (2, .int c1), (3, .ref ou)]) (st2 := [.int c1, .int p1, .ref x, .int 0, .ref ou]) rfl ?_
  refine wk_callV (cl := ("ProfileRights", T_PR, 7)) (rest := [.int 0, .ref ou]) C (o_name l D HB h hlt own V x p1 c1 hX hW) cs_LW_40 kc_PR_name ki_PR hO.1 rfl rfl rfl (Nat.le_of_ble_eq_true rfl) (Nat.le_of_ble_eq_true rfl) (Nat.le_of_ble_eq_true rfl) (Nat.le_of_ble_eq_true rfl) (Nat.le_of_ble_eq_true rfl) d_LW_name_5 (fun v h2 hq => ?_) (fun E h2 hq => by
      obtain ⟨own2, hp, hc, hs⟩ := id hq
      rcases hp with ⟨-, z⟩ | ⟨-, z⟩ | ⟨z2, z⟩
      · cases z
      · cases Sum.inr.inj z; exact wx_catch C (k := 0) rfl (by decide) (by decide) cl_LW_13 kx_IA_IA (fun j hj => absurd hj (Nat.not_lt_zero j)) (fun ex => by refine wk_run C k_LW_name_13 (pc2 := 16) (lv2 := [(4, .ref ex), (0, .ref x), (1, .int p1), (2, .int c1), (3, .ref ou)]) (st2 := [.int 1]) rfl ?_; exact wk_iret C (wq_1 hq hou oo) (by decide) (by decide) d_LW_name_16)
      · cases Sum.inr.inj z; exact wx_catch C (k := 1) rfl (by decide) (by decide) cl_LW_15 kx_IS_IS (fun j hj z hz => by rw [show j = 0 by omega] at hz; cases hz; exact ⟨by decide, _, cl_LW_13, C.ev.2.2.2.1⟩) (fun ex => by refine wk_run C k_LW_name_17 (pc2 := 20) (lv2 := [(4, .ref ex), (0, .ref x), (1, .int p1), (2, .int c1), (3, .ref ou)]) (st2 := [.int 2]) rfl ?_; exact wk_iret C (wq_2 hq hou oo) (by decide) (by decide) d_LW_name_20))
  obtain ⟨own2, hp, hc, hs⟩ := id hq
  rcases hp with ⟨z1, z⟩ | ⟨-, z⟩ | ⟨-, z⟩
  ·
    have hv : v = some (.int (sp_name V p1 c1).2.1) := Sum.inl.inj z
    subst hv
    show Wk _ _ _ _ _ _ _ _ _ _ _ _ _ _ _ _ _ _ _ (.int (sp_name V p1 c1).2.1 :: _)
    refine wk_run C k_LW_name_8 (pc2 := 9) (lv2 := [(0, .ref x), (1, .int p1), (2, .int c1), (3, .ref ou)]) (st2 := [.long ((sp_name V p1 c1).2.1).toInt64, .int 0, .ref ou]) rfl ?_
    refine wk_last C (an_ou hq hou oo) (nI_in (c := 0) (by decide) (by decide)) d_LW_name_9 ?_
    refine wk_goto C d_LW_name_10 (tgt := 21) (by decide) ?_
    refine wk_run C k_LW_name_21 (pc2 := 22) (lv2 := [(0, .ref x), (1, .int p1), (2, .int c1), (3, .ref ou)]) (st2 := [.int 0]) rfl ?_
    exact wk_iret C (wq_0 hq hou oo _ rfl) (by decide) (by decide) d_LW_name_22
  ·
    cases z
  ·
    cases z
theorem k_LW_universal_0 : px_dec method_12_code [.aload 4, .iconst 0, .aload_n 0, .iload_n 1, .iload_n 2, .iload_n 3] 0 = true := by decide +kernel
theorem k_LW_universal_15 : px_dec method_12_code [.astore 5, .iconst 1] 15 = true := by decide +kernel
theorem d_LW_universal_18 : decode method_12_code 18 = .ok (.ireturn, 1) := by decide +kernel
theorem d_LW_universal_7 : decode method_12_code 7 = .ok (.invokevirtual 43, 3) := by decide +kernel
theorem k_LW_universal_10 : px_dec method_12_code [.i2l] 10 = true := by decide +kernel
theorem d_LW_universal_11 : decode method_12_code 11 = .ok (.lastore, 1) := by decide +kernel
theorem d_LW_universal_12 : decode method_12_code 12 = .ok (.goto 7, 3) := by decide +kernel
theorem k_LW_universal_19 : px_dec method_12_code [.iconst 0] 19 = true := by decide +kernel
theorem d_LW_universal_20 : decode method_12_code 20 = .ok (.ireturn, 1) := by decide +kernel
set_option maxRecDepth 100000 in
set_option maxHeartbeats 4000000 in
theorem c_LW_universal (l : Launch) (D : va_G) (HB : Heap) (h : hp_T) (hlt : l.stackTraces = false) (own : oT) (V : vT) (x ou : Nat) (p1 : Int32) (a : Int32) (m1 : Int32) (f : Nat → Int64) (hX : cr D h own x V) (hW : wf V) (hou : h ou = some (oL D f)) (oo : (own ou).1 = 0) : ct_M l y_LW_universal (.codeWith y_LW_universal method_12_code 6 (Option.some Jvm.ClassFile.FieldType.int) [((0 : Nat), (12 : Nat), (15 : Nat), (13 : Nat))]) ({ frames := 10, cells := 8, slots := 200, locals := 350 }) D HB [.ref x, .int p1, .int a, .int m1, .ref ou] h (fun o h2 => wq D h own x ou (sp_universal V p1 a m1) o h2) := by
  refine ct_ofW (by decide) (Nat.le_of_ble_eq_true rfl) rfl ?_
  intro p_ e_ s_ m_ r_ b_ t_ c_ C hnm
  obtain ⟨gl, ul, pl, mo, aq, tr, gA, uA, pA, pn, pe, eB, sf, hO, -⟩ := id hX
  refine wk_run C k_LW_universal_0 (pc2 := 7) (lv2 := [(0, .ref x), (1, .int p1), (2, .int a), (3, .int m1), (4, .ref ou)]) (st2 := [.int m1, .int a, .int p1, .ref x, .int 0, .ref ou]) rfl ?_
  refine wk_callV (cl := ("ProfileRights", T_PR, 7)) (rest := [.int 0, .ref ou]) C (o_universal l D HB h hlt own V x p1 a m1 hX hW) cs_LW_43 kc_PR_universal ki_PR hO.1 rfl rfl rfl (Nat.le_of_ble_eq_true rfl) (Nat.le_of_ble_eq_true rfl) (Nat.le_of_ble_eq_true rfl) (Nat.le_of_ble_eq_true rfl) (Nat.le_of_ble_eq_true rfl) d_LW_universal_7 (fun v h2 hq => ?_) (fun E h2 hq => by
      obtain ⟨own2, hp, hc, hs⟩ := id hq
      rcases hp with ⟨-, z⟩ | ⟨-, z⟩ | ⟨z2, z⟩
      · cases z
      · cases Sum.inr.inj z; exact wx_catch C (k := 0) rfl (by decide) (by decide) cl_LW_13 kx_IA_IA (fun j hj => absurd hj (Nat.not_lt_zero j)) (fun ex => by refine wk_run C k_LW_universal_15 (pc2 := 18) (lv2 := [(5, .ref ex), (0, .ref x), (1, .int p1), (2, .int a), (3, .int m1), (4, .ref ou)]) (st2 := [.int 1]) rfl ?_; exact wk_iret C (wq_1 hq hou oo) (by decide) (by decide) d_LW_universal_18)
      · exact absurd z2 (nt_universal V p1 a m1))
  obtain ⟨own2, hp, hc, hs⟩ := id hq
  rcases hp with ⟨z1, z⟩ | ⟨-, z⟩ | ⟨-, z⟩
  ·
    have hv : v = some (.int (sp_universal V p1 a m1).2.1) := Sum.inl.inj z
    subst hv
    show Wk _ _ _ _ _ _ _ _ _ _ _ _ _ _ _ _ _ _ _ (.int (sp_universal V p1 a m1).2.1 :: _)
    refine wk_run C k_LW_universal_10 (pc2 := 11) (lv2 := [(0, .ref x), (1, .int p1), (2, .int a), (3, .int m1), (4, .ref ou)]) (st2 := [.long ((sp_universal V p1 a m1).2.1).toInt64, .int 0, .ref ou]) rfl ?_
    refine wk_last C (an_ou hq hou oo) (nI_in (c := 0) (by decide) (by decide)) d_LW_universal_11 ?_
    refine wk_goto C d_LW_universal_12 (tgt := 19) (by decide) ?_
    refine wk_run C k_LW_universal_19 (pc2 := 20) (lv2 := [(0, .ref x), (1, .int p1), (2, .int a), (3, .int m1), (4, .ref ou)]) (st2 := [.int 0]) rfl ?_
    exact wk_iret C (wq_0 hq hou oo _ rfl) (by decide) (by decide) d_LW_universal_20
  ·
    cases z
  ·
    cases z
theorem k_LW_permit_0 : px_dec method_13_code [.aload 4, .iconst 0, .aload_n 0, .iload_n 1, .iload_n 2, .iload_n 3] 0 = true := by decide +kernel
theorem k_LW_permit_15 : px_dec method_13_code [.astore 5, .iconst 1] 15 = true := by decide +kernel
theorem d_LW_permit_18 : decode method_13_code 18 = .ok (.ireturn, 1) := by decide +kernel
theorem k_LW_permit_19 : px_dec method_13_code [.astore 5, .iconst 2] 19 = true := by decide +kernel
theorem d_LW_permit_22 : decode method_13_code 22 = .ok (.ireturn, 1) := by decide +kernel
theorem d_LW_permit_7 : decode method_13_code 7 = .ok (.invokevirtual 47, 3) := by decide +kernel
theorem k_LW_permit_10 : px_dec method_13_code [.i2l] 10 = true := by decide +kernel
theorem d_LW_permit_11 : decode method_13_code 11 = .ok (.lastore, 1) := by decide +kernel
theorem d_LW_permit_12 : decode method_13_code 12 = .ok (.goto 11, 3) := by decide +kernel
theorem k_LW_permit_23 : px_dec method_13_code [.iconst 0] 23 = true := by decide +kernel
theorem d_LW_permit_24 : decode method_13_code 24 = .ok (.ireturn, 1) := by decide +kernel
set_option maxRecDepth 100000 in
set_option maxHeartbeats 4000000 in
theorem c_LW_permit (l : Launch) (D : va_G) (HB : Heap) (h : hp_T) (hlt : l.stackTraces = false) (own : oT) (V : vT) (x ou : Nat) (p1 : Int32) (q : Int32) (a : Int32) (f : Nat → Int64) (hX : cr D h own x V) (hW : wf V) (hou : h ou = some (oL D f)) (oo : (own ou).1 = 0) : ct_M l y_LW_permit (.codeWith y_LW_permit method_13_code 6 (Option.some Jvm.ClassFile.FieldType.int) [((0 : Nat), (12 : Nat), (15 : Nat), (13 : Nat)), ((0 : Nat), (12 : Nat), (19 : Nat), (15 : Nat))]) ({ frames := 10, cells := 8, slots := 200, locals := 350 }) D HB [.ref x, .int p1, .int q, .int a, .ref ou] h (fun o h2 => wq D h own x ou (sp_permit V p1 q a) o h2) := by
  refine ct_ofW (by decide) (Nat.le_of_ble_eq_true rfl) rfl ?_
  intro p_ e_ s_ m_ r_ b_ t_ c_ C hnm
  obtain ⟨gl, ul, pl, mo, aq, tr, gA, uA, pA, pn, pe, eB, sf, hO, -⟩ := id hX
  refine wk_run C k_LW_permit_0 (pc2 := 7) (lv2 := [(0, .ref x), (1, .int p1), (2, .int q), (3, .int a), (4, .ref ou)]) (st2 := [.int a, .int q, .int p1, .ref x, .int 0, .ref ou]) rfl ?_
  refine wk_callV (cl := ("ProfileRights", T_PR, 7)) (rest := [.int 0, .ref ou]) C (o_permit l D HB h hlt own V x p1 q a hX hW) cs_LW_47 kc_PR_permit ki_PR hO.1 rfl rfl rfl (Nat.le_of_ble_eq_true rfl) (Nat.le_of_ble_eq_true rfl) (Nat.le_of_ble_eq_true rfl) (Nat.le_of_ble_eq_true rfl) (Nat.le_of_ble_eq_true rfl) d_LW_permit_7 (fun v h2 hq => ?_) (fun E h2 hq => by
      obtain ⟨own2, hp, hc, hs⟩ := id hq
      rcases hp with ⟨-, z⟩ | ⟨-, z⟩ | ⟨z2, z⟩
      · cases z
      · cases Sum.inr.inj z; exact wx_catch C (k := 0) rfl (by decide) (by decide) cl_LW_13 kx_IA_IA (fun j hj => absurd hj (Nat.not_lt_zero j)) (fun ex => by refine wk_run C k_LW_permit_15 (pc2 := 18) (lv2 := [(5, .ref ex), (0, .ref x), (1, .int p1), (2, .int q), (3, .int a), (4, .ref ou)]) (st2 := [.int 1]) rfl ?_; exact wk_iret C (wq_1 hq hou oo) (by decide) (by decide) d_LW_permit_18)
      · cases Sum.inr.inj z; exact wx_catch C (k := 1) rfl (by decide) (by decide) cl_LW_15 kx_IS_IS (fun j hj z hz => by rw [show j = 0 by omega] at hz; cases hz; exact ⟨by decide, _, cl_LW_13, C.ev.2.2.2.1⟩) (fun ex => by refine wk_run C k_LW_permit_19 (pc2 := 22) (lv2 := [(5, .ref ex), (0, .ref x), (1, .int p1), (2, .int q), (3, .int a), (4, .ref ou)]) (st2 := [.int 2]) rfl ?_; exact wk_iret C (wq_2 hq hou oo) (by decide) (by decide) d_LW_permit_22))
  obtain ⟨own2, hp, hc, hs⟩ := id hq
  rcases hp with ⟨z1, z⟩ | ⟨-, z⟩ | ⟨-, z⟩
  ·
    have hv : v = some (.int (sp_permit V p1 q a).2.1) := Sum.inl.inj z
    subst hv
    show Wk _ _ _ _ _ _ _ _ _ _ _ _ _ _ _ _ _ _ _ (.int (sp_permit V p1 q a).2.1 :: _)
    refine wk_run C k_LW_permit_10 (pc2 := 11) (lv2 := [(0, .ref x), (1, .int p1), (2, .int q), (3, .int a), (4, .ref ou)]) (st2 := [.long ((sp_permit V p1 q a).2.1).toInt64, .int 0, .ref ou]) rfl ?_
    refine wk_last C (an_ou hq hou oo) (nI_in (c := 0) (by decide) (by decide)) d_LW_permit_11 ?_
    refine wk_goto C d_LW_permit_12 (tgt := 23) (by decide) ?_
    refine wk_run C k_LW_permit_23 (pc2 := 24) (lv2 := [(0, .ref x), (1, .int p1), (2, .int q), (3, .int a), (4, .ref ou)]) (st2 := [.int 0]) rfl ?_
    exact wk_iret C (wq_0 hq hou oo _ rfl) (by decide) (by decide) d_LW_permit_24
  ·
    cases z
  ·
    cases z
theorem k_LW_condition_0 : px_dec method_14_code [.aload 5, .iconst 0, .aload_n 0, .iload_n 1, .iload_n 2, .iload_n 3, .iload 4] 0 = true := by decide +kernel
theorem k_LW_condition_17 : px_dec method_14_code [.astore 6, .iconst 1] 17 = true := by decide +kernel
theorem d_LW_condition_20 : decode method_14_code 20 = .ok (.ireturn, 1) := by decide +kernel
theorem d_LW_condition_9 : decode method_14_code 9 = .ok (.invokevirtual 50, 3) := by decide +kernel
theorem k_LW_condition_12 : px_dec method_14_code [.i2l] 12 = true := by decide +kernel
theorem d_LW_condition_13 : decode method_14_code 13 = .ok (.lastore, 1) := by decide +kernel
theorem d_LW_condition_14 : decode method_14_code 14 = .ok (.goto 7, 3) := by decide +kernel
theorem k_LW_condition_21 : px_dec method_14_code [.iconst 0] 21 = true := by decide +kernel
theorem d_LW_condition_22 : decode method_14_code 22 = .ok (.ireturn, 1) := by decide +kernel
set_option maxRecDepth 100000 in
set_option maxHeartbeats 4000000 in
theorem c_LW_condition (l : Launch) (D : va_G) (HB : Heap) (h : hp_T) (hlt : l.stackTraces = false) (own : oT) (V : vT) (x ou : Nat) (p1 : Int32) (q : Int32) (t : Int32) (b : Int32) (f : Nat → Int64) (hX : cr D h own x V) (hW : wf V) (hou : h ou = some (oL D f)) (oo : (own ou).1 = 0) : ct_M l y_LW_condition (.codeWith y_LW_condition method_14_code 7 (Option.some Jvm.ClassFile.FieldType.int) [((0 : Nat), (14 : Nat), (17 : Nat), (13 : Nat))]) ({ frames := 10, cells := 8, slots := 200, locals := 350 }) D HB [.ref x, .int p1, .int q, .int t, .int b, .ref ou] h (fun o h2 => wq D h own x ou (sp_condition V p1 q t b) o h2) := by
  refine ct_ofW (by decide) (Nat.le_of_ble_eq_true rfl) rfl ?_
  intro p_ e_ s_ m_ r_ b_ t_ c_ C hnm
  obtain ⟨gl, ul, pl, mo, aq, tr, gA, uA, pA, pn, pe, eB, sf, hO, -⟩ := id hX
  refine wk_run C k_LW_condition_0 (pc2 := 9) (lv2 := [(0, .ref x), (1, .int p1), (2, .int q), (3, .int t), (4, .int b), (5, .ref ou)]) (st2 := [.int b, .int t, .int q, .int p1, .ref x, .int 0, .ref ou]) rfl ?_
  refine wk_callV (cl := ("ProfileRights", T_PR, 7)) (rest := [.int 0, .ref ou]) C (o_condition l D HB h hlt own V x p1 q t b hX hW) cs_LW_50 kc_PR_condition ki_PR hO.1 rfl rfl rfl (Nat.le_of_ble_eq_true rfl) (Nat.le_of_ble_eq_true rfl) (Nat.le_of_ble_eq_true rfl) (Nat.le_of_ble_eq_true rfl) (Nat.le_of_ble_eq_true rfl) d_LW_condition_9 (fun v h2 hq => ?_) (fun E h2 hq => by
      obtain ⟨own2, hp, hc, hs⟩ := id hq
      rcases hp with ⟨-, z⟩ | ⟨-, z⟩ | ⟨z2, z⟩
      · cases z
      · cases Sum.inr.inj z; exact wx_catch C (k := 0) rfl (by decide) (by decide) cl_LW_13 kx_IA_IA (fun j hj => absurd hj (Nat.not_lt_zero j)) (fun ex => by refine wk_run C k_LW_condition_17 (pc2 := 20) (lv2 := [(6, .ref ex), (0, .ref x), (1, .int p1), (2, .int q), (3, .int t), (4, .int b), (5, .ref ou)]) (st2 := [.int 1]) rfl ?_; exact wk_iret C (wq_1 hq hou oo) (by decide) (by decide) d_LW_condition_20)
      · exact absurd z2 (nt_condition V p1 q t b))
  obtain ⟨own2, hp, hc, hs⟩ := id hq
  rcases hp with ⟨z1, z⟩ | ⟨-, z⟩ | ⟨-, z⟩
  ·
    have hv : v = some (.int (sp_condition V p1 q t b).2.1) := Sum.inl.inj z
    subst hv
    show Wk _ _ _ _ _ _ _ _ _ _ _ _ _ _ _ _ _ _ _ (.int (sp_condition V p1 q t b).2.1 :: _)
    refine wk_run C k_LW_condition_12 (pc2 := 13) (lv2 := [(0, .ref x), (1, .int p1), (2, .int q), (3, .int t), (4, .int b), (5, .ref ou)]) (st2 := [.long ((sp_condition V p1 q t b).2.1).toInt64, .int 0, .ref ou]) rfl ?_
    refine wk_last C (an_ou hq hou oo) (nI_in (c := 0) (by decide) (by decide)) d_LW_condition_13 ?_
    refine wk_goto C d_LW_condition_14 (tgt := 21) (by decide) ?_
    refine wk_run C k_LW_condition_21 (pc2 := 22) (lv2 := [(0, .ref x), (1, .int p1), (2, .int q), (3, .int t), (4, .int b), (5, .ref ou)]) (st2 := [.int 0]) rfl ?_
    exact wk_iret C (wq_0 hq hou oo _ rfl) (by decide) (by decide) d_LW_condition_22
  ·
    cases z
  ·
    cases z
theorem k_LW_may_0 : px_dec method_15_code [.aload 6, .iconst 0, .aload_n 0, .iload_n 1, .iload_n 2, .iload_n 3, .lload 4] 0 = true := by decide +kernel
theorem k_LW_may_17 : px_dec method_15_code [.astore 7, .iconst 1] 17 = true := by decide +kernel
theorem d_LW_may_20 : decode method_15_code 20 = .ok (.ireturn, 1) := by decide +kernel
theorem d_LW_may_9 : decode method_15_code 9 = .ok (.invokevirtual 54, 3) := by decide +kernel
theorem k_LW_may_12 : px_dec method_15_code [.i2l] 12 = true := by decide +kernel
theorem d_LW_may_13 : decode method_15_code 13 = .ok (.lastore, 1) := by decide +kernel
theorem d_LW_may_14 : decode method_15_code 14 = .ok (.goto 7, 3) := by decide +kernel
theorem k_LW_may_21 : px_dec method_15_code [.iconst 0] 21 = true := by decide +kernel
theorem d_LW_may_22 : decode method_15_code 22 = .ok (.ireturn, 1) := by decide +kernel
set_option maxRecDepth 100000 in
set_option maxHeartbeats 4000000 in
theorem c_LW_may (l : Launch) (D : va_G) (HB : Heap) (h : hp_T) (hlt : l.stackTraces = false) (own : oT) (V : vT) (x ou : Nat) (u : Int32) (c1 : Int32) (a : Int32) (t : Int64) (f : Nat → Int64) (hX : cr D h own x V) (hW : wf V) (hR : ok_ (V 25 0) 1000000) (hou : h ou = some (oL D f)) (oo : (own ou).1 = 0) : ct_M l y_LW_may (.codeWith y_LW_may method_15_code 8 (Option.some Jvm.ClassFile.FieldType.int) [((0 : Nat), (14 : Nat), (17 : Nat), (13 : Nat))]) ({ frames := 10, cells := 8, slots := 200, locals := 350 }) D HB [.ref x, .int u, .int c1, .int a, .long t, .ref ou] h (fun o h2 => wq D h own x ou (sp_may V u c1 a t) o h2) := by
  refine ct_ofW (by decide) (Nat.le_of_ble_eq_true rfl) rfl ?_
  intro p_ e_ s_ m_ r_ b_ t_ c_ C hnm
  obtain ⟨gl, ul, pl, mo, aq, tr, gA, uA, pA, pn, pe, eB, sf, hO, -⟩ := id hX
  refine wk_run C k_LW_may_0 (pc2 := 9) (lv2 := [(0, .ref x), (1, .int u), (2, .int c1), (3, .int a), (4, .long t), (6, .ref ou)]) (st2 := [.long t, .int a, .int c1, .int u, .ref x, .int 0, .ref ou]) rfl ?_
  refine wk_callV (cl := ("ProfileRights", T_PR, 7)) (rest := [.int 0, .ref ou]) C (o_may l D HB h hlt own V x u c1 a t hX hW hR) cs_LW_54 kc_PR_may ki_PR hO.1 rfl rfl rfl (Nat.le_of_ble_eq_true rfl) (Nat.le_of_ble_eq_true rfl) (Nat.le_of_ble_eq_true rfl) (Nat.le_of_ble_eq_true rfl) (Nat.le_of_ble_eq_true rfl) d_LW_may_9 (fun v h2 hq => ?_) (fun E h2 hq => by
      obtain ⟨own2, hp, hc, hs⟩ := id hq
      rcases hp with ⟨-, z⟩ | ⟨-, z⟩ | ⟨z2, z⟩
      · cases z
      · cases Sum.inr.inj z; exact wx_catch C (k := 0) rfl (by decide) (by decide) cl_LW_13 kx_IA_IA (fun j hj => absurd hj (Nat.not_lt_zero j)) (fun ex => by refine wk_run C k_LW_may_17 (pc2 := 20) (lv2 := [(7, .ref ex), (0, .ref x), (1, .int u), (2, .int c1), (3, .int a), (4, .long t), (6, .ref ou)]) (st2 := [.int 1]) rfl ?_; exact wk_iret C (wq_1 hq hou oo) (by decide) (by decide) d_LW_may_20)
      · exact absurd z2 (nt_may V u c1 a t))
  obtain ⟨own2, hp, hc, hs⟩ := id hq
  rcases hp with ⟨z1, z⟩ | ⟨-, z⟩ | ⟨-, z⟩
  ·
    have hv : v = some (.int (sp_may V u c1 a t).2.1) := Sum.inl.inj z
    subst hv
    show Wk _ _ _ _ _ _ _ _ _ _ _ _ _ _ _ _ _ _ _ (.int (sp_may V u c1 a t).2.1 :: _)
    refine wk_run C k_LW_may_12 (pc2 := 13) (lv2 := [(0, .ref x), (1, .int u), (2, .int c1), (3, .int a), (4, .long t), (6, .ref ou)]) (st2 := [.long ((sp_may V u c1 a t).2.1).toInt64, .int 0, .ref ou]) rfl ?_
    refine wk_last C (an_ou hq hou oo) (nI_in (c := 0) (by decide) (by decide)) d_LW_may_13 ?_
    refine wk_goto C d_LW_may_14 (tgt := 21) (by decide) ?_
    refine wk_run C k_LW_may_21 (pc2 := 22) (lv2 := [(0, .ref x), (1, .int u), (2, .int c1), (3, .int a), (4, .long t), (6, .ref ou)]) (st2 := [.int 0]) rfl ?_
    exact wk_iret C (wq_0 hq hou oo _ rfl) (by decide) (by decide) d_LW_may_22
  ·
    cases z
  ·
    cases z
theorem k_LW_who_0 : px_dec method_16_code [.aload_n 3, .iconst 0, .aload_n 0, .iload_n 1, .iload_n 2] 0 = true := by decide +kernel
theorem k_LW_who_13 : px_dec method_16_code [.astore 4, .iconst 1] 13 = true := by decide +kernel
theorem d_LW_who_16 : decode method_16_code 16 = .ok (.ireturn, 1) := by decide +kernel
theorem d_LW_who_5 : decode method_16_code 5 = .ok (.invokevirtual 58, 3) := by decide +kernel
theorem k_LW_who_8 : px_dec method_16_code [.i2l] 8 = true := by decide +kernel
theorem d_LW_who_9 : decode method_16_code 9 = .ok (.lastore, 1) := by decide +kernel
theorem d_LW_who_10 : decode method_16_code 10 = .ok (.goto 7, 3) := by decide +kernel
theorem k_LW_who_17 : px_dec method_16_code [.iconst 0] 17 = true := by decide +kernel
theorem d_LW_who_18 : decode method_16_code 18 = .ok (.ireturn, 1) := by decide +kernel
set_option maxRecDepth 100000 in
set_option maxHeartbeats 4000000 in
theorem c_LW_who (l : Launch) (D : va_G) (HB : Heap) (h : hp_T) (hlt : l.stackTraces = false) (own : oT) (V : vT) (x ou : Nat) (p1 : Int32) (i1 : Int32) (f : Nat → Int64) (hX : cr D h own x V) (hW : wf V) (hou : h ou = some (oL D f)) (oo : (own ou).1 = 0) : ct_M l y_LW_who (.codeWith y_LW_who method_16_code 5 (Option.some Jvm.ClassFile.FieldType.int) [((0 : Nat), (10 : Nat), (13 : Nat), (13 : Nat))]) ({ frames := 10, cells := 8, slots := 200, locals := 350 }) D HB [.ref x, .int p1, .int i1, .ref ou] h (fun o h2 => wq D h own x ou (sp_who V p1 i1) o h2) := by
  refine ct_ofW (by decide) (Nat.le_of_ble_eq_true rfl) rfl ?_
  intro p_ e_ s_ m_ r_ b_ t_ c_ C hnm
  obtain ⟨gl, ul, pl, mo, aq, tr, gA, uA, pA, pn, pe, eB, sf, hO, -⟩ := id hX
  refine wk_run C k_LW_who_0 (pc2 := 5) (lv2 := [(0, .ref x), (1, .int p1), (2, .int i1), (3, .ref ou)]) (st2 := [.int i1, .int p1, .ref x, .int 0, .ref ou]) rfl ?_
  refine wk_callV (cl := ("ProfileRights", T_PR, 7)) (rest := [.int 0, .ref ou]) C (o_who l D HB h hlt own V x p1 i1 hX hW) cs_LW_58 kc_PR_who ki_PR hO.1 rfl rfl rfl (Nat.le_of_ble_eq_true rfl) (Nat.le_of_ble_eq_true rfl) (Nat.le_of_ble_eq_true rfl) (Nat.le_of_ble_eq_true rfl) (Nat.le_of_ble_eq_true rfl) d_LW_who_5 (fun v h2 hq => ?_) (fun E h2 hq => by
      obtain ⟨own2, hp, hc, hs⟩ := id hq
      rcases hp with ⟨-, z⟩ | ⟨-, z⟩ | ⟨z2, z⟩
      · cases z
      · cases Sum.inr.inj z; exact wx_catch C (k := 0) rfl (by decide) (by decide) cl_LW_13 kx_IA_IA (fun j hj => absurd hj (Nat.not_lt_zero j)) (fun ex => by refine wk_run C k_LW_who_13 (pc2 := 16) (lv2 := [(4, .ref ex), (0, .ref x), (1, .int p1), (2, .int i1), (3, .ref ou)]) (st2 := [.int 1]) rfl ?_; exact wk_iret C (wq_1 hq hou oo) (by decide) (by decide) d_LW_who_16)
      · exact absurd z2 (nt_who V p1 i1))
  obtain ⟨own2, hp, hc, hs⟩ := id hq
  rcases hp with ⟨z1, z⟩ | ⟨-, z⟩ | ⟨-, z⟩
  ·
    have hv : v = some (.int (sp_who V p1 i1).2.1) := Sum.inl.inj z
    subst hv
    show Wk _ _ _ _ _ _ _ _ _ _ _ _ _ _ _ _ _ _ _ (.int (sp_who V p1 i1).2.1 :: _)
    refine wk_run C k_LW_who_8 (pc2 := 9) (lv2 := [(0, .ref x), (1, .int p1), (2, .int i1), (3, .ref ou)]) (st2 := [.long ((sp_who V p1 i1).2.1).toInt64, .int 0, .ref ou]) rfl ?_
    refine wk_last C (an_ou hq hou oo) (nI_in (c := 0) (by decide) (by decide)) d_LW_who_9 ?_
    refine wk_goto C d_LW_who_10 (tgt := 17) (by decide) ?_
    refine wk_run C k_LW_who_17 (pc2 := 18) (lv2 := [(0, .ref x), (1, .int p1), (2, .int i1), (3, .ref ou)]) (st2 := [.int 0]) rfl ?_
    exact wk_iret C (wq_0 hq hou oo _ rfl) (by decide) (by decide) d_LW_who_18
  ·
    cases z
  ·
    cases z
theorem k_LW_acts_0 : px_dec method_17_code [.aload_n 3, .iconst 0, .aload_n 0, .iload_n 1, .iload_n 2] 0 = true := by decide +kernel
theorem k_LW_acts_20 : px_dec method_17_code [.astore 4, .iconst 1] 20 = true := by decide +kernel
theorem d_LW_acts_23 : decode method_17_code 23 = .ok (.ireturn, 1) := by decide +kernel
theorem d_LW_acts_5 : decode method_17_code 5 = .ok (.invokevirtual 61, 3) := by decide +kernel
theorem d_LW_acts_8 : decode method_17_code 8 = .ok (.ifCond .eq 7, 3) := by decide +kernel
theorem k_LW_acts_15 : px_dec method_17_code [.lconst 0] 15 = true := by decide +kernel
theorem d_LW_acts_16 : decode method_17_code 16 = .ok (.lastore, 1) := by decide +kernel
theorem d_LW_acts_17 : decode method_17_code 17 = .ok (.goto 7, 3) := by decide +kernel
theorem k_LW_acts_24 : px_dec method_17_code [.iconst 0] 24 = true := by decide +kernel
theorem d_LW_acts_25 : decode method_17_code 25 = .ok (.ireturn, 1) := by decide +kernel
theorem k_LW_acts_11 : px_dec method_17_code [.lconst 1] 11 = true := by decide +kernel
theorem d_LW_acts_12 : decode method_17_code 12 = .ok (.goto 4, 3) := by decide +kernel
set_option maxRecDepth 100000 in
set_option maxHeartbeats 4000000 in
theorem c_LW_acts (l : Launch) (D : va_G) (HB : Heap) (h : hp_T) (hlt : l.stackTraces = false) (own : oT) (V : vT) (x ou : Nat) (u : Int32) (v1 : Int32) (f : Nat → Int64) (hX : cr D h own x V) (hW : wf V) (hou : h ou = some (oL D f)) (oo : (own ou).1 = 0) : ct_M l y_LW_acts (.codeWith y_LW_acts method_17_code 5 (Option.some Jvm.ClassFile.FieldType.int) [((0 : Nat), (17 : Nat), (20 : Nat), (13 : Nat))]) ({ frames := 10, cells := 8, slots := 200, locals := 350 }) D HB [.ref x, .int u, .int v1, .ref ou] h (fun o h2 => wq D h own x ou (sp_acts V u v1) o h2) := by
  refine ct_ofW (by decide) (Nat.le_of_ble_eq_true rfl) rfl ?_
  intro p_ e_ s_ m_ r_ b_ t_ c_ C hnm
  obtain ⟨gl, ul, pl, mo, aq, tr, gA, uA, pA, pn, pe, eB, sf, hO, -⟩ := id hX
  refine wk_run C k_LW_acts_0 (pc2 := 5) (lv2 := [(0, .ref x), (1, .int u), (2, .int v1), (3, .ref ou)]) (st2 := [.int v1, .int u, .ref x, .int 0, .ref ou]) rfl ?_
  refine wk_callV (cl := ("ProfileRights", T_PR, 7)) (rest := [.int 0, .ref ou]) C (o_acts l D HB h hlt own V x u v1 hX hW) cs_LW_61 kc_PR_acts ki_PR hO.1 rfl rfl rfl (Nat.le_of_ble_eq_true rfl) (Nat.le_of_ble_eq_true rfl) (Nat.le_of_ble_eq_true rfl) (Nat.le_of_ble_eq_true rfl) (Nat.le_of_ble_eq_true rfl) d_LW_acts_5 (fun v h2 hq => ?_) (fun E h2 hq => by
      obtain ⟨own2, hp, hc, hs⟩ := id hq
      rcases hp with ⟨-, z⟩ | ⟨-, z⟩ | ⟨z2, z⟩
      · cases z
      · cases Sum.inr.inj z; exact wx_catch C (k := 0) rfl (by decide) (by decide) cl_LW_13 kx_IA_IA (fun j hj => absurd hj (Nat.not_lt_zero j)) (fun ex => by refine wk_run C k_LW_acts_20 (pc2 := 23) (lv2 := [(4, .ref ex), (0, .ref x), (1, .int u), (2, .int v1), (3, .ref ou)]) (st2 := [.int 1]) rfl ?_; exact wk_iret C (wq_1 hq hou oo) (by decide) (by decide) d_LW_acts_23)
      · exact absurd z2 (nt_acts V u v1))
  obtain ⟨own2, hp, hc, hs⟩ := id hq
  rcases hp with ⟨z1, z⟩ | ⟨-, z⟩ | ⟨-, z⟩
  ·
    have hv := Sum.inl.inj z
    subst hv
    have h01 : (sp_acts V u v1).2.1 = 0 ∨ (sp_acts V u v1).2.1 = 1 := by unfold sp_acts; (repeat' split) <;> (dsimp only; decide)
    show Wk _ _ _ _ _ _ _ _ _ _ _ _ _ _ _ _ _ _ _ (.int (sp_acts V u v1).2.1 :: _)
    refine wk_br C d_LW_acts_8 (P := ((sp_acts V u v1).2.1) = 0) (tgt := 15) (rest := [.int 0, .ref ou]) rfl (by decide) (fun c1 => ?_) (fun c1 => ?_)
    ·
      refine wk_run C k_LW_acts_15 (pc2 := 16) (lv2 := [(0, .ref x), (1, .int u), (2, .int v1), (3, .ref ou)]) (st2 := [.long 0, .int 0, .ref ou]) rfl ?_
      refine wk_last C (an_ou hq hou oo) (nI_in (c := 0) (by decide) (by decide)) d_LW_acts_16 ?_
      refine wk_goto C d_LW_acts_17 (tgt := 24) (by decide) ?_
      refine wk_run C k_LW_acts_24 (pc2 := 25) (lv2 := [(0, .ref x), (1, .int u), (2, .int v1), (3, .ref ou)]) (st2 := [.int 0]) rfl ?_
      exact wk_iret C (wq_0 hq hou oo _ (by rw [c1]; rfl)) (by decide) (by decide) d_LW_acts_25
    ·
      refine wk_run C k_LW_acts_11 (pc2 := 12) (lv2 := [(0, .ref x), (1, .int u), (2, .int v1), (3, .ref ou)]) (st2 := [.long 1, .int 0, .ref ou]) rfl ?_
      refine wk_goto C d_LW_acts_12 (tgt := 16) (by decide) ?_
      refine wk_last C (an_ou hq hou oo) (nI_in (c := 0) (by decide) (by decide)) d_LW_acts_16 ?_
      refine wk_goto C d_LW_acts_17 (tgt := 24) (by decide) ?_
      refine wk_run C k_LW_acts_24 (pc2 := 25) (lv2 := [(0, .ref x), (1, .int u), (2, .int v1), (3, .ref ou)]) (st2 := [.int 0]) rfl ?_
      exact wk_iret C (wq_0 hq hou oo _ (by rw [h01.resolve_left c1]; rfl)) (by decide) (by decide) d_LW_acts_25
  ·
    cases z
  ·
    cases z
theorem k_LW_surrogate_0 : px_dec method_18_code [.aload 4, .iconst 0, .aload_n 0, .iload_n 1, .iload_n 2, .iload_n 3] 0 = true := by decide +kernel
theorem k_LW_surrogate_15 : px_dec method_18_code [.astore 5, .iconst 1] 15 = true := by decide +kernel
theorem d_LW_surrogate_18 : decode method_18_code 18 = .ok (.ireturn, 1) := by decide +kernel
theorem d_LW_surrogate_7 : decode method_18_code 7 = .ok (.invokevirtual 65, 3) := by decide +kernel
theorem k_LW_surrogate_10 : px_dec method_18_code [.i2l] 10 = true := by decide +kernel
theorem d_LW_surrogate_11 : decode method_18_code 11 = .ok (.lastore, 1) := by decide +kernel
theorem d_LW_surrogate_12 : decode method_18_code 12 = .ok (.goto 7, 3) := by decide +kernel
theorem k_LW_surrogate_19 : px_dec method_18_code [.iconst 0] 19 = true := by decide +kernel
theorem d_LW_surrogate_20 : decode method_18_code 20 = .ok (.ireturn, 1) := by decide +kernel
set_option maxRecDepth 100000 in
set_option maxHeartbeats 4000000 in
theorem c_LW_surrogate (l : Launch) (D : va_G) (HB : Heap) (h : hp_T) (hlt : l.stackTraces = false) (own : oT) (V : vT) (x ou : Nat) (u : Int32) (v1 : Int32) (b : Int32) (f : Nat → Int64) (hX : cr D h own x V) (hW : wf V) (hb : b = 0 ∨ b = 1) (hou : h ou = some (oL D f)) (oo : (own ou).1 = 0) : ct_M l y_LW_surrogate (.codeWith y_LW_surrogate method_18_code 6 (Option.some Jvm.ClassFile.FieldType.int) [((0 : Nat), (12 : Nat), (15 : Nat), (13 : Nat))]) ({ frames := 10, cells := 8, slots := 200, locals := 350 }) D HB [.ref x, .int u, .int v1, .int b, .ref ou] h (fun o h2 => wq D h own x ou (sp_surrogate V u v1 b) o h2) := by
  refine ct_ofW (by decide) (Nat.le_of_ble_eq_true rfl) rfl ?_
  intro p_ e_ s_ m_ r_ b_ t_ c_ C hnm
  obtain ⟨gl, ul, pl, mo, aq, tr, gA, uA, pA, pn, pe, eB, sf, hO, -⟩ := id hX
  refine wk_run C k_LW_surrogate_0 (pc2 := 7) (lv2 := [(0, .ref x), (1, .int u), (2, .int v1), (3, .int b), (4, .ref ou)]) (st2 := [.int b, .int v1, .int u, .ref x, .int 0, .ref ou]) rfl ?_
  refine wk_callV (cl := ("ProfileRights", T_PR, 7)) (rest := [.int 0, .ref ou]) C (o_surrogate l D HB h hlt own V x u v1 b hX hW hb) cs_LW_65 kc_PR_surrogate ki_PR hO.1 rfl rfl rfl (Nat.le_of_ble_eq_true rfl) (Nat.le_of_ble_eq_true rfl) (Nat.le_of_ble_eq_true rfl) (Nat.le_of_ble_eq_true rfl) (Nat.le_of_ble_eq_true rfl) d_LW_surrogate_7 (fun v h2 hq => ?_) (fun E h2 hq => by
      obtain ⟨own2, hp, hc, hs⟩ := id hq
      rcases hp with ⟨-, z⟩ | ⟨-, z⟩ | ⟨z2, z⟩
      · cases z
      · cases Sum.inr.inj z; exact wx_catch C (k := 0) rfl (by decide) (by decide) cl_LW_13 kx_IA_IA (fun j hj => absurd hj (Nat.not_lt_zero j)) (fun ex => by refine wk_run C k_LW_surrogate_15 (pc2 := 18) (lv2 := [(5, .ref ex), (0, .ref x), (1, .int u), (2, .int v1), (3, .int b), (4, .ref ou)]) (st2 := [.int 1]) rfl ?_; exact wk_iret C (wq_1 hq hou oo) (by decide) (by decide) d_LW_surrogate_18)
      · exact absurd z2 (nt_surrogate V u v1 b))
  obtain ⟨own2, hp, hc, hs⟩ := id hq
  rcases hp with ⟨z1, z⟩ | ⟨-, z⟩ | ⟨-, z⟩
  ·
    have hv : v = some (.int (sp_surrogate V u v1 b).2.1) := Sum.inl.inj z
    subst hv
    show Wk _ _ _ _ _ _ _ _ _ _ _ _ _ _ _ _ _ _ _ (.int (sp_surrogate V u v1 b).2.1 :: _)
    refine wk_run C k_LW_surrogate_10 (pc2 := 11) (lv2 := [(0, .ref x), (1, .int u), (2, .int v1), (3, .int b), (4, .ref ou)]) (st2 := [.long ((sp_surrogate V u v1 b).2.1).toInt64, .int 0, .ref ou]) rfl ?_
    refine wk_last C (an_ou hq hou oo) (nI_in (c := 0) (by decide) (by decide)) d_LW_surrogate_11 ?_
    refine wk_goto C d_LW_surrogate_12 (tgt := 19) (by decide) ?_
    refine wk_run C k_LW_surrogate_19 (pc2 := 20) (lv2 := [(0, .ref x), (1, .int u), (2, .int v1), (3, .int b), (4, .ref ou)]) (st2 := [.int 0]) rfl ?_
    exact wk_iret C (wq_0 hq hou oo _ rfl) (by decide) (by decide) d_LW_surrogate_20
  ·
    cases z
  ·
    cases z
