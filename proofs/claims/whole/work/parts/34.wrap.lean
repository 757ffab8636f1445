theorem k_groupY (l : Launch) (D : va_G) (HB : Heap) (h : hp_T) (own : oT) (V : vT) (x gl ul pl mo aq tr : Nat) (la : Int32) (gA uA pA pn pe : Nat → Nat) (eB : Nat → Nat → Nat) (sf : Nat → Int64) (hO : cO h own x gl ul pl mo aq tr la) (hGL : cL D h own 11 0 gl (nu (V 7 0)) (fun k => gA (k + 1))) (hN : ok_ (V 7 0) 20) (hG : cG h own (nu (V 7 0)) gA V) (u : Int32) (hu : ¬ u < 1 ∧ u ≤ V 7 0) : ct_M l y_PR_groupAt (.code y_PR_groupAt prog_1_method_22_code 2 (Option.some (Jvm.ClassFile.FieldType.object "ProfileRights$Group"))) { frames := 6, cells := 1, slots := 6, locals := 90 } D HB [.ref x, .int u] h (fun o h2 => o = .inl (some (.ref (gA (nu u)))) ∧ h2 = h) := by
  obtain ⟨b, hb, -, -⟩ := hGL
  have h2 := hN.2
  rw [hN.1] at hu
  have ku := ok_u hu (by omega)
  have e : nu u - 1 + 1 = nu u := by omega
  have k := c_PR_groupAtY l D HB h x gl ul pl mo aq tr la hO.1 b (nu (V 7 0)) (fun k => gA (k + 1)) hb (by omega) u _ (by rw [e]; exact (hG (nu u) ku.1 ku.2.1).1) hu
  simp only [e] at k
  exact k
theorem k_groupN (l : Launch) (D : va_G) (HB : Heap) (h : hp_T) (own : oT) (V : vT) (x gl ul pl mo aq tr : Nat) (la : Int32) (gA uA pA pn pe : Nat → Nat) (eB : Nat → Nat → Nat) (sf : Nat → Int64) (hO : cO h own x gl ul pl mo aq tr la) (hGL : cL D h own 11 0 gl (nu (V 7 0)) (fun k => gA (k + 1))) (hN : ok_ (V 7 0) 20) (hlt : l.stackTraces = false) (u : Int32) (hu : ¬ (¬ u < 1 ∧ u ≤ V 7 0)) : ct_M l y_PR_groupAt (.code y_PR_groupAt prog_1_method_22_code 2 (Option.some (Jvm.ClassFile.FieldType.object "ProfileRights$Group"))) { frames := 6, cells := 1, slots := 6, locals := 90 } D HB [.ref x, .int u] h (fun o h2 => o = .inr eA ∧ h2 = h) := by
  obtain ⟨b, hb, -, -⟩ := hGL
  have h2 := hN.2
  rw [hN.1] at hu
  exact c_PR_groupAtN l D HB h x gl ul pl mo aq tr la hO.1 b (nu (V 7 0)) (fun k => gA (k + 1)) hb (by omega) u hlt hu
theorem k_userY (l : Launch) (D : va_G) (HB : Heap) (h : hp_T) (own : oT) (V : vT) (x gl ul pl mo aq tr : Nat) (la : Int32) (gA uA pA pn pe : Nat → Nat) (eB : Nat → Nat → Nat) (sf : Nat → Int64) (hO : cO h own x gl ul pl mo aq tr la) (hUL : cL D h own 12 0 ul (nu (V 8 0)) (fun k => uA (k + 1))) (hN : ok_ (V 8 0) 40) (hU : cU h own (nu (V 8 0)) gA uA sf V) (u : Int32) (hu : ¬ u < 1 ∧ u ≤ V 8 0) : ct_M l y_PR_userAt (.code y_PR_userAt prog_1_method_24_code 2 (Option.some (Jvm.ClassFile.FieldType.object "ProfileRights$User"))) { frames := 6, cells := 1, slots := 6, locals := 90 } D HB [.ref x, .int u] h (fun o h2 => o = .inl (some (.ref (uA (nu u)))) ∧ h2 = h) := by
  obtain ⟨b, hb, -, -⟩ := hUL
  have h2 := hN.2
  rw [hN.1] at hu
  have ku := ok_u hu (by omega)
  have e : nu u - 1 + 1 = nu u := by omega
  have k := c_PR_userAtY l D HB h x gl ul pl mo aq tr la hO.1 b (nu (V 8 0)) (fun k => uA (k + 1)) hb (by omega) u _ (by rw [e]; exact (hU (nu u) ku.1 ku.2.1).1) hu
  simp only [e] at k
  exact k
theorem k_userN (l : Launch) (D : va_G) (HB : Heap) (h : hp_T) (own : oT) (V : vT) (x gl ul pl mo aq tr : Nat) (la : Int32) (gA uA pA pn pe : Nat → Nat) (eB : Nat → Nat → Nat) (sf : Nat → Int64) (hO : cO h own x gl ul pl mo aq tr la) (hUL : cL D h own 12 0 ul (nu (V 8 0)) (fun k => uA (k + 1))) (hN : ok_ (V 8 0) 40) (hlt : l.stackTraces = false) (u : Int32) (hu : ¬ (¬ u < 1 ∧ u ≤ V 8 0)) : ct_M l y_PR_userAt (.code y_PR_userAt prog_1_method_24_code 2 (Option.some (Jvm.ClassFile.FieldType.object "ProfileRights$User"))) { frames := 6, cells := 1, slots := 6, locals := 90 } D HB [.ref x, .int u] h (fun o h2 => o = .inr eA ∧ h2 = h) := by
  obtain ⟨b, hb, -, -⟩ := hUL
  have h2 := hN.2
  rw [hN.1] at hu
  exact c_PR_userAtN l D HB h x gl ul pl mo aq tr la hO.1 b (nu (V 8 0)) (fun k => uA (k + 1)) hb (by omega) u hlt hu
theorem k_profileY (l : Launch) (D : va_G) (HB : Heap) (h : hp_T) (own : oT) (V : vT) (x gl ul pl mo aq tr : Nat) (la : Int32) (gA uA pA pn pe : Nat → Nat) (eB : Nat → Nat → Nat) (sf : Nat → Int64) (hO : cO h own x gl ul pl mo aq tr la) (hPL : cL D h own 13 0 pl (nu (V 9 0)) (fun k => pA (k + 1))) (hN : ok_ (V 9 0) 60) (hP : cP D h own (nu (V 9 0)) pA pn pe eB V) (u : Int32) (hu : ¬ u < 1 ∧ u ≤ V 9 0) : ct_M l y_PR_profileAt (.code y_PR_profileAt prog_1_method_25_code 2 (Option.some (Jvm.ClassFile.FieldType.object "ProfileRights$Profile"))) { frames := 6, cells := 1, slots := 6, locals := 90 } D HB [.ref x, .int u] h (fun o h2 => o = .inl (some (.ref (pA (nu u)))) ∧ h2 = h) := by
  obtain ⟨b, hb, -, -⟩ := hPL
  have h2 := hN.2
  rw [hN.1] at hu
  have ku := ok_u hu (by omega)
  have e : nu u - 1 + 1 = nu u := by omega
  have k := c_PR_profileAtY l D HB h x gl ul pl mo aq tr la hO.1 b (nu (V 9 0)) (fun k => pA (k + 1)) hb (by omega) u _ (by rw [e]; exact (hP (nu u) ku.1 ku.2.1).1.1) hu
  simp only [e] at k
  exact k
theorem k_profileN (l : Launch) (D : va_G) (HB : Heap) (h : hp_T) (own : oT) (V : vT) (x gl ul pl mo aq tr : Nat) (la : Int32) (gA uA pA pn pe : Nat → Nat) (eB : Nat → Nat → Nat) (sf : Nat → Int64) (hO : cO h own x gl ul pl mo aq tr la) (hPL : cL D h own 13 0 pl (nu (V 9 0)) (fun k => pA (k + 1))) (hN : ok_ (V 9 0) 60) (hlt : l.stackTraces = false) (u : Int32) (hu : ¬ (¬ u < 1 ∧ u ≤ V 9 0)) : ct_M l y_PR_profileAt (.code y_PR_profileAt prog_1_method_25_code 2 (Option.some (Jvm.ClassFile.FieldType.object "ProfileRights$Profile"))) { frames := 6, cells := 1, slots := 6, locals := 90 } D HB [.ref x, .int u] h (fun o h2 => o = .inr eA ∧ h2 = h) := by
  obtain ⟨b, hb, -, -⟩ := hPL
  have h2 := hN.2
  rw [hN.1] at hu
  exact c_PR_profileAtN l D HB h x gl ul pl mo aq tr la hO.1 b (nu (V 9 0)) (fun k => pA (k + 1)) hb (by omega) u hlt hu
theorem k_gonY (l : Launch) (D : va_G) (HB : Heap) (h : hp_T) (own : oT) (V : vT) (x gl ul pl mo aq tr : Nat) (la : Int32) (gA uA pA pn pe : Nat → Nat) (eB : Nat → Nat → Nat) (sf : Nat → Int64) (hO : cO h own x gl ul pl mo aq tr la) (hGL : cL D h own 11 0 gl (nu (V 7 0)) (fun k => gA (k + 1))) (hN : ok_ (V 7 0) 20) (hG : cG h own (nu (V 7 0)) gA V) (u : Int32) (hu : u = 0 ∨ ¬ u < 1 ∧ u ≤ V 7 0) : ct_M l y_PR_groupOrNone (.code y_PR_groupOrNone prog_1_method_23_code 2 (Option.some (Jvm.ClassFile.FieldType.object "ProfileRights$Group"))) { frames := 7, cells := 1, slots := 6, locals := 111 } D HB [.ref x, .int u] h (fun o h2 => o = .inl (some (pv_ gA u)) ∧ h2 = h) := by
  by_cases z : u = 0
  · subst z; rw [pv_0 rfl]; exact c_PR_groupOrNoneZ l D HB h x gl ul pl mo aq tr la hO.1
  · rw [pv_n z]
    replace hu := hu.resolve_left z
    obtain ⟨b, hb, -, -⟩ := hGL
    have h2 := hN.2
    rw [hN.1] at hu
    have ku := ok_u hu (by omega)
    have e : nu u - 1 + 1 = nu u := by omega
    have k := c_PR_groupOrNoneY l D HB h x gl ul pl mo aq tr la hO.1 b (nu (V 7 0)) (fun k => gA (k + 1)) hb (by omega) u z _ (by rw [e]; exact (hG (nu u) ku.1 ku.2.1).1) hu
    simp only [e] at k
    exact k
theorem k_gonN (l : Launch) (D : va_G) (HB : Heap) (h : hp_T) (own : oT) (V : vT) (x gl ul pl mo aq tr : Nat) (la : Int32) (gA uA pA pn pe : Nat → Nat) (eB : Nat → Nat → Nat) (sf : Nat → Int64) (hO : cO h own x gl ul pl mo aq tr la) (hGL : cL D h own 11 0 gl (nu (V 7 0)) (fun k => gA (k + 1))) (hN : ok_ (V 7 0) 20) (hlt : l.stackTraces = false) (u : Int32) (hu : ¬ (u = 0 ∨ ¬ u < 1 ∧ u ≤ V 7 0)) : ct_M l y_PR_groupOrNone (.code y_PR_groupOrNone prog_1_method_23_code 2 (Option.some (Jvm.ClassFile.FieldType.object "ProfileRights$Group"))) { frames := 7, cells := 1, slots := 6, locals := 111 } D HB [.ref x, .int u] h (fun o h2 => o = .inr eA ∧ h2 = h) := by
  obtain ⟨b, hb, -, -⟩ := hGL
  have h2 := hN.2
  have z : ¬ u = 0 := fun z => hu (Or.inl z)
  have hu2 : ¬ (¬ u < 1 ∧ u ≤ V 7 0) := fun z => hu (Or.inr z)
  rw [hN.1] at hu2
  exact c_PR_groupOrNoneN l D HB h x gl ul pl mo aq tr la hO.1 b (nu (V 7 0)) (fun k => gA (k + 1)) hb (by omega) u z hlt hu2
theorem k_holY (l : Launch) (D : va_G) (HB : Heap) (h : hp_T) (own : oT) (V : vT) (x gl ul pl mo aq tr : Nat) (la : Int32) (gA uA pA pn pe : Nat → Nat) (eB : Nat → Nat → Nat) (sf : Nat → Int64) (hO : cO h own x gl ul pl mo aq tr la) (hGL : cL D h own 11 0 gl (nu (V 7 0)) (fun k => gA (k + 1))) (hUL : cL D h own 12 0 ul (nu (V 8 0)) (fun k => uA (k + 1))) (h7 : ok_ (V 7 0) 20) (h8 : ok_ (V 8 0) 40) (hG : cG h own (nu (V 7 0)) gA V) (hU : cU h own (nu (V 8 0)) gA uA sf V) (u : Int32) (hu : ho_ V u) : ct_M l y_PR_testHolder (.code y_PR_testHolder prog_1_method_26_code 2 (Option.none : Option Jvm.ClassFile.FieldType)) { frames := 7, cells := 1, slots := 6, locals := 111 } D HB [.ref x, .int u] h (fun o h2 => o = .inl none ∧ h2 = h) := by
  obtain ⟨b, hb, -, -⟩ := hUL
  obtain ⟨b2, hb2, -, -⟩ := hGL
  have e7 := h7.2
  have e8 := h8.2
  rcases hu with ⟨h1, hu⟩ | ⟨h1, hu⟩
  · rw [h8.1] at hu
    have ku := ok_u hu (by omega)
    have e : nu u - 1 + 1 = nu u := by omega
    exact c_PR_testHolderU l D HB h x gl ul pl mo aq tr la hO.1 b (nu (V 8 0)) (fun k => uA (k + 1)) hb (by omega) b2 (nu (V 7 0)) (fun k => gA (k + 1)) hb2 (by omega) u h1 _ (by rw [e]; exact (hU (nu u) ku.1 ku.2.1).1) hu
  · rw [h7.1] at hu
    have ku := ok_u hu (by omega)
    have e : nu (0 - u) - 1 + 1 = nu (0 - u) := by omega
    exact c_PR_testHolderG l D HB h x gl ul pl mo aq tr la hO.1 b (nu (V 8 0)) (fun k => uA (k + 1)) hb (by omega) b2 (nu (V 7 0)) (fun k => gA (k + 1)) hb2 (by omega) u h1 _ (by rw [e]; exact (hG (nu (0 - u)) ku.1 ku.2.1).1) hu
theorem k_holN (l : Launch) (D : va_G) (HB : Heap) (h : hp_T) (own : oT) (V : vT) (x gl ul pl mo aq tr : Nat) (la : Int32) (gA uA pA pn pe : Nat → Nat) (eB : Nat → Nat → Nat) (sf : Nat → Int64) (hO : cO h own x gl ul pl mo aq tr la) (hGL : cL D h own 11 0 gl (nu (V 7 0)) (fun k => gA (k + 1))) (hUL : cL D h own 12 0 ul (nu (V 8 0)) (fun k => uA (k + 1))) (h7 : ok_ (V 7 0) 20) (h8 : ok_ (V 8 0) 40) (hlt : l.stackTraces = false) (u : Int32) (hu : ¬ ho_ V u) : ct_M l y_PR_testHolder (.code y_PR_testHolder prog_1_method_26_code 2 (Option.none : Option Jvm.ClassFile.FieldType)) { frames := 7, cells := 1, slots := 6, locals := 111 } D HB [.ref x, .int u] h (fun o h2 => o = .inr eA ∧ h2 = h) := by
  obtain ⟨b, hb, -, -⟩ := hUL
  obtain ⟨b2, hb2, -, -⟩ := hGL
  have e7 := h7.2
  have e8 := h8.2
  by_cases h1 : 0 < u
  · have hu2 : ¬ (¬ u < 1 ∧ u ≤ V 8 0) := fun z => hu (Or.inl ⟨h1, z⟩)
    rw [h8.1] at hu2
    exact c_PR_testHolderV l D HB h x gl ul pl mo aq tr la hO.1 b (nu (V 8 0)) (fun k => uA (k + 1)) hb (by omega) b2 (nu (V 7 0)) (fun k => gA (k + 1)) hb2 (by omega) u h1 hlt hu2
  · have hu2 : ¬ (¬ (0 - u) < 1 ∧ (0 - u) ≤ V 7 0) := fun z => hu (Or.inr ⟨h1, z⟩)
    rw [h7.1] at hu2
    exact c_PR_testHolderH l D HB h x gl ul pl mo aq tr la hO.1 b (nu (V 8 0)) (fun k => uA (k + 1)) hb (by omega) b2 (nu (V 7 0)) (fun k => gA (k + 1)) hb2 (by omega) u h1 hlt hu2
theorem k_testClassY (l : Launch) (D : va_G) (HB : Heap) (h : hp_T) (hlt : l.stackTraces = false) (p1 : Int32) (hc : ¬ (p1 < 0 ∨ 8 ≤ p1)) : ct_M l y_PR_testClass (.code y_PR_testClass prog_1_method_27_code 1 (Option.none : Option Jvm.ClassFile.FieldType)) { frames := 6, cells := 1, slots := 6, locals := 84 } D HB [.int p1] h (fun o h2 => o = .inl none ∧ h2 = h) := by
  have k := c_PR_testClass l D HB h hlt p1
  rw [if_neg hc] at k
  have e : (fun (o : ct_O) (h2 : hp_T) => h2 = h ∧ o = .inl none) = fun o h2 => o = .inl none ∧ h2 = h := by funext o h2; exact propext and_comm
  rw [e] at k
  exact k
theorem k_testClassN (l : Launch) (D : va_G) (HB : Heap) (h : hp_T) (hlt : l.stackTraces = false) (p1 : Int32) (hc : p1 < 0 ∨ 8 ≤ p1) : ct_M l y_PR_testClass (.code y_PR_testClass prog_1_method_27_code 1 (Option.none : Option Jvm.ClassFile.FieldType)) { frames := 6, cells := 1, slots := 6, locals := 84 } D HB [.int p1] h (fun o h2 => o = .inr eA ∧ h2 = h) := by
  have k := c_PR_testClass l D HB h hlt p1
  rw [if_pos hc] at k
  have e : (fun (o : ct_O) (h2 : hp_T) => h2 = h ∧ o = .inr eA) = fun o h2 => o = .inr eA ∧ h2 = h := by funext o h2; exact propext and_comm
  rw [e] at k
  exact k
theorem k_testTerminalY (l : Launch) (D : va_G) (HB : Heap) (h : hp_T) (hlt : l.stackTraces = false) (p1 : Int32) (hc : ¬ (p1 < 0 ∨ ¬ p1 ≤ 99)) : ct_M l y_PR_testTerminal (.code y_PR_testTerminal prog_1_method_28_code 1 (Option.none : Option Jvm.ClassFile.FieldType)) { frames := 6, cells := 1, slots := 6, locals := 84 } D HB [.int p1] h (fun o h2 => o = .inl none ∧ h2 = h) := by
  have k := c_PR_testTerminal l D HB h hlt p1
  rw [if_neg hc] at k
  have e : (fun (o : ct_O) (h2 : hp_T) => h2 = h ∧ o = .inl none) = fun o h2 => o = .inl none ∧ h2 = h := by funext o h2; exact propext and_comm
  rw [e] at k
  exact k
theorem k_testTerminalN (l : Launch) (D : va_G) (HB : Heap) (h : hp_T) (hlt : l.stackTraces = false) (p1 : Int32) (hc : p1 < 0 ∨ ¬ p1 ≤ 99) : ct_M l y_PR_testTerminal (.code y_PR_testTerminal prog_1_method_28_code 1 (Option.none : Option Jvm.ClassFile.FieldType)) { frames := 6, cells := 1, slots := 6, locals := 84 } D HB [.int p1] h (fun o h2 => o = .inr eA ∧ h2 = h) := by
  have k := c_PR_testTerminal l D HB h hlt p1
  rw [if_pos hc] at k
  have e : (fun (o : ct_O) (h2 : hp_T) => h2 = h ∧ o = .inr eA) = fun o h2 => o = .inr eA ∧ h2 = h := by funext o h2; exact propext and_comm
  rw [e] at k
  exact k
theorem k_testLevelY (l : Launch) (D : va_G) (HB : Heap) (h : hp_T) (hlt : l.stackTraces = false) (p1 p2 : Int32) (hc : ¬ (p1 < p2 ∨ ¬ p1 ≤ 4)) : ct_M l y_PR_testLevel (.code y_PR_testLevel prog_1_method_29_code 2 (Option.none : Option Jvm.ClassFile.FieldType)) { frames := 6, cells := 1, slots := 6, locals := 84 } D HB [.int p1, .int p2] h (fun o h2 => o = .inl none ∧ h2 = h) := by
  have k := c_PR_testLevel l D HB h hlt p1 p2
  rw [if_neg hc] at k
  have e : (fun (o : ct_O) (h2 : hp_T) => h2 = h ∧ o = .inl none) = fun o h2 => o = .inl none ∧ h2 = h := by funext o h2; exact propext and_comm
  rw [e] at k
  exact k
theorem k_testLevelN (l : Launch) (D : va_G) (HB : Heap) (h : hp_T) (hlt : l.stackTraces = false) (p1 p2 : Int32) (hc : p1 < p2 ∨ ¬ p1 ≤ 4) : ct_M l y_PR_testLevel (.code y_PR_testLevel prog_1_method_29_code 2 (Option.none : Option Jvm.ClassFile.FieldType)) { frames := 6, cells := 1, slots := 6, locals := 84 } D HB [.int p1, .int p2] h (fun o h2 => o = .inr eA ∧ h2 = h) := by
  have k := c_PR_testLevel l D HB h hlt p1 p2
  rw [if_pos hc] at k
  have e : (fun (o : ct_O) (h2 : hp_T) => h2 = h ∧ o = .inr eA) = fun o h2 => o = .inr eA ∧ h2 = h := by funext o h2; exact propext and_comm
  rw [e] at k
  exact k
